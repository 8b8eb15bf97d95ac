theorem narz1 {x : Int32} (h : x.toInt = 1) : (vp_nar .boolean x).toInt = 1 := by
  obtain rfl : x = 1 := (eq32 x 1).mpr h
  rfl
set_option maxHeartbeats 4000000 in
set_option maxRecDepth 100000 in
theorem em_isWay {g : GG} {I : pI} {J : pJ} {R : pR} (hy : Ly g) (hr : Rf g R)  (w : Int32)  : SP g mX11_isWay [.int w] I J R (fun r I' J' R' => (I' = I ∧ J' = J ∧ R' = R) ∧ ∃ v : Int32, r = some (.int v) ∧ ((v.toInt = 1 ∧ 0 ≤ w.toInt ∧ w.toInt ≤ 4) ∨ (v.toInt = 0 ∧ ¬ (0 ≤ w.toInt ∧ w.toInt ≤ 4)))) := by
  refine SP_of ⟨by decide, rfl⟩ (Nat.le_of_ble_eq_true rfl) ?_
  refine WP_iload_n dX11_isWay_0 rfl ?_
  refine WP_i2l dX11_isWay_1 ?_
  obtain ⟨l4285, xl4285⟩ : ∃ v : Int64, v = w.toInt64 := ⟨_, rfl⟩
  rw [← xl4285]
  have hl4285 : l4285.toInt = w.toInt := by rw [xl4285]; exact t64 _
  refine WP_lconst (0) dX11_isWay_2 rfl ?_
  obtain ⟨l4286, hl4286, el4286⟩ : ∃ v : Int64, v.toInt = 0 ∧ (0 : Int64) = v := ⟨_, rfl, rfl⟩
  rw [el4286]
  refine WP_ldc2 (4) dX11_isWay_3 klX11_452 ?_
  obtain ⟨l4287, hl4287, el4287⟩ : ∃ v : Int64, v.toInt = (4) ∧ ((4) : Int64) = v := ⟨_, rfl, rfl⟩
  rw [el4287]
  refine WP_callS3 dX11_isWay_6 ⟨⟨⟨by decide, by decide⟩, zX11_in⟩, lX11_52, tX11_in⟩ (em_in hy hr _ _ _  ) (Nat.le_of_ble_eq_true rfl) ?_
  intro r Ia Ja Ra hq
  obtain ⟨⟨ea, eb, ec⟩, v4289, er, p4288⟩ := hq
  rw [ea, eb, ec, er]
  clear ea eb ec er Ia Ja Ra r
  exact WP_zret dX11_isWay_9 rfl (nar_z (by omega)) ⟨⟨rfl, rfl, rfl⟩, v4289, rfl, by
    rcases p4288 with ⟨a, b, c⟩ | ⟨a, b⟩
    · exact Or.inl ⟨a, by omega, by omega⟩
    · exact Or.inr ⟨a, by omega⟩⟩
set_option maxHeartbeats 4000000 in
set_option maxRecDepth 100000 in
theorem em_isSlot {g : GG} {I : pI} {J : pJ} {R : pR} (hy : Ly g) (hr : Rf g R)  (w : Int32)  : SP g mX11_isSlot [.int w] I J R (fun r I' J' R' => (I' = I ∧ J' = J ∧ R' = R) ∧ ∃ v : Int32, r = some (.int v) ∧ ((v.toInt = 1 ∧ 0 ≤ w.toInt ∧ w.toInt ≤ 2) ∨ (v.toInt = 0 ∧ ¬ (0 ≤ w.toInt ∧ w.toInt ≤ 2)))) := by
  refine SP_of ⟨by decide, rfl⟩ (Nat.le_of_ble_eq_true rfl) ?_
  refine WP_iload_n dX11_isSlot_0 rfl ?_
  refine WP_i2l dX11_isSlot_1 ?_
  obtain ⟨l4290, xl4290⟩ : ∃ v : Int64, v = w.toInt64 := ⟨_, rfl⟩
  rw [← xl4290]
  have hl4290 : l4290.toInt = w.toInt := by rw [xl4290]; exact t64 _
  refine WP_lconst (0) dX11_isSlot_2 rfl ?_
  obtain ⟨l4291, hl4291, el4291⟩ : ∃ v : Int64, v.toInt = 0 ∧ (0 : Int64) = v := ⟨_, rfl, rfl⟩
  rw [el4291]
  refine WP_ldc2 (2) dX11_isSlot_3 klX11_376 ?_
  obtain ⟨l4292, hl4292, el4292⟩ : ∃ v : Int64, v.toInt = (2) ∧ ((2) : Int64) = v := ⟨_, rfl, rfl⟩
  rw [el4292]
  refine WP_callS3 dX11_isSlot_6 ⟨⟨⟨by decide, by decide⟩, zX11_in⟩, lX11_52, tX11_in⟩ (em_in hy hr _ _ _  ) (Nat.le_of_ble_eq_true rfl) ?_
  intro r Ia Ja Ra hq
  obtain ⟨⟨ea, eb, ec⟩, v4294, er, p4293⟩ := hq
  rw [ea, eb, ec, er]
  clear ea eb ec er Ia Ja Ra r
  exact WP_zret dX11_isSlot_9 rfl (nar_z (by omega)) ⟨⟨rfl, rfl, rfl⟩, v4294, rfl, by
    rcases p4293 with ⟨a, b, c⟩ | ⟨a, b⟩
    · exact Or.inl ⟨a, by omega, by omega⟩
    · exact Or.inr ⟨a, by omega⟩⟩
set_option maxHeartbeats 4000000 in
set_option maxRecDepth 100000 in
theorem em_way {g : GG} {I : pI} {J : pJ} {R : pR} (hy : Ly g) (hr : Rf g R) {S : TwS} (s : Int32) (w : Int32) (hS : RTT g S I J) (hB : SBn S) : SP g mX11_way [.ref (ad g 0), .int s, .int w] I J R (fun r I' J' R' => R' = R ∧ FC g [38] I I' ∧ FC g [] J J' ∧ FQ g [] I I' ∧ ∃ v : Int32, r = some (.int v) ∧ (((0 ≤ s.toInt ∧ s.toInt < S.1 0 1) ∧ (0 ≤ w.toInt ∧ w.toInt ≤ 4) ∧ v = I (ad g 38) (28 + s.toInt.toNat) ∧ I' (ad g 38) = fun q => if q = 28 + s.toInt.toNat then w else I (ad g 38) q) ∨ (¬ ((0 ≤ s.toInt ∧ s.toInt < S.1 0 1) ∧ (0 ≤ w.toInt ∧ w.toInt ≤ 4)) ∧ v.toInt = -2 ∧ I' (ad g 38) = I (ad g 38)))) := by
  refine SP_of ⟨by decide, rfl⟩ (Nat.le_of_ble_eq_true rfl) ?_
  have fI0 : FC g [38] I I := FC_rf
  have fJ0 : FC g [] J J := FC_rf
  have fQ0 : FQ g [] I I := FQ_rf
  have hB2 := hB
  unfold SBn at hB2
  obtain ⟨z1, z2, z0, z3, z4⟩ := hS.1
  refine WP_aload_n dX11_way_0 rfl ?_
  refine WP_iload_n dX11_way_1 rfl ?_
  refine WP_callV1 (k := 11) dX11_way_2 ⟨⟨⟨by decide, by decide⟩, zX11_isSort⟩, lX11_367, by decide, rfl, vX11_isSort.1, vX11_isSort.2⟩ (ly_is hy 0 11 rfl) (em_isSort hy hr _  hS hB) (Nat.le_of_ble_eq_true rfl) ?_
  intro r Ia Ja Ra hq
  obtain ⟨⟨ea, eb, ec⟩, v4296, er, p4295⟩ := hq
  rw [ea, eb, ec, er]
  clear ea eb ec er Ia Ja Ra r
  refine WQ_if_eq 15 dX11_way_5 rfl (fun c4296 => ?_) (fun c4296 => ?_)
  · refine WQ_bipush (-2) (-2) dX11_way_15 rfl rfl (fun v4298 hv4298 => ?_)
    exact WP_iret dX11_way_17 rfl ⟨rfl, fI0, fJ0, fQ0, v4298, rfl, by
      exact Or.inr ⟨by omega, by omega, rfl⟩⟩
  · refine WP_iload_n dX11_way_8 rfl ?_
    refine WP_callS1 dX11_way_9 ⟨⟨⟨by decide, by decide⟩, zX11_isWay⟩, lX11_454, tX11_isWay⟩ (em_isWay hy hr _  ) (Nat.le_of_ble_eq_true rfl) ?_
    intro r Ia Ja Ra hq
    obtain ⟨⟨ea, eb, ec⟩, v4300, er, p4299⟩ := hq
    rw [ea, eb, ec, er]
    clear ea eb ec er Ia Ja Ra r
    refine WQ_if_ne 18 dX11_way_12 rfl (fun c4300 => ?_) (fun c4300 => ?_)
    · refine WP_aload_n dX11_way_18 rfl ?_
      refine WP_getr dX11_way_19 fX11_283 rfl (ly_is hy 0 11 rfl) (rf hr 0 59 38 (by decide)) ?_
      refine WQ_bipush (28) (28) dX11_way_22 rfl rfl (fun v4302 hv4302 => ?_)
      refine WP_iload_n dX11_way_24 rfl ?_
      refine WQ_iadd dX11_way_25 (by omega) (by omega) (fun v4303 hv4303 => ?_)
      refine WE_ia dX11_way_26 (ly_is hy 38 13 rfl) (ly_n hy 38 35 rfl) (by omega) (by omega) (fun v4304 ev4304 => ?_)
      refine WP_istore_n (ls' := [(0, _), (1, _), (2, _), (3, _)]) dX11_way_27 (by decide) rfl ?_
      refine WP_aload_n dX11_way_28 rfl ?_
      refine WP_getr dX11_way_29 fX11_283 rfl (ly_is hy 0 11 rfl) (rf hr 0 59 38 (by decide)) ?_
      refine WQ_bipush (28) (28) dX11_way_32 rfl rfl (fun v4305 hv4305 => ?_)
      refine WP_iload_n dX11_way_34 rfl ?_
      refine WQ_iadd dX11_way_35 (by omega) (by omega) (fun v4306 hv4306 => ?_)
      refine WP_iload_n dX11_way_36 rfl ?_
      refine WE_is dX11_way_37 (ly_is hy 38 13 rfl) (ly_n hy 38 35 rfl) (by omega) (by omega) (fun I4307 eI4307 => ?_)
      have fI4308 : FC g [38] I I4307 := by rw [eI4307]; exact FC_pp fI0 (by decide)
      have fQ4309 : FQ g [] I I4307 := by rw [eI4307]; exact FQ_ppn (ly_ne hy (by decide) (by decide) (by decide)) fQ0
      refine WP_iload_n dX11_way_38 rfl ?_
      exact WP_iret dX11_way_39 rfl ⟨rfl, fI4308, fJ0, fQ4309, v4304, rfl, by
        refine Or.inl ⟨⟨by omega, by omega⟩, ⟨by omega, by omega⟩, ?_, ?_⟩
        · rw [← ev4304, show v4303.toInt.toNat = 28 + s.toInt.toNat by omega]
        · rw [eI4307, pp_fun, show v4306.toInt.toNat = 28 + s.toInt.toNat by omega]⟩
    · refine WQ_bipush (-2) (-2) dX11_way_15 rfl rfl (fun v4310 hv4310 => ?_)
      exact WP_iret dX11_way_17 rfl ⟨rfl, fI0, fJ0, fQ0, v4310, rfl, by
        exact Or.inr ⟨by omega, by omega, rfl⟩⟩
set_option maxHeartbeats 4000000 in
set_option maxRecDepth 100000 in
theorem em_anew {g : GG} {I : pI} {J : pJ} {R : pR} (hy : Ly g) (hr : Rf g R) {S : TwS}  (hS : RTT g S I J) (hB : SBn S) : SP g mX11_anew [.ref (ad g 0)] I J R (fun r I' J' R' => R' = R ∧ FC g [38] I I' ∧ FC g [0] J J' ∧ FQ g [] I I' ∧ ∃ v : Int32, r = some (.int v) ∧ (v = I (ad g 38) 33 ∧ (I' (ad g 38) 33).toInt = 0 ∧ (∀ q, 28 ≤ q → q < 32 → I' (ad g 38) q = I (ad g 38) q) ∧ (∀ q : Nat, q < 35 → (q < 28 ∨ 32 ≤ q) → (I' (ad g 38) q).toInt = if (q : Int) < S.1 0 1 then (I (ad g 10) q).toInt else 0) ∧ (J' (ad g 0) 61).toInt = 0)) := by
  refine SP_of ⟨by decide, rfl⟩ (Nat.le_of_ble_eq_true rfl) ?_
  have fI0 : FC g [38] I I := FC_rf
  have fJ0 : FC g [0] J J := FC_rf
  have fQ0 : FQ g [] I I := FQ_rf
  have hB2 := hB
  unfold SBn at hB2
  obtain ⟨z1, z2, z0, z3, z4⟩ := hS.1
  refine WP_aload_n dX11_anew_0 rfl ?_
  refine WP_getr dX11_anew_1 fX11_283 rfl (ly_is hy 0 11 rfl) (rf hr 0 59 38 (by decide)) ?_
  refine WQ_bipush (33) (33) dX11_anew_4 rfl rfl (fun v4311 hv4311 => ?_)
  obtain ⟨w4313, ew4313⟩ : ∃ w : Int32, I (ad g 38) 33 = w := ⟨_, rfl⟩
  refine WE_iak (z := 33) dX11_anew_6 (ly_is hy 38 13 rfl) (ly_n hy 38 35 rfl) hv4311 (by decide) ew4313 ?_
  refine WP_istore_n (ls' := [(0, _), (1, _)]) dX11_anew_7 (by decide) rfl ?_
  refine WP_aload_n dX11_anew_8 rfl ?_
  refine WP_aload_n dX11_anew_9 rfl ?_
  refine WP_getr dX11_anew_10 fX11_283 rfl (ly_is hy 0 11 rfl) (rf hr 0 59 38 (by decide)) ?_
  refine WP_callV1 (k := 11) dX11_anew_13 ⟨⟨⟨by decide, by decide⟩, zX11_begin⟩, lX11_342, by decide, rfl, vX11_begin.1, vX11_begin.2⟩ (ly_is hy 0 11 rfl) (em_begin38 hy hr   (mm := S.1 0 1) z1 ⟨by omega, by omega⟩) (Nat.le_of_ble_eq_true rfl) ?_
  intro r I4315 J4316 Ra hq
  obtain ⟨ec, g4317, g4318, g4319, er, p4314⟩ := hq
  rw [ec, er]
  clear ec er Ra r
  have fI4320 : FC g [38] I I4315 := FC_tr fI0 (FC_mono g4317 (by decide))
  have fJ4321 : FC g [0] J J4316 := FC_tr fJ0 (FC_mono g4318 (by decide))
  have fQ4322 : FQ g [] I I4315 := FQ_tr fQ0 (FQ_mono g4319 (by decide))
  refine WP_aload_n dX11_anew_16 rfl ?_
  refine WP_lconst (0) dX11_anew_17 rfl ?_
  obtain ⟨l4323, hl4323, el4323⟩ : ∃ v : Int64, v.toInt = 0 ∧ (0 : Int64) = v := ⟨_, rfl, rfl⟩
  rw [el4323]
  refine WQ_putl dX11_anew_18 fX11_346 rfl rfl (ly_is hy 0 11 rfl) (fun J4324 eJ4324 => ?_)
  have e4325 : J4324 (ad g 0) 61 = l4323 := by rw [eJ4324, pp_self]
  have fJ4326 : FC g [0] J J4324 := by rw [eJ4324]; exact FC_pp fJ4321 (by decide)
  refine WP_iload_n dX11_anew_21 rfl ?_
  exact WP_iret dX11_anew_22 rfl ⟨rfl, fI4320, fJ4326, fQ4322, w4313, rfl, by
    try simp only [e4325]
    refine ⟨ew4313.symm, ?_, p4314.2, p4314.1, by omega⟩
    rw [p4314.1 33 (by decide) (by decide), if_neg (by omega)]⟩
set_option maxHeartbeats 4000000 in
set_option maxRecDepth 100000 in
theorem em_keep {g : GG} {I : pI} {J : pJ} {R : pR} (hy : Ly g) (hr : Rf g R)  (sl : Int32)  : SP g mX11_keep [.ref (ad g 0), .int sl] I J R (fun r I' J' R' => R' = R ∧ FC g [42, 44] I I' ∧ FC g [43] J J' ∧ FQ g [] I I' ∧ ∃ v : Int32, r = some (.int v) ∧ ((∃ k : Nat, k < 3 ∧ sl.toInt = (k : Int) ∧ v = I (ad g 38) 33 ∧ (∀ q, q < 35 → I' (ad g 42) (35 * k + q) = I (ad g 38) q) ∧ (∀ q, q < 105 → (q < 35 * k ∨ 35 * k + 35 ≤ q) → I' (ad g 42) q = I (ad g 42) q) ∧ (∀ q, q ≠ k → I' (ad g 44) q = I (ad g 44) q) ∧ (I' (ad g 44) k).toInt = 1 ∧ (∀ q, q ≠ k → J' (ad g 43) q = J (ad g 43) q) ∧ J' (ad g 43) k = J (ad g 0) 61) ∨ (¬ (0 ≤ sl.toInt ∧ sl.toInt < 3) ∧ v.toInt = -2 ∧ I' = I ∧ J' = J))) := by
  refine SP_of ⟨by decide, rfl⟩ (Nat.le_of_ble_eq_true rfl) ?_
  have fI0 : FC g [42, 44] I I := FC_rf
  have fJ0 : FC g [43] J J := FC_rf
  have fQ0 : FQ g [] I I := FQ_rf
  refine WP_iload_n dX11_keep_0 rfl ?_
  refine WP_callS1 dX11_keep_1 ⟨⟨⟨by decide, by decide⟩, zX11_isSlot⟩, lX11_494, tX11_isSlot⟩ (em_isSlot hy hr _  ) (Nat.le_of_ble_eq_true rfl) ?_
  intro r Ia Ja Ra hq
  obtain ⟨⟨ea, eb, ec⟩, v4328, er, p4327⟩ := hq
  rw [ea, eb, ec, er]
  clear ea eb ec er Ia Ja Ra r
  refine WQ_if_ne 10 dX11_keep_4 rfl (fun c4328 => ?_) (fun c4328 => ?_)
  · refine WQ_iconst (0) (0) dX11_keep_10 rfl rfl (fun v4330 hv4330 => ?_)
    refine WP_istore_n (ls' := [(0, _), (1, _), (2, _)]) dX11_keep_11 (by decide) rfl ?_
    obtain ⟨k, hk3, hk⟩ : ∃ k : Nat, k < 3 ∧ sl.toInt = (k : Int) := ⟨sl.toInt.toNat, by omega, by omega⟩
    have lp4335 : ∀ (mz : Nat) (i4331 : Int32) (I4332 : pI), FC g [42, 44] I I4332 → FQ g [] I I4332 → (∃ i : Nat, i4331.toInt = (i : Int) ∧ i ≤ 35 ∧ (∀ q, q < i → I4332 (ad g 42) (35 * k + q) = I (ad g 38) q) ∧ (∀ q, q < 105 → (q < 35 * k ∨ 35 * k + 35 ≤ q) → I4332 (ad g 42) q = I (ad g 42) q) ∧ FC g [42] I I4332) → (36 - i4331.toInt.toNat) < mz → WP g mX11_keep 12 [(0, .ref (ad g 0)), (1, .int sl), (2, .int i4331)] [] I4332 J R (fun r I' J' R' => R' = R ∧ FC g [42, 44] I I' ∧ FC g [43] J J' ∧ FQ g [] I I' ∧ ∃ v : Int32, r = some (.int v) ∧ ((∃ k : Nat, k < 3 ∧ sl.toInt = (k : Int) ∧ v = I (ad g 38) 33 ∧ (∀ q, q < 35 → I' (ad g 42) (35 * k + q) = I (ad g 38) q) ∧ (∀ q, q < 105 → (q < 35 * k ∨ 35 * k + 35 ≤ q) → I' (ad g 42) q = I (ad g 42) q) ∧ (∀ q, q ≠ k → I' (ad g 44) q = I (ad g 44) q) ∧ (I' (ad g 44) k).toInt = 1 ∧ (∀ q, q ≠ k → J' (ad g 43) q = J (ad g 43) q) ∧ J' (ad g 43) k = J (ad g 0) 61) ∨ (¬ (0 ≤ sl.toInt ∧ sl.toInt < 3) ∧ v.toInt = -2 ∧ I' = I ∧ J' = J))) := by
      intro mz
      induction mz with
      | zero =>
        intro i4331 I4332 fI4333 fQ4334 hvlp4335 hmlp4335
        exact absurd hmlp4335 (Nat.not_lt_zero _)
      | succ mz ihlp4335 =>
        intro i4331 I4332 fI4333 fQ4334 hvlp4335 hmlp4335
        obtain ⟨i, ii, i35, iA, iB, iF⟩ := hvlp4335
        refine WP_iload_n dX11_keep_12 rfl ?_
        refine WQ_bipush (35) (35) dX11_keep_13 rfl rfl (fun v4336 hv4336 => ?_)
        refine WQ_icmp_ge 41 dX11_keep_15 rfl (fun c4336 => ?_) (fun c4336 => ?_)
        · refine WP_aload_n dX11_keep_41 rfl ?_
          refine WP_getr dX11_keep_42 fX11_298 rfl (ly_is hy 0 11 rfl) (rf hr 0 66 43 (by decide)) ?_
          refine WP_iload_n dX11_keep_45 rfl ?_
          have fC := fI4333
          refine WP_aload_n dX11_keep_46 rfl ?_
          obtain ⟨w4338, ew4338⟩ : ∃ w : Int64, J (ad g 0) 61 = w := ⟨_, rfl⟩
          refine WP_getl dX11_keep_47 fX11_346 rfl (ly_is hy 0 11 rfl) ?_
          rw [ew4338]
          refine WE_ls dX11_keep_50 (ly_is hy 43 14 rfl) (ly_n hy 43 3 rfl) (by omega) (by omega) (fun J4339 eJ4339 => ?_)
          have e4340 : J4339 (ad g 0) 61 = w4338 := by rw [eJ4339, pp_ne _ _ (Or.inl (ly_ne hy (by decide) (by decide) (by decide)))]; exact ew4338
          have fJ4341 : FC g [43] J J4339 := by rw [eJ4339]; exact FC_pp fJ0 (by decide)
          refine WP_aload_n dX11_keep_51 rfl ?_
          refine WP_getr dX11_keep_52 fX11_301 rfl (ly_is hy 0 11 rfl) (rf hr 0 67 44 (by decide)) ?_
          refine WP_iload_n dX11_keep_55 rfl ?_
          refine WQ_iconst (1) (1) dX11_keep_56 rfl rfl (fun v4342 hv4342 => ?_)
          refine WE_zs dX11_keep_57 (ly_is hy 44 15 rfl) (ly_n hy 44 3 rfl) (by omega) (by omega) (fun I4343 eI4343 => ?_)
          have fI4344 : FC g [42, 44] I I4343 := by rw [eI4343]; exact FC_pp fI4333 (by decide)
          have fQ4345 : FQ g [] I I4343 := by rw [eI4343]; exact FQ_ppn (ly_ne hy (by decide) (by decide) (by decide)) fQ4334
          refine WP_aload_n dX11_keep_58 rfl ?_
          refine WP_getr dX11_keep_59 fX11_283 rfl (ly_is hy 0 11 rfl) (rf hr 0 59 38 (by decide)) ?_
          refine WQ_bipush (33) (33) dX11_keep_62 rfl rfl (fun v4346 hv4346 => ?_)
          obtain ⟨w4348, ew4348⟩ : ∃ w : Int32, I4343 (ad g 38) 33 = w := ⟨_, rfl⟩
          refine WE_iak (z := 33) dX11_keep_64 (ly_is hy 38 13 rfl) (ly_n hy 38 35 rfl) hv4346 (by decide) ew4348 ?_
          exact WP_iret dX11_keep_65 rfl ⟨rfl, fI4344, fJ4341, fQ4345, w4348, rfl, by
            try simp only [ew4348, e4340]
            refine Or.inl ⟨k, hk3, hk, ?_, fun q hq => ?_, fun q h8 h9 => ?_, fun q hq => ?_, ?_, fun q hq => ?_, ?_⟩
            · have z9 : I4343 (ad g 38) 33 = I (ad g 38) 33 := by rw [eI4343, pp_off _ _ (ly_ne hy (by decide) (by decide) (by decide)), FC_at hy fC 38 (by decide) (by decide)]
              rw [ew4348] at z9; exact z9
            · rw [eI4343, pp_off _ _ (ly_ne hy (by decide) (by decide) (by decide))]; exact iA q (by omega)
            · rw [eI4343, pp_off _ _ (ly_ne hy (by decide) (by decide) (by decide))]; exact iB q h8 h9
            · rw [eI4343, show sl.toInt.toNat = k by omega, pp_at, if_neg hq, FC_at hy iF 44 (by decide) (by decide)]
            · rw [eI4343, show sl.toInt.toNat = k by omega, pp_at, if_pos rfl]; exact narz1 (by omega)
            · rw [eJ4339, show sl.toInt.toNat = k by omega, pp_at, if_neg hq]
            · rw [eJ4339, show sl.toInt.toNat = k by omega, pp_at, if_pos rfl] <;> first | rfl | assumption | exact e4340.symm⟩
        · refine WP_aload_n dX11_keep_18 rfl ?_
          refine WP_getr dX11_keep_19 fX11_295 rfl (ly_is hy 0 11 rfl) (rf hr 0 65 42 (by decide)) ?_
          refine WQ_bipush (35) (35) dX11_keep_22 rfl rfl (fun v4349 hv4349 => ?_)
          refine WP_iload_n dX11_keep_24 rfl ?_
          refine WQ_imulK (35) dX11_keep_25 hv4349 (by omega) (by omega) (fun v4350 hv4350 => ?_)
          refine WP_iload_n dX11_keep_26 rfl ?_
          refine WQ_iadd dX11_keep_27 (by omega) (by omega) (fun v4351 hv4351 => ?_)
          refine WP_aload_n dX11_keep_28 rfl ?_
          refine WP_getr dX11_keep_29 fX11_283 rfl (ly_is hy 0 11 rfl) (rf hr 0 59 38 (by decide)) ?_
          refine WP_iload_n dX11_keep_32 rfl ?_
          have fB := fI4333
          refine WE_ia dX11_keep_33 (ly_is hy 38 13 rfl) (ly_n hy 38 35 rfl) (by omega) (by omega) (fun v4352 ev4352 => ?_)
          refine WE_is dX11_keep_34 (ly_is hy 42 13 rfl) (ly_n hy 42 105 rfl) (by omega) (by omega) (fun I4353 eI4353 => ?_)
          have e4354 : I4353 (ad g 38) i4331.toInt.toNat = v4352 := by rw [eI4353, pp_ne _ _ (Or.inl (ly_ne hy (by decide) (by decide) (by decide)))]; exact ev4352
          have fI4355 : FC g [42, 44] I I4353 := by rw [eI4353]; exact FC_pp fI4333 (by decide)
          have fQ4356 : FQ g [] I I4353 := by rw [eI4353]; exact FQ_ppn (ly_ne hy (by decide) (by decide) (by decide)) fQ4334
          refine WP_iinc (ls' := [(0, _), (1, _), (2, _)]) dX11_keep_35 rfl (by decide) rfl ?_
          have hv4357 : (i4331 + Int32.ofInt (1)).toInt = i4331.toInt + (1) := ia_n rfl (by omega) (by omega)
          generalize i4331 + Int32.ofInt (1) = v4357 at hv4357 ⊢
          refine WP_goto 12 dX11_keep_38 rfl ?_
          refine WP_sub (fc rfl (fc rfl (fc rfl fn))) (ihlp4335 v4357 I4353 fI4355 fQ4356 ?_ ?_)
          · refine ⟨i + 1, by omega, by omega, fun q hq => ?_, fun q h8 h9 => ?_, by rw [eI4353]; exact FC_pp iF (by decide)⟩
            · rw [eI4353, show v4351.toInt.toNat = 35 * k + i by omega, pp_at]
              split
              · rename_i e9
                obtain rfl : q = i := by omega
                rw [← ev4352, show i4331.toInt.toNat = q by omega, FC_at hy fB 38 (by decide) (by decide)]
              · exact iA q (by omega)
            · rw [eI4353, show v4351.toInt.toNat = 35 * k + i by omega, pp_at, if_neg (by omega)]; exact iB q h8 h9
          · omega
    refine WP_sub (fc rfl (fc rfl (fc rfl fn))) (lp4335 _ v4330 I fI0 fQ0 ?_ (Nat.lt_succ_self _))
    · exact ⟨0, by omega, by omega, fun q h => absurd h (Nat.not_lt_zero _), fun q _ _ => rfl, FC_rf⟩
  · refine WQ_bipush (-2) (-2) dX11_keep_7 rfl rfl (fun v4358 hv4358 => ?_)
    exact WP_iret dX11_keep_9 rfl ⟨rfl, fI0, fJ0, fQ0, v4358, rfl, by
      exact Or.inr ⟨by omega, by omega, rfl, rfl⟩⟩
set_option maxHeartbeats 4000000 in
set_option maxRecDepth 100000 in
theorem em_take {g : GG} {I : pI} {J : pJ} {R : pR} (hy : Ly g) (hr : Rf g R)  (sl : Int32)  : SP g mX11_take [.ref (ad g 0), .int sl] I J R (fun r I' J' R' => R' = R ∧ FC g [38] I I' ∧ FC g [0] J J' ∧ FQ g [] I I' ∧ ∃ v : Int32, r = some (.int v) ∧ ((∃ k : Nat, k < 3 ∧ sl.toInt = (k : Int) ∧ (((I (ad g 44) k).toInt = 0 ∧ v.toInt = -4 ∧ I' = I ∧ J' = J) ∨ ((I (ad g 44) k).toInt ≠ 0 ∧ v = I (ad g 42) (35 * k + 33) ∧ (∀ q, q < 35 → I' (ad g 38) q = I (ad g 42) (35 * k + q)) ∧ J' (ad g 0) 61 = J (ad g 43) k))) ∨ (¬ (0 ≤ sl.toInt ∧ sl.toInt < 3) ∧ v.toInt = -2 ∧ I' = I ∧ J' = J))) := by
  refine SP_of ⟨by decide, rfl⟩ (Nat.le_of_ble_eq_true rfl) ?_
  have fI0 : FC g [38] I I := FC_rf
  have fJ0 : FC g [0] J J := FC_rf
  have fQ0 : FQ g [] I I := FQ_rf
  refine WP_iload_n dX11_take_0 rfl ?_
  refine WP_callS1 dX11_take_1 ⟨⟨⟨by decide, by decide⟩, zX11_isSlot⟩, lX11_494, tX11_isSlot⟩ (em_isSlot hy hr _  ) (Nat.le_of_ble_eq_true rfl) ?_
  intro r Ia Ja Ra hq
  obtain ⟨⟨ea, eb, ec⟩, v4360, er, p4359⟩ := hq
  rw [ea, eb, ec, er]
  clear ea eb ec er Ia Ja Ra r
  refine WQ_if_ne 10 dX11_take_4 rfl (fun c4360 => ?_) (fun c4360 => ?_)
  · obtain ⟨k, hk3, hk⟩ : ∃ k : Nat, k < 3 ∧ sl.toInt = (k : Int) := ⟨sl.toInt.toNat, by omega, by omega⟩
    refine WP_aload_n dX11_take_10 rfl ?_
    refine WP_getr dX11_take_11 fX11_301 rfl (ly_is hy 0 11 rfl) (rf hr 0 67 44 (by decide)) ?_
    refine WP_iload_n dX11_take_14 rfl ?_
    refine WE_za dX11_take_15 (ly_is hy 44 15 rfl) (ly_n hy 44 3 rfl) (by omega) (by omega) (fun v4362 ev4362 => ?_)
    have hz16 : I (ad g 44) k = v4362 := by rw [← ev4362, show sl.toInt.toNat = k by omega]
    refine WQ_if_ne 22 dX11_take_16 rfl (fun c4362 => ?_) (fun c4362 => ?_)
    · refine WQ_iconst (0) (0) dX11_take_22 rfl rfl (fun v4364 hv4364 => ?_)
      refine WP_istore_n (ls' := [(0, _), (1, _), (2, _)]) dX11_take_23 (by decide) rfl ?_
      have lp4369 : ∀ (mz : Nat) (i4365 : Int32) (I4366 : pI), FC g [38] I I4366 → FQ g [] I I4366 → (∃ i : Nat, i4365.toInt = (i : Int) ∧ i ≤ 35 ∧ (∀ q, q < i → I4366 (ad g 38) q = I (ad g 42) (35 * k + q))) → (36 - i4365.toInt.toNat) < mz → WP g mX11_take 24 [(0, .ref (ad g 0)), (1, .int sl), (2, .int i4365)] [] I4366 J R (fun r I' J' R' => R' = R ∧ FC g [38] I I' ∧ FC g [0] J J' ∧ FQ g [] I I' ∧ ∃ v : Int32, r = some (.int v) ∧ ((∃ k : Nat, k < 3 ∧ sl.toInt = (k : Int) ∧ (((I (ad g 44) k).toInt = 0 ∧ v.toInt = -4 ∧ I' = I ∧ J' = J) ∨ ((I (ad g 44) k).toInt ≠ 0 ∧ v = I (ad g 42) (35 * k + 33) ∧ (∀ q, q < 35 → I' (ad g 38) q = I (ad g 42) (35 * k + q)) ∧ J' (ad g 0) 61 = J (ad g 43) k))) ∨ (¬ (0 ≤ sl.toInt ∧ sl.toInt < 3) ∧ v.toInt = -2 ∧ I' = I ∧ J' = J))) := by
        intro mz
        induction mz with
        | zero =>
          intro i4365 I4366 fI4367 fQ4368 hvlp4369 hmlp4369
          exact absurd hmlp4369 (Nat.not_lt_zero _)
        | succ mz ihlp4369 =>
          intro i4365 I4366 fI4367 fQ4368 hvlp4369 hmlp4369
          obtain ⟨i, ii, i35, iA⟩ := hvlp4369
          refine WP_iload_n dX11_take_24 rfl ?_
          refine WQ_bipush (35) (35) dX11_take_25 rfl rfl (fun v4370 hv4370 => ?_)
          refine WQ_icmp_ge 53 dX11_take_27 rfl (fun c4370 => ?_) (fun c4370 => ?_)
          · refine WP_aload_n dX11_take_53 rfl ?_
            refine WP_aload_n dX11_take_54 rfl ?_
            refine WP_getr dX11_take_55 fX11_298 rfl (ly_is hy 0 11 rfl) (rf hr 0 66 43 (by decide)) ?_
            refine WP_iload_n dX11_take_58 rfl ?_
            refine WE_la dX11_take_59 (ly_is hy 43 14 rfl) (ly_n hy 43 3 rfl) (by omega) (by omega) (fun l4372 el4372 => ?_)
            refine WQ_putl dX11_take_60 fX11_346 rfl rfl (ly_is hy 0 11 rfl) (fun J4373 eJ4373 => ?_)
            have e4374 : J4373 (ad g 43) sl.toInt.toNat = l4372 := by rw [eJ4373, pp_ne _ _ (Or.inl (ly_ne hy (by decide) (by decide) (by decide)))]; exact el4372
            have e4375 : J4373 (ad g 0) 61 = l4372 := by rw [eJ4373, pp_self]
            have fJ4376 : FC g [0] J J4373 := by rw [eJ4373]; exact FC_pp fJ0 (by decide)
            refine WP_aload_n dX11_take_63 rfl ?_
            refine WP_getr dX11_take_64 fX11_283 rfl (ly_is hy 0 11 rfl) (rf hr 0 59 38 (by decide)) ?_
            refine WQ_bipush (33) (33) dX11_take_67 rfl rfl (fun v4377 hv4377 => ?_)
            obtain ⟨w4379, ew4379⟩ : ∃ w : Int32, I4366 (ad g 38) 33 = w := ⟨_, rfl⟩
            refine WE_iak (z := 33) dX11_take_69 (ly_is hy 38 13 rfl) (ly_n hy 38 35 rfl) hv4377 (by decide) ew4379 ?_
            exact WP_iret dX11_take_70 rfl ⟨rfl, fI4367, fJ4376, fQ4368, w4379, rfl, by
              try simp only [ew4379, e4375]
              refine Or.inl ⟨k, hk3, hk, Or.inr ⟨by rw [hz16]; omega, ?_, fun q hq => iA q (by omega), ?_⟩⟩
              · have z9 := iA 33 (by omega)
                rw [ew4379] at z9; exact z9
              · rw [← el4372, show sl.toInt.toNat = k by omega] <;> first | rfl | assumption⟩
          · refine WP_aload_n dX11_take_30 rfl ?_
            refine WP_getr dX11_take_31 fX11_283 rfl (ly_is hy 0 11 rfl) (rf hr 0 59 38 (by decide)) ?_
            refine WP_iload_n dX11_take_34 rfl ?_
            refine WP_aload_n dX11_take_35 rfl ?_
            refine WP_getr dX11_take_36 fX11_295 rfl (ly_is hy 0 11 rfl) (rf hr 0 65 42 (by decide)) ?_
            refine WQ_bipush (35) (35) dX11_take_39 rfl rfl (fun v4380 hv4380 => ?_)
            refine WP_iload_n dX11_take_41 rfl ?_
            refine WQ_imulK (35) dX11_take_42 hv4380 (by omega) (by omega) (fun v4381 hv4381 => ?_)
            refine WP_iload_n dX11_take_43 rfl ?_
            refine WQ_iadd dX11_take_44 (by omega) (by omega) (fun v4382 hv4382 => ?_)
            have fB := fI4367
            refine WE_ia dX11_take_45 (ly_is hy 42 13 rfl) (ly_n hy 42 105 rfl) (by omega) (by omega) (fun v4383 ev4383 => ?_)
            refine WE_is dX11_take_46 (ly_is hy 38 13 rfl) (ly_n hy 38 35 rfl) (by omega) (by omega) (fun I4384 eI4384 => ?_)
            have e4385 : I4384 (ad g 42) v4382.toInt.toNat = v4383 := by rw [eI4384, pp_ne _ _ (Or.inl (ly_ne hy (by decide) (by decide) (by decide)))]; exact ev4383
            have fI4386 : FC g [38] I I4384 := by rw [eI4384]; exact FC_pp fI4367 (by decide)
            have fQ4387 : FQ g [] I I4384 := by rw [eI4384]; exact FQ_ppn (ly_ne hy (by decide) (by decide) (by decide)) fQ4368
            refine WP_iinc (ls' := [(0, _), (1, _), (2, _)]) dX11_take_47 rfl (by decide) rfl ?_
            have hv4388 : (i4365 + Int32.ofInt (1)).toInt = i4365.toInt + (1) := ia_n rfl (by omega) (by omega)
            generalize i4365 + Int32.ofInt (1) = v4388 at hv4388 ⊢
            refine WP_goto 24 dX11_take_50 rfl ?_
            refine WP_sub (fc rfl (fc rfl (fc rfl fn))) (ihlp4369 v4388 I4384 fI4386 fQ4387 ?_ ?_)
            · refine ⟨i + 1, by omega, by omega, fun q hq => ?_⟩
              rw [eI4384, show i4365.toInt.toNat = i by omega, pp_at]
              split
              · rename_i e9
                rw [e9, ← ev4383, show v4382.toInt.toNat = 35 * k + i by omega, FC_at hy fB 42 (by decide) (by decide)]
              · exact iA q (by omega)
            · omega
      refine WP_sub (fc rfl (fc rfl (fc rfl fn))) (lp4369 _ v4364 I fI0 fQ0 ?_ (Nat.lt_succ_self _))
      · exact ⟨0, by omega, by omega, fun q h => absurd h (Nat.not_lt_zero _)⟩
    · refine WQ_bipush (-4) (-4) dX11_take_19 rfl rfl (fun v4389 hv4389 => ?_)
      exact WP_iret dX11_take_21 rfl ⟨rfl, fI0, fJ0, fQ0, v4389, rfl, by
        exact Or.inl ⟨k, hk3, hk, Or.inl ⟨by rw [hz16]; omega, by omega, rfl, rfl⟩⟩⟩
  · refine WQ_bipush (-2) (-2) dX11_take_7 rfl rfl (fun v4390 hv4390 => ?_)
    exact WP_iret dX11_take_9 rfl ⟨rfl, fI0, fJ0, fQ0, v4390, rfl, by
      exact Or.inr ⟨by omega, by omega, rfl, rfl⟩⟩
