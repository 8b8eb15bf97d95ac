/-- a run becomes another: cells a, a + 1, a + 2 of I' hold what b, b + 1, b + 2 of I hold -/
def BCM (g : GG) (a b : Nat) (I : pI) (J : pJ) (I' : pI) (J' : pJ) : Prop := (I' (ad g a) 0 = I (ad g b) 0 ∧ I' (ad g a) 1 = I (ad g b) 1 ∧ I' (ad g a) 2 = I (ad g b) 2 ∧ J' (ad g a) 3 = J (ad g b) 3) ∧ (∀ q, q < 4 → I' (ad g (a + 1)) q = I (ad g (b + 1)) q) ∧ ∀ q, q < 28 → I' (ad g (a + 2)) q = I (ad g (b + 2)) q
set_option maxHeartbeats 4000000 in
set_option maxRecDepth 100000 in
theorem ex_within {g : GG} {I : pI} {J : pJ} {R : pR} (hy : LyX g) (hr : RfX g R)  (a : Int32) (lo : Int32) (hi : Int32)  : SP g mX10_within [.int a, .int lo, .int hi] I J R (fun r I' J' R' => (I' = I ∧ J' = J ∧ R' = R) ∧ ∃ v : Int32, r = some (.int v) ∧ ((v.toInt = 1 ∧ lo.toInt ≤ a.toInt ∧ a.toInt ≤ hi.toInt) ∨ (v.toInt = 0 ∧ ¬ (lo.toInt ≤ a.toInt ∧ a.toInt ≤ hi.toInt)))) := by
  refine SP_of ⟨by decide, rfl⟩ (Nat.le_of_ble_eq_true rfl) ?_
  refine WP_iload_n dX10_within_0 rfl ?_
  refine WP_iload_n dX10_within_1 rfl ?_
  refine WQ_icmp_lt 14 dX10_within_2 rfl (fun c3500 => ?_) (fun c3500 => ?_)
  · refine WQ_iconst (0) (0) dX10_within_14 rfl rfl (fun v3502 hv3502 => ?_)
    exact WP_zret dX10_within_15 rfl (nar_z (by omega)) ⟨⟨rfl, rfl, rfl⟩, v3502, rfl, by
      first
      | exact Or.inl ⟨by omega, by omega, by omega⟩
      | exact Or.inr ⟨by omega, by omega⟩⟩
  · refine WP_iload_n dX10_within_5 rfl ?_
    refine WP_iload_n dX10_within_6 rfl ?_
    refine WQ_icmp_gt 14 dX10_within_7 rfl (fun c3502 => ?_) (fun c3502 => ?_)
    · refine WQ_iconst (0) (0) dX10_within_14 rfl rfl (fun v3504 hv3504 => ?_)
      exact WP_zret dX10_within_15 rfl (nar_z (by omega)) ⟨⟨rfl, rfl, rfl⟩, v3504, rfl, by
        first
        | exact Or.inl ⟨by omega, by omega, by omega⟩
        | exact Or.inr ⟨by omega, by omega⟩⟩
    · refine WQ_iconst (1) (1) dX10_within_10 rfl rfl (fun v3505 hv3505 => ?_)
      refine WP_goto 15 dX10_within_11 rfl ?_
      exact WP_zret dX10_within_15 rfl (nar_z (by omega)) ⟨⟨rfl, rfl, rfl⟩, v3505, rfl, by
        first
        | exact Or.inl ⟨by omega, by omega, by omega⟩
        | exact Or.inr ⟨by omega, by omega⟩⟩
set_option maxHeartbeats 4000000 in
set_option maxRecDepth 100000 in
theorem ex_isWay {g : GG} {I : pI} {J : pJ} {R : pR} (hy : LyX g) (hr : RfX g R)  (w : Int32)  : SP g mX10_isWay [.int w] I J R (fun r I' J' R' => (I' = I ∧ J' = J ∧ R' = R) ∧ ∃ v : Int32, r = some (.int v) ∧ ((v.toInt = 1 ∧ 0 ≤ w.toInt ∧ w.toInt ≤ 4) ∨ (v.toInt = 0 ∧ ¬ (0 ≤ w.toInt ∧ w.toInt ≤ 4)))) := by
  refine SP_of ⟨by decide, rfl⟩ (Nat.le_of_ble_eq_true rfl) ?_
  refine WP_iload_n dX10_isWay_0 rfl ?_
  refine WQ_iconst (0) (0) dX10_isWay_1 rfl rfl (fun v3506 hv3506 => ?_)
  refine WQ_iconst (4) (4) dX10_isWay_2 rfl rfl (fun v3507 hv3507 => ?_)
  refine WP_callS3 dX10_isWay_3 ⟨⟨⟨by decide, by decide⟩, zX10_within⟩, lX10_206, tX10_within⟩ (ex_within hy hr _ _ _  ) (Nat.le_of_ble_eq_true rfl) ?_
  intro r Ia Ja Ra hq
  obtain ⟨⟨ea, eb, ec⟩, v3509, er, p3508⟩ := hq
  rw [ea, eb, ec, er]
  clear ea eb ec er Ia Ja Ra r
  exact WP_zret dX10_isWay_6 rfl (nar_z (by omega)) ⟨⟨rfl, rfl, rfl⟩, v3509, rfl, by
    rcases p3508 with ⟨a, b, c⟩ | ⟨a, b⟩
    · exact Or.inl ⟨a, by omega, by omega⟩
    · exact Or.inr ⟨a, by omega⟩⟩
set_option maxHeartbeats 4000000 in
set_option maxRecDepth 100000 in
theorem ex_waya {g : GG} {I : pI} {J : pJ} {R : pR} (hy : LyX g) (hr : RfX g R) {S : TwS} (s : Int32) (w : Int32) (hT : R (ad g 5) 0 = some (ad g 6)) (hS : RTW g 6 S I J) (hB : SBn S) : SP g mX10_way [.ref (ad g 0), .int s, .int w] I J R (fun r I' J' R' => R' = R ∧ FC g [54] I I' ∧ FC g [] J J' ∧ ∃ v : Int32, r = some (.int v) ∧ (((0 ≤ s.toInt ∧ s.toInt < S.1 0 1) ∧ (0 ≤ w.toInt ∧ w.toInt ≤ 4) ∧ v = I (ad g 54) s.toInt.toNat ∧ I' (ad g 54) = fun q => if q = s.toInt.toNat then w else I (ad g 54) q) ∨ (¬ ((0 ≤ s.toInt ∧ s.toInt < S.1 0 1) ∧ (0 ≤ w.toInt ∧ w.toInt ≤ 4)) ∧ v.toInt = -2 ∧ I' (ad g 54) = I (ad g 54)))) := by
  refine SP_of ⟨by decide, rfl⟩ (Nat.le_of_ble_eq_true rfl) ?_
  have fI0 : FC g [54] I I := FC_rf
  have fJ0 : FC g [] J J := FC_rf
  have hB2 := hB
  unfold SBn at hB2
  refine WP_aload_n dX10_way_0 rfl ?_
  refine WP_iload_n dX10_way_1 rfl ?_
  refine WP_callV1 (k := 10) dX10_way_2 ⟨⟨⟨by decide, by decide⟩, zX10_isSort⟩, lX10_152, by decide, rfl, vX10_isSort.1, vX10_isSort.2⟩ (lyx_is hy 0 10 rfl) (ex_isSorta hy hr _  hT hS hB) (Nat.le_of_ble_eq_true rfl) ?_
  intro r Ia Ja Ra hq
  obtain ⟨⟨ea, eb, ec⟩, v3511, er, p3510⟩ := hq
  rw [ea, eb, ec, er]
  clear ea eb ec er Ia Ja Ra r
  refine WQ_if_eq 15 dX10_way_5 rfl (fun c3511 => ?_) (fun c3511 => ?_)
  · refine WQ_bipush (-2) (-2) dX10_way_15 rfl rfl (fun v3513 hv3513 => ?_)
    exact WP_iret dX10_way_17 rfl ⟨rfl, fI0, fJ0, v3513, rfl, by
      exact Or.inr ⟨by omega, by omega, rfl⟩⟩
  · refine WP_iload_n dX10_way_8 rfl ?_
    refine WP_callS1 dX10_way_9 ⟨⟨⟨by decide, by decide⟩, zX10_isWay⟩, lX10_219, tX10_isWay⟩ (ex_isWay hy hr _  ) (Nat.le_of_ble_eq_true rfl) ?_
    intro r Ia Ja Ra hq
    obtain ⟨⟨ea, eb, ec⟩, v3515, er, p3514⟩ := hq
    rw [ea, eb, ec, er]
    clear ea eb ec er Ia Ja Ra r
    refine WQ_if_ne 18 dX10_way_12 rfl (fun c3515 => ?_) (fun c3515 => ?_)
    · refine WP_aload_n dX10_way_18 rfl ?_
      refine WP_getr dX10_way_19 fX10_62 rfl (lyx_is hy 0 10 rfl) (rfx hr 0 5 53 (by decide)) ?_
      refine WP_getr dX10_way_22 fX10_225 rfl (lyx_is hy 53 4 rfl) (rfx hr 53 4 54 (by decide)) ?_
      refine WP_iload_n dX10_way_25 rfl ?_
      refine WE_ia dX10_way_26 (lyx_is hy 54 13 rfl) (lyx_n hy 54 4 rfl) (by omega) (by omega) (fun v3517 ev3517 => ?_)
      refine WP_istore_n (ls' := [(0, _), (1, _), (2, _), (3, _)]) dX10_way_27 (by decide) rfl ?_
      refine WP_aload_n dX10_way_28 rfl ?_
      refine WP_getr dX10_way_29 fX10_62 rfl (lyx_is hy 0 10 rfl) (rfx hr 0 5 53 (by decide)) ?_
      refine WP_getr dX10_way_32 fX10_225 rfl (lyx_is hy 53 4 rfl) (rfx hr 53 4 54 (by decide)) ?_
      refine WP_iload_n dX10_way_35 rfl ?_
      refine WP_iload_n dX10_way_36 rfl ?_
      refine WE_is dX10_way_37 (lyx_is hy 54 13 rfl) (lyx_n hy 54 4 rfl) (by omega) (by omega) (fun I3518 eI3518 => ?_)
      have fI3519 : FC g [54] I I3518 := by rw [eI3518]; exact FC_pp fI0 (by decide)
      refine WP_iload_n dX10_way_38 rfl ?_
      exact WP_iret dX10_way_39 rfl ⟨rfl, fI3519, fJ0, v3517, rfl, by
        exact Or.inl ⟨⟨by omega, by omega⟩, ⟨by omega, by omega⟩, ev3517.symm, by rw [eI3518, pp_fun]⟩⟩
    · refine WQ_bipush (-2) (-2) dX10_way_15 rfl rfl (fun v3520 hv3520 => ?_)
      exact WP_iret dX10_way_17 rfl ⟨rfl, fI0, fJ0, v3520, rfl, by
        exact Or.inr ⟨by omega, by omega, rfl⟩⟩
set_option maxHeartbeats 4000000 in
set_option maxRecDepth 100000 in
theorem ex_anewa {g : GG} {I : pI} {J : pJ} {R : pR} (hy : LyX g) (hr : RfX g R) {S : TwS}  (hT : R (ad g 5) 0 = some (ad g 6)) (hS : RTW g 6 S I J) (hB : SBn S) : SP g mX10_anew [.ref (ad g 0)] I J R (fun r I' J' R' => R' = R ∧ FC g [53, 55] I I' ∧ FC g [53] J J' ∧ ∃ v : Int32, r = some (.int v) ∧ (v = I (ad g 53) 0 ∧ (I' (ad g 53) 0).toInt = 0)) := by
  refine SP_of ⟨by decide, rfl⟩ (Nat.le_of_ble_eq_true rfl) ?_
  have fI0 : FC g [53, 55] I I := FC_rf
  have fJ0 : FC g [53] J J := FC_rf
  have hB2 := hB
  unfold SBn at hB2
  refine WP_aload_n dX10_anew_0 rfl ?_
  refine WP_getr dX10_anew_1 fX10_62 rfl (lyx_is hy 0 10 rfl) (rfx hr 0 5 53 (by decide)) ?_
  obtain ⟨w3521, ew3521⟩ : ∃ w : Int32, I (ad g 53) 0 = w := ⟨_, rfl⟩
  refine WQ_getim dX10_anew_4 fX10_232 rfl (lyx_is hy 53 4 rfl) ew3521 ?_
  refine WP_istore_n (ls' := [(0, _), (1, _)]) dX10_anew_7 (by decide) rfl ?_
  refine WP_aload_n dX10_anew_8 rfl ?_
  refine WP_getr dX10_anew_9 fX10_62 rfl (lyx_is hy 0 10 rfl) (rfx hr 0 5 53 (by decide)) ?_
  refine WP_aload_n dX10_anew_12 rfl ?_
  refine WP_getr dX10_anew_13 fX10_33 rfl (lyx_is hy 0 10 rfl) (rfx hr 0 2 5 (by decide)) ?_
  refine WP_getr dX10_anew_16 fX10_102 rfl (lyx_is hy 5 0 rfl) hT ?_
  refine WP_callV1 (k := 4) dX10_anew_19 ⟨⟨⟨by decide, by decide⟩, zX4_begin⟩, lX10_246, by decide, rfl, vX4_begin.1, vX4_begin.2⟩ (lyx_is hy 53 4 rfl) (ex_begin53a hy hr   hS hB) (Nat.le_of_ble_eq_true rfl) ?_
  intro r I3523 J3524 Ra hq
  obtain ⟨ec, g3525, g3526, er, p3522⟩ := hq
  rw [ec, er]
  clear ec er Ra r
  have fI3528 : FC g [53, 55] I I3523 := FC_tr fI0 (FC_mono g3525 (by decide))
  have fJ3529 : FC g [53] J J3524 := FC_tr fJ0 (FC_mono g3526 (by decide))
  refine WP_iload_n dX10_anew_22 rfl ?_
  exact WP_iret dX10_anew_23 rfl ⟨rfl, fI3528, fJ3529, w3521, rfl, by
    exact ⟨by first | rfl | trivial | exact ew3521.symm, p3522.1⟩⟩
set_option maxHeartbeats 4000000 in
set_option maxRecDepth 100000 in
theorem ex_wayb {g : GG} {I : pI} {J : pJ} {R : pR} (hy : LyX g) (hr : RfX g R) {S : TwS} (s : Int32) (w : Int32) (hT : R (ad g 5) 0 = some (ad g 27)) (hS : RTW g 27 S I J) (hB : SBn S) : SP g mX10_way [.ref (ad g 0), .int s, .int w] I J R (fun r I' J' R' => R' = R ∧ FC g [54] I I' ∧ FC g [] J J' ∧ ∃ v : Int32, r = some (.int v) ∧ (((0 ≤ s.toInt ∧ s.toInt < S.1 0 1) ∧ (0 ≤ w.toInt ∧ w.toInt ≤ 4) ∧ v = I (ad g 54) s.toInt.toNat ∧ I' (ad g 54) = fun q => if q = s.toInt.toNat then w else I (ad g 54) q) ∨ (¬ ((0 ≤ s.toInt ∧ s.toInt < S.1 0 1) ∧ (0 ≤ w.toInt ∧ w.toInt ≤ 4)) ∧ v.toInt = -2 ∧ I' (ad g 54) = I (ad g 54)))) := by
  refine SP_of ⟨by decide, rfl⟩ (Nat.le_of_ble_eq_true rfl) ?_
  have fI0 : FC g [54] I I := FC_rf
  have fJ0 : FC g [] J J := FC_rf
  have hB2 := hB
  unfold SBn at hB2
  refine WP_aload_n dX10_way_0 rfl ?_
  refine WP_iload_n dX10_way_1 rfl ?_
  refine WP_callV1 (k := 10) dX10_way_2 ⟨⟨⟨by decide, by decide⟩, zX10_isSort⟩, lX10_152, by decide, rfl, vX10_isSort.1, vX10_isSort.2⟩ (lyx_is hy 0 10 rfl) (ex_isSortb hy hr _  hT hS hB) (Nat.le_of_ble_eq_true rfl) ?_
  intro r Ia Ja Ra hq
  obtain ⟨⟨ea, eb, ec⟩, v3531, er, p3530⟩ := hq
  rw [ea, eb, ec, er]
  clear ea eb ec er Ia Ja Ra r
  refine WQ_if_eq 15 dX10_way_5 rfl (fun c3531 => ?_) (fun c3531 => ?_)
  · refine WQ_bipush (-2) (-2) dX10_way_15 rfl rfl (fun v3533 hv3533 => ?_)
    exact WP_iret dX10_way_17 rfl ⟨rfl, fI0, fJ0, v3533, rfl, by
      exact Or.inr ⟨by omega, by omega, rfl⟩⟩
  · refine WP_iload_n dX10_way_8 rfl ?_
    refine WP_callS1 dX10_way_9 ⟨⟨⟨by decide, by decide⟩, zX10_isWay⟩, lX10_219, tX10_isWay⟩ (ex_isWay hy hr _  ) (Nat.le_of_ble_eq_true rfl) ?_
    intro r Ia Ja Ra hq
    obtain ⟨⟨ea, eb, ec⟩, v3535, er, p3534⟩ := hq
    rw [ea, eb, ec, er]
    clear ea eb ec er Ia Ja Ra r
    refine WQ_if_ne 18 dX10_way_12 rfl (fun c3535 => ?_) (fun c3535 => ?_)
    · refine WP_aload_n dX10_way_18 rfl ?_
      refine WP_getr dX10_way_19 fX10_62 rfl (lyx_is hy 0 10 rfl) (rfx hr 0 5 53 (by decide)) ?_
      refine WP_getr dX10_way_22 fX10_225 rfl (lyx_is hy 53 4 rfl) (rfx hr 53 4 54 (by decide)) ?_
      refine WP_iload_n dX10_way_25 rfl ?_
      refine WE_ia dX10_way_26 (lyx_is hy 54 13 rfl) (lyx_n hy 54 4 rfl) (by omega) (by omega) (fun v3537 ev3537 => ?_)
      refine WP_istore_n (ls' := [(0, _), (1, _), (2, _), (3, _)]) dX10_way_27 (by decide) rfl ?_
      refine WP_aload_n dX10_way_28 rfl ?_
      refine WP_getr dX10_way_29 fX10_62 rfl (lyx_is hy 0 10 rfl) (rfx hr 0 5 53 (by decide)) ?_
      refine WP_getr dX10_way_32 fX10_225 rfl (lyx_is hy 53 4 rfl) (rfx hr 53 4 54 (by decide)) ?_
      refine WP_iload_n dX10_way_35 rfl ?_
      refine WP_iload_n dX10_way_36 rfl ?_
      refine WE_is dX10_way_37 (lyx_is hy 54 13 rfl) (lyx_n hy 54 4 rfl) (by omega) (by omega) (fun I3538 eI3538 => ?_)
      have fI3539 : FC g [54] I I3538 := by rw [eI3538]; exact FC_pp fI0 (by decide)
      refine WP_iload_n dX10_way_38 rfl ?_
      exact WP_iret dX10_way_39 rfl ⟨rfl, fI3539, fJ0, v3537, rfl, by
        exact Or.inl ⟨⟨by omega, by omega⟩, ⟨by omega, by omega⟩, ev3537.symm, by rw [eI3538, pp_fun]⟩⟩
    · refine WQ_bipush (-2) (-2) dX10_way_15 rfl rfl (fun v3540 hv3540 => ?_)
      exact WP_iret dX10_way_17 rfl ⟨rfl, fI0, fJ0, v3540, rfl, by
        exact Or.inr ⟨by omega, by omega, rfl⟩⟩
set_option maxHeartbeats 4000000 in
set_option maxRecDepth 100000 in
theorem ex_anewb {g : GG} {I : pI} {J : pJ} {R : pR} (hy : LyX g) (hr : RfX g R) {S : TwS}  (hT : R (ad g 5) 0 = some (ad g 27)) (hS : RTW g 27 S I J) (hB : SBn S) : SP g mX10_anew [.ref (ad g 0)] I J R (fun r I' J' R' => R' = R ∧ FC g [53, 55] I I' ∧ FC g [53] J J' ∧ ∃ v : Int32, r = some (.int v) ∧ (v = I (ad g 53) 0 ∧ (I' (ad g 53) 0).toInt = 0)) := by
  refine SP_of ⟨by decide, rfl⟩ (Nat.le_of_ble_eq_true rfl) ?_
  have fI0 : FC g [53, 55] I I := FC_rf
  have fJ0 : FC g [53] J J := FC_rf
  have hB2 := hB
  unfold SBn at hB2
  refine WP_aload_n dX10_anew_0 rfl ?_
  refine WP_getr dX10_anew_1 fX10_62 rfl (lyx_is hy 0 10 rfl) (rfx hr 0 5 53 (by decide)) ?_
  obtain ⟨w3541, ew3541⟩ : ∃ w : Int32, I (ad g 53) 0 = w := ⟨_, rfl⟩
  refine WQ_getim dX10_anew_4 fX10_232 rfl (lyx_is hy 53 4 rfl) ew3541 ?_
  refine WP_istore_n (ls' := [(0, _), (1, _)]) dX10_anew_7 (by decide) rfl ?_
  refine WP_aload_n dX10_anew_8 rfl ?_
  refine WP_getr dX10_anew_9 fX10_62 rfl (lyx_is hy 0 10 rfl) (rfx hr 0 5 53 (by decide)) ?_
  refine WP_aload_n dX10_anew_12 rfl ?_
  refine WP_getr dX10_anew_13 fX10_33 rfl (lyx_is hy 0 10 rfl) (rfx hr 0 2 5 (by decide)) ?_
  refine WP_getr dX10_anew_16 fX10_102 rfl (lyx_is hy 5 0 rfl) hT ?_
  refine WP_callV1 (k := 4) dX10_anew_19 ⟨⟨⟨by decide, by decide⟩, zX4_begin⟩, lX10_246, by decide, rfl, vX4_begin.1, vX4_begin.2⟩ (lyx_is hy 53 4 rfl) (ex_begin53b hy hr   hS hB) (Nat.le_of_ble_eq_true rfl) ?_
  intro r I3543 J3544 Ra hq
  obtain ⟨ec, g3545, g3546, er, p3542⟩ := hq
  rw [ec, er]
  clear ec er Ra r
  have fI3548 : FC g [53, 55] I I3543 := FC_tr fI0 (FC_mono g3545 (by decide))
  have fJ3549 : FC g [53] J J3544 := FC_tr fJ0 (FC_mono g3546 (by decide))
  refine WP_iload_n dX10_anew_22 rfl ?_
  exact WP_iret dX10_anew_23 rfl ⟨rfl, fI3548, fJ3549, w3541, rfl, by
    exact ⟨by first | rfl | trivial | exact ew3541.symm, p3542.1⟩⟩
set_option maxHeartbeats 4000000 in
set_option maxRecDepth 100000 in
theorem ex_become53_60 {g : GG} {I : pI} {J : pJ} {R : pR} (hy : LyX g) (hr : RfX g R)    : SP g mX4_become [.ref (ad g 53), .ref (ad g 60)] I J R (fun r I' J' R' => R' = R ∧ FC g [53, 54, 55] I I' ∧ FC g [53] J J' ∧ r = none ∧ (BCM g 53 60 I J I' J')) := by
  refine SP_of ⟨by decide, rfl⟩ (Nat.le_of_ble_eq_true rfl) ?_
  have fI0 : FC g [53, 54, 55] I I := FC_rf
  have fJ0 : FC g [53] J J := FC_rf
  obtain ⟨w3550, ew3550⟩ : ∃ w : Int32, I (ad g 60) 0 = w := ⟨_, rfl⟩
  obtain ⟨w3551, ew3551⟩ : ∃ w : Int32, I (ad g 60) 1 = w := ⟨_, rfl⟩
  obtain ⟨w3552, ew3552⟩ : ∃ w : Int32, I (ad g 60) 2 = w := ⟨_, rfl⟩
  obtain ⟨w3553, ew3553⟩ : ∃ w : Int64, J (ad g 60) 3 = w := ⟨_, rfl⟩
  refine WP_aload_n dX4_become_0 rfl ?_
  refine WP_aload_n dX4_become_1 rfl ?_
  refine WQ_getim dX4_become_2 fX4_18 rfl (lyx_is hy 60 4 rfl) ew3550 ?_
  refine WQ_puti dX4_become_5 fX4_18 rfl rfl (lyx_is hy 53 4 rfl) (fun I3554 eI3554 => ?_)
  have e3555 : I3554 (ad g 60) 0 = w3550 := by rw [eI3554, pp_ne _ _ (Or.inl (lyx_ne hy (by decide) (by decide) (by decide)))]; exact ew3550
  have e3556 : I3554 (ad g 60) 1 = w3551 := by rw [eI3554, pp_ne _ _ (Or.inl (lyx_ne hy (by decide) (by decide) (by decide)))]; exact ew3551
  have e3557 : I3554 (ad g 60) 2 = w3552 := by rw [eI3554, pp_ne _ _ (Or.inl (lyx_ne hy (by decide) (by decide) (by decide)))]; exact ew3552
  have e3558 : I3554 (ad g 53) 0 = w3550 := by rw [eI3554, pp_self]
  have fI3559 : FC g [53, 54, 55] I I3554 := by rw [eI3554]; exact FC_pp fI0 (by decide)
  refine WP_aload_n dX4_become_8 rfl ?_
  refine WP_aload_n dX4_become_9 rfl ?_
  refine WQ_getim dX4_become_10 fX4_22 rfl (lyx_is hy 60 4 rfl) e3556 ?_
  refine WQ_puti dX4_become_13 fX4_22 rfl rfl (lyx_is hy 53 4 rfl) (fun I3560 eI3560 => ?_)
  have e3561 : I3560 (ad g 60) 0 = w3550 := by rw [eI3560, pp_ne _ _ (Or.inl (lyx_ne hy (by decide) (by decide) (by decide)))]; exact e3555
  have e3562 : I3560 (ad g 60) 1 = w3551 := by rw [eI3560, pp_ne _ _ (Or.inl (lyx_ne hy (by decide) (by decide) (by decide)))]; exact e3556
  have e3563 : I3560 (ad g 60) 2 = w3552 := by rw [eI3560, pp_ne _ _ (Or.inl (lyx_ne hy (by decide) (by decide) (by decide)))]; exact e3557
  have e3564 : I3560 (ad g 53) 0 = w3550 := by rw [eI3560, pp_ne _ _ (Or.inr (by decide))]; exact e3558
  have e3565 : I3560 (ad g 53) 1 = w3551 := by rw [eI3560, pp_self]
  have fI3566 : FC g [53, 54, 55] I I3560 := by rw [eI3560]; exact FC_pp fI3559 (by decide)
  refine WP_aload_n dX4_become_16 rfl ?_
  refine WP_aload_n dX4_become_17 rfl ?_
  refine WQ_getim dX4_become_18 fX4_25 rfl (lyx_is hy 60 4 rfl) e3563 ?_
  refine WQ_puti dX4_become_21 fX4_25 rfl rfl (lyx_is hy 53 4 rfl) (fun I3567 eI3567 => ?_)
  have e3568 : I3567 (ad g 60) 0 = w3550 := by rw [eI3567, pp_ne _ _ (Or.inl (lyx_ne hy (by decide) (by decide) (by decide)))]; exact e3561
  have e3569 : I3567 (ad g 60) 1 = w3551 := by rw [eI3567, pp_ne _ _ (Or.inl (lyx_ne hy (by decide) (by decide) (by decide)))]; exact e3562
  have e3570 : I3567 (ad g 60) 2 = w3552 := by rw [eI3567, pp_ne _ _ (Or.inl (lyx_ne hy (by decide) (by decide) (by decide)))]; exact e3563
  have e3571 : I3567 (ad g 53) 0 = w3550 := by rw [eI3567, pp_ne _ _ (Or.inr (by decide))]; exact e3564
  have e3572 : I3567 (ad g 53) 1 = w3551 := by rw [eI3567, pp_ne _ _ (Or.inr (by decide))]; exact e3565
  have e3573 : I3567 (ad g 53) 2 = w3552 := by rw [eI3567, pp_self]
  have fI3574 : FC g [53, 54, 55] I I3567 := by rw [eI3567]; exact FC_pp fI3566 (by decide)
  refine WP_aload_n dX4_become_24 rfl ?_
  refine WP_aload_n dX4_become_25 rfl ?_
  refine WP_getl dX4_become_26 fX4_28 rfl (lyx_is hy 60 4 rfl) ?_
  rw [ew3553]
  refine WQ_putl dX4_become_29 fX4_28 rfl rfl (lyx_is hy 53 4 rfl) (fun J3575 eJ3575 => ?_)
  have e3576 : J3575 (ad g 60) 3 = w3553 := by rw [eJ3575, pp_ne _ _ (Or.inl (lyx_ne hy (by decide) (by decide) (by decide)))]; exact ew3553
  have e3577 : J3575 (ad g 53) 3 = w3553 := by rw [eJ3575, pp_self]
  have fJ3578 : FC g [53] J J3575 := by rw [eJ3575]; exact FC_pp fJ0 (by decide)
  have fB := fI3574
  refine WP_aload_n dX4_become_32 rfl ?_
  refine WP_getr dX4_become_33 fX4_9 rfl (lyx_is hy 60 4 rfl) (rfx hr 60 4 61 (by decide)) ?_
  refine WQ_iconst (0) (0) dX4_become_36 rfl rfl (fun v3579 hv3579 => ?_)
  refine WP_aload_n dX4_become_37 rfl ?_
  refine WP_getr dX4_become_38 fX4_9 rfl (lyx_is hy 53 4 rfl) (rfx hr 53 4 54 (by decide)) ?_
  refine WQ_iconst (0) (0) dX4_become_41 rfl rfl (fun v3580 hv3580 => ?_)
  refine WP_aload_n dX4_become_42 rfl ?_
  refine WP_getr dX4_become_43 fX4_9 rfl (lyx_is hy 53 4 rfl) (rfx hr 53 4 54 (by decide)) ?_
  refine WP_alen dX4_become_46 (lyx_is hy 54 13 rfl) (by decide) ?_
  rw [(lyx_n hy 54 4 rfl)]
  obtain ⟨v3581, hv3581, ev3581⟩ : ∃ v : Int32, v.toInt = 4 ∧ nI 4 = v := ⟨_, nI_toInt (by decide), rfl⟩
  rw [ev3581]; clear ev3581
  refine WQ_copy0 (N := 4) dX4_become_47 lX4_46 ⟨by decide, Nat.le_of_ble_eq_true rfl⟩ (lyx_is hy 61 13 rfl) (lyx_is hy 54 13 rfl) hv3579 hv3580 hv3581 (lyx_n hy 61 4 rfl) (lyx_n hy 54 4 rfl) (fun I3582 cI3582 oI3582 => ?_)
  have g3583 : FC g [54] I3567 I3582 := fun b hb => oI3582 b (hb 54 (by decide))
  have e3584 : I3582 (ad g 60) 0 = w3550 := by rw [FCx_at hy g3583 60 (by decide) (by decide)]; exact e3568
  have e3585 : I3582 (ad g 60) 1 = w3551 := by rw [FCx_at hy g3583 60 (by decide) (by decide)]; exact e3569
  have e3586 : I3582 (ad g 60) 2 = w3552 := by rw [FCx_at hy g3583 60 (by decide) (by decide)]; exact e3570
  have e3587 : I3582 (ad g 53) 0 = w3550 := by rw [FCx_at hy g3583 53 (by decide) (by decide)]; exact e3571
  have e3588 : I3582 (ad g 53) 1 = w3551 := by rw [FCx_at hy g3583 53 (by decide) (by decide)]; exact e3572
  have e3589 : I3582 (ad g 53) 2 = w3552 := by rw [FCx_at hy g3583 53 (by decide) (by decide)]; exact e3573
  have fI3590 : FC g [53, 54, 55] I I3582 := FC_tr fI3574 (FC_mono g3583 (by decide))
  refine WP_aload_n dX4_become_50 rfl ?_
  refine WP_getr dX4_become_51 fX4_15 rfl (lyx_is hy 60 4 rfl) (rfx hr 60 5 62 (by decide)) ?_
  refine WQ_iconst (0) (0) dX4_become_54 rfl rfl (fun v3591 hv3591 => ?_)
  refine WP_aload_n dX4_become_55 rfl ?_
  refine WP_getr dX4_become_56 fX4_15 rfl (lyx_is hy 53 4 rfl) (rfx hr 53 5 55 (by decide)) ?_
  refine WQ_iconst (0) (0) dX4_become_59 rfl rfl (fun v3592 hv3592 => ?_)
  refine WP_aload_n dX4_become_60 rfl ?_
  refine WP_getr dX4_become_61 fX4_15 rfl (lyx_is hy 53 4 rfl) (rfx hr 53 5 55 (by decide)) ?_
  refine WP_alen dX4_become_64 (lyx_is hy 55 13 rfl) (by decide) ?_
  rw [(lyx_n hy 55 28 rfl)]
  obtain ⟨v3593, hv3593, ev3593⟩ : ∃ v : Int32, v.toInt = 28 ∧ nI 28 = v := ⟨_, nI_toInt (by decide), rfl⟩
  rw [ev3593]; clear ev3593
  refine WQ_copy0 (N := 28) dX4_become_65 lX4_46 ⟨by decide, Nat.le_of_ble_eq_true rfl⟩ (lyx_is hy 62 13 rfl) (lyx_is hy 55 13 rfl) hv3591 hv3592 hv3593 (lyx_n hy 62 28 rfl) (lyx_n hy 55 28 rfl) (fun I3594 cI3594 oI3594 => ?_)
  have g3595 : FC g [55] I3582 I3594 := fun b hb => oI3594 b (hb 55 (by decide))
  have e3596 : I3594 (ad g 60) 0 = w3550 := by rw [FCx_at hy g3595 60 (by decide) (by decide)]; exact e3584
  have e3597 : I3594 (ad g 60) 1 = w3551 := by rw [FCx_at hy g3595 60 (by decide) (by decide)]; exact e3585
  have e3598 : I3594 (ad g 60) 2 = w3552 := by rw [FCx_at hy g3595 60 (by decide) (by decide)]; exact e3586
  have e3599 : I3594 (ad g 53) 0 = w3550 := by rw [FCx_at hy g3595 53 (by decide) (by decide)]; exact e3587
  have e3600 : I3594 (ad g 53) 1 = w3551 := by rw [FCx_at hy g3595 53 (by decide) (by decide)]; exact e3588
  have e3601 : I3594 (ad g 53) 2 = w3552 := by rw [FCx_at hy g3595 53 (by decide) (by decide)]; exact e3589
  have fI3602 : FC g [53, 54, 55] I I3594 := FC_tr fI3590 (FC_mono g3595 (by decide))
  exact WP_vret dX4_become_68 rfl ⟨rfl, fI3602, fJ3578, rfl, by
    try simp only [e3596, e3597, e3598, e3599, e3600, e3601, e3576, e3577, ew3550, ew3551, ew3552, ew3553]
    refine ⟨⟨?_, ?_, ?_, ?_⟩, fun q hq => ?_, fun q hq => ?_⟩
    · first | rfl | trivial | assumption | (symm; assumption) | (simp only [ew3550, ew3551, ew3552, ew3553, e3599, e3600, e3601, e3577])
    · first | rfl | trivial | assumption | (symm; assumption) | (simp only [ew3550, ew3551, ew3552, ew3553, e3599, e3600, e3601, e3577])
    · first | rfl | trivial | assumption | (symm; assumption) | (simp only [ew3550, ew3551, ew3552, ew3553, e3599, e3600, e3601, e3577])
    · first | rfl | trivial | assumption | (symm; assumption) | (simp only [ew3550, ew3551, ew3552, ew3553, e3599, e3600, e3601, e3577])
    · rw [FCx_at hy g3595 54 (by decide) (by decide), cI3582 q hq, FCx_at hy fB 61 (by decide) (by decide)]
    · rw [cI3594 q hq, FCx_at hy g3583 62 (by decide) (by decide), FCx_at hy fB 62 (by decide) (by decide)]⟩
set_option maxHeartbeats 4000000 in
set_option maxRecDepth 100000 in
theorem ex_become53_63 {g : GG} {I : pI} {J : pJ} {R : pR} (hy : LyX g) (hr : RfX g R)    : SP g mX4_become [.ref (ad g 53), .ref (ad g 63)] I J R (fun r I' J' R' => R' = R ∧ FC g [53, 54, 55] I I' ∧ FC g [53] J J' ∧ r = none ∧ (BCM g 53 63 I J I' J')) := by
  refine SP_of ⟨by decide, rfl⟩ (Nat.le_of_ble_eq_true rfl) ?_
  have fI0 : FC g [53, 54, 55] I I := FC_rf
  have fJ0 : FC g [53] J J := FC_rf
  obtain ⟨w3603, ew3603⟩ : ∃ w : Int32, I (ad g 63) 0 = w := ⟨_, rfl⟩
  obtain ⟨w3604, ew3604⟩ : ∃ w : Int32, I (ad g 63) 1 = w := ⟨_, rfl⟩
  obtain ⟨w3605, ew3605⟩ : ∃ w : Int32, I (ad g 63) 2 = w := ⟨_, rfl⟩
  obtain ⟨w3606, ew3606⟩ : ∃ w : Int64, J (ad g 63) 3 = w := ⟨_, rfl⟩
  refine WP_aload_n dX4_become_0 rfl ?_
  refine WP_aload_n dX4_become_1 rfl ?_
  refine WQ_getim dX4_become_2 fX4_18 rfl (lyx_is hy 63 4 rfl) ew3603 ?_
  refine WQ_puti dX4_become_5 fX4_18 rfl rfl (lyx_is hy 53 4 rfl) (fun I3607 eI3607 => ?_)
  have e3608 : I3607 (ad g 63) 0 = w3603 := by rw [eI3607, pp_ne _ _ (Or.inl (lyx_ne hy (by decide) (by decide) (by decide)))]; exact ew3603
  have e3609 : I3607 (ad g 63) 1 = w3604 := by rw [eI3607, pp_ne _ _ (Or.inl (lyx_ne hy (by decide) (by decide) (by decide)))]; exact ew3604
  have e3610 : I3607 (ad g 63) 2 = w3605 := by rw [eI3607, pp_ne _ _ (Or.inl (lyx_ne hy (by decide) (by decide) (by decide)))]; exact ew3605
  have e3611 : I3607 (ad g 53) 0 = w3603 := by rw [eI3607, pp_self]
  have fI3612 : FC g [53, 54, 55] I I3607 := by rw [eI3607]; exact FC_pp fI0 (by decide)
  refine WP_aload_n dX4_become_8 rfl ?_
  refine WP_aload_n dX4_become_9 rfl ?_
  refine WQ_getim dX4_become_10 fX4_22 rfl (lyx_is hy 63 4 rfl) e3609 ?_
  refine WQ_puti dX4_become_13 fX4_22 rfl rfl (lyx_is hy 53 4 rfl) (fun I3613 eI3613 => ?_)
  have e3614 : I3613 (ad g 63) 0 = w3603 := by rw [eI3613, pp_ne _ _ (Or.inl (lyx_ne hy (by decide) (by decide) (by decide)))]; exact e3608
  have e3615 : I3613 (ad g 63) 1 = w3604 := by rw [eI3613, pp_ne _ _ (Or.inl (lyx_ne hy (by decide) (by decide) (by decide)))]; exact e3609
  have e3616 : I3613 (ad g 63) 2 = w3605 := by rw [eI3613, pp_ne _ _ (Or.inl (lyx_ne hy (by decide) (by decide) (by decide)))]; exact e3610
  have e3617 : I3613 (ad g 53) 0 = w3603 := by rw [eI3613, pp_ne _ _ (Or.inr (by decide))]; exact e3611
  have e3618 : I3613 (ad g 53) 1 = w3604 := by rw [eI3613, pp_self]
  have fI3619 : FC g [53, 54, 55] I I3613 := by rw [eI3613]; exact FC_pp fI3612 (by decide)
  refine WP_aload_n dX4_become_16 rfl ?_
  refine WP_aload_n dX4_become_17 rfl ?_
  refine WQ_getim dX4_become_18 fX4_25 rfl (lyx_is hy 63 4 rfl) e3616 ?_
  refine WQ_puti dX4_become_21 fX4_25 rfl rfl (lyx_is hy 53 4 rfl) (fun I3620 eI3620 => ?_)
  have e3621 : I3620 (ad g 63) 0 = w3603 := by rw [eI3620, pp_ne _ _ (Or.inl (lyx_ne hy (by decide) (by decide) (by decide)))]; exact e3614
  have e3622 : I3620 (ad g 63) 1 = w3604 := by rw [eI3620, pp_ne _ _ (Or.inl (lyx_ne hy (by decide) (by decide) (by decide)))]; exact e3615
  have e3623 : I3620 (ad g 63) 2 = w3605 := by rw [eI3620, pp_ne _ _ (Or.inl (lyx_ne hy (by decide) (by decide) (by decide)))]; exact e3616
  have e3624 : I3620 (ad g 53) 0 = w3603 := by rw [eI3620, pp_ne _ _ (Or.inr (by decide))]; exact e3617
  have e3625 : I3620 (ad g 53) 1 = w3604 := by rw [eI3620, pp_ne _ _ (Or.inr (by decide))]; exact e3618
  have e3626 : I3620 (ad g 53) 2 = w3605 := by rw [eI3620, pp_self]
  have fI3627 : FC g [53, 54, 55] I I3620 := by rw [eI3620]; exact FC_pp fI3619 (by decide)
  refine WP_aload_n dX4_become_24 rfl ?_
  refine WP_aload_n dX4_become_25 rfl ?_
  refine WP_getl dX4_become_26 fX4_28 rfl (lyx_is hy 63 4 rfl) ?_
  rw [ew3606]
  refine WQ_putl dX4_become_29 fX4_28 rfl rfl (lyx_is hy 53 4 rfl) (fun J3628 eJ3628 => ?_)
  have e3629 : J3628 (ad g 63) 3 = w3606 := by rw [eJ3628, pp_ne _ _ (Or.inl (lyx_ne hy (by decide) (by decide) (by decide)))]; exact ew3606
  have e3630 : J3628 (ad g 53) 3 = w3606 := by rw [eJ3628, pp_self]
  have fJ3631 : FC g [53] J J3628 := by rw [eJ3628]; exact FC_pp fJ0 (by decide)
  have fB := fI3627
  refine WP_aload_n dX4_become_32 rfl ?_
  refine WP_getr dX4_become_33 fX4_9 rfl (lyx_is hy 63 4 rfl) (rfx hr 63 4 64 (by decide)) ?_
  refine WQ_iconst (0) (0) dX4_become_36 rfl rfl (fun v3632 hv3632 => ?_)
  refine WP_aload_n dX4_become_37 rfl ?_
  refine WP_getr dX4_become_38 fX4_9 rfl (lyx_is hy 53 4 rfl) (rfx hr 53 4 54 (by decide)) ?_
  refine WQ_iconst (0) (0) dX4_become_41 rfl rfl (fun v3633 hv3633 => ?_)
  refine WP_aload_n dX4_become_42 rfl ?_
  refine WP_getr dX4_become_43 fX4_9 rfl (lyx_is hy 53 4 rfl) (rfx hr 53 4 54 (by decide)) ?_
  refine WP_alen dX4_become_46 (lyx_is hy 54 13 rfl) (by decide) ?_
  rw [(lyx_n hy 54 4 rfl)]
  obtain ⟨v3634, hv3634, ev3634⟩ : ∃ v : Int32, v.toInt = 4 ∧ nI 4 = v := ⟨_, nI_toInt (by decide), rfl⟩
  rw [ev3634]; clear ev3634
  refine WQ_copy0 (N := 4) dX4_become_47 lX4_46 ⟨by decide, Nat.le_of_ble_eq_true rfl⟩ (lyx_is hy 64 13 rfl) (lyx_is hy 54 13 rfl) hv3632 hv3633 hv3634 (lyx_n hy 64 4 rfl) (lyx_n hy 54 4 rfl) (fun I3635 cI3635 oI3635 => ?_)
  have g3636 : FC g [54] I3620 I3635 := fun b hb => oI3635 b (hb 54 (by decide))
  have e3637 : I3635 (ad g 63) 0 = w3603 := by rw [FCx_at hy g3636 63 (by decide) (by decide)]; exact e3621
  have e3638 : I3635 (ad g 63) 1 = w3604 := by rw [FCx_at hy g3636 63 (by decide) (by decide)]; exact e3622
  have e3639 : I3635 (ad g 63) 2 = w3605 := by rw [FCx_at hy g3636 63 (by decide) (by decide)]; exact e3623
  have e3640 : I3635 (ad g 53) 0 = w3603 := by rw [FCx_at hy g3636 53 (by decide) (by decide)]; exact e3624
  have e3641 : I3635 (ad g 53) 1 = w3604 := by rw [FCx_at hy g3636 53 (by decide) (by decide)]; exact e3625
  have e3642 : I3635 (ad g 53) 2 = w3605 := by rw [FCx_at hy g3636 53 (by decide) (by decide)]; exact e3626
  have fI3643 : FC g [53, 54, 55] I I3635 := FC_tr fI3627 (FC_mono g3636 (by decide))
  refine WP_aload_n dX4_become_50 rfl ?_
  refine WP_getr dX4_become_51 fX4_15 rfl (lyx_is hy 63 4 rfl) (rfx hr 63 5 65 (by decide)) ?_
  refine WQ_iconst (0) (0) dX4_become_54 rfl rfl (fun v3644 hv3644 => ?_)
  refine WP_aload_n dX4_become_55 rfl ?_
  refine WP_getr dX4_become_56 fX4_15 rfl (lyx_is hy 53 4 rfl) (rfx hr 53 5 55 (by decide)) ?_
  refine WQ_iconst (0) (0) dX4_become_59 rfl rfl (fun v3645 hv3645 => ?_)
  refine WP_aload_n dX4_become_60 rfl ?_
  refine WP_getr dX4_become_61 fX4_15 rfl (lyx_is hy 53 4 rfl) (rfx hr 53 5 55 (by decide)) ?_
  refine WP_alen dX4_become_64 (lyx_is hy 55 13 rfl) (by decide) ?_
  rw [(lyx_n hy 55 28 rfl)]
  obtain ⟨v3646, hv3646, ev3646⟩ : ∃ v : Int32, v.toInt = 28 ∧ nI 28 = v := ⟨_, nI_toInt (by decide), rfl⟩
  rw [ev3646]; clear ev3646
  refine WQ_copy0 (N := 28) dX4_become_65 lX4_46 ⟨by decide, Nat.le_of_ble_eq_true rfl⟩ (lyx_is hy 65 13 rfl) (lyx_is hy 55 13 rfl) hv3644 hv3645 hv3646 (lyx_n hy 65 28 rfl) (lyx_n hy 55 28 rfl) (fun I3647 cI3647 oI3647 => ?_)
  have g3648 : FC g [55] I3635 I3647 := fun b hb => oI3647 b (hb 55 (by decide))
  have e3649 : I3647 (ad g 63) 0 = w3603 := by rw [FCx_at hy g3648 63 (by decide) (by decide)]; exact e3637
  have e3650 : I3647 (ad g 63) 1 = w3604 := by rw [FCx_at hy g3648 63 (by decide) (by decide)]; exact e3638
  have e3651 : I3647 (ad g 63) 2 = w3605 := by rw [FCx_at hy g3648 63 (by decide) (by decide)]; exact e3639
  have e3652 : I3647 (ad g 53) 0 = w3603 := by rw [FCx_at hy g3648 53 (by decide) (by decide)]; exact e3640
  have e3653 : I3647 (ad g 53) 1 = w3604 := by rw [FCx_at hy g3648 53 (by decide) (by decide)]; exact e3641
  have e3654 : I3647 (ad g 53) 2 = w3605 := by rw [FCx_at hy g3648 53 (by decide) (by decide)]; exact e3642
  have fI3655 : FC g [53, 54, 55] I I3647 := FC_tr fI3643 (FC_mono g3648 (by decide))
  exact WP_vret dX4_become_68 rfl ⟨rfl, fI3655, fJ3631, rfl, by
    try simp only [e3649, e3650, e3651, e3652, e3653, e3654, e3629, e3630, ew3603, ew3604, ew3605, ew3606]
    refine ⟨⟨?_, ?_, ?_, ?_⟩, fun q hq => ?_, fun q hq => ?_⟩
    · first | rfl | trivial | assumption | (symm; assumption) | (simp only [ew3603, ew3604, ew3605, ew3606, e3652, e3653, e3654, e3630])
    · first | rfl | trivial | assumption | (symm; assumption) | (simp only [ew3603, ew3604, ew3605, ew3606, e3652, e3653, e3654, e3630])
    · first | rfl | trivial | assumption | (symm; assumption) | (simp only [ew3603, ew3604, ew3605, ew3606, e3652, e3653, e3654, e3630])
    · first | rfl | trivial | assumption | (symm; assumption) | (simp only [ew3603, ew3604, ew3605, ew3606, e3652, e3653, e3654, e3630])
    · rw [FCx_at hy g3648 54 (by decide) (by decide), cI3635 q hq, FCx_at hy fB 64 (by decide) (by decide)]
    · rw [cI3647 q hq, FCx_at hy g3636 65 (by decide) (by decide), FCx_at hy fB 65 (by decide) (by decide)]⟩
set_option maxHeartbeats 4000000 in
set_option maxRecDepth 100000 in
theorem ex_become53_66 {g : GG} {I : pI} {J : pJ} {R : pR} (hy : LyX g) (hr : RfX g R)    : SP g mX4_become [.ref (ad g 53), .ref (ad g 66)] I J R (fun r I' J' R' => R' = R ∧ FC g [53, 54, 55] I I' ∧ FC g [53] J J' ∧ r = none ∧ (BCM g 53 66 I J I' J')) := by
  refine SP_of ⟨by decide, rfl⟩ (Nat.le_of_ble_eq_true rfl) ?_
  have fI0 : FC g [53, 54, 55] I I := FC_rf
  have fJ0 : FC g [53] J J := FC_rf
  obtain ⟨w3656, ew3656⟩ : ∃ w : Int32, I (ad g 66) 0 = w := ⟨_, rfl⟩
  obtain ⟨w3657, ew3657⟩ : ∃ w : Int32, I (ad g 66) 1 = w := ⟨_, rfl⟩
  obtain ⟨w3658, ew3658⟩ : ∃ w : Int32, I (ad g 66) 2 = w := ⟨_, rfl⟩
  obtain ⟨w3659, ew3659⟩ : ∃ w : Int64, J (ad g 66) 3 = w := ⟨_, rfl⟩
  refine WP_aload_n dX4_become_0 rfl ?_
  refine WP_aload_n dX4_become_1 rfl ?_
  refine WQ_getim dX4_become_2 fX4_18 rfl (lyx_is hy 66 4 rfl) ew3656 ?_
  refine WQ_puti dX4_become_5 fX4_18 rfl rfl (lyx_is hy 53 4 rfl) (fun I3660 eI3660 => ?_)
  have e3661 : I3660 (ad g 66) 0 = w3656 := by rw [eI3660, pp_ne _ _ (Or.inl (lyx_ne hy (by decide) (by decide) (by decide)))]; exact ew3656
  have e3662 : I3660 (ad g 66) 1 = w3657 := by rw [eI3660, pp_ne _ _ (Or.inl (lyx_ne hy (by decide) (by decide) (by decide)))]; exact ew3657
  have e3663 : I3660 (ad g 66) 2 = w3658 := by rw [eI3660, pp_ne _ _ (Or.inl (lyx_ne hy (by decide) (by decide) (by decide)))]; exact ew3658
  have e3664 : I3660 (ad g 53) 0 = w3656 := by rw [eI3660, pp_self]
  have fI3665 : FC g [53, 54, 55] I I3660 := by rw [eI3660]; exact FC_pp fI0 (by decide)
  refine WP_aload_n dX4_become_8 rfl ?_
  refine WP_aload_n dX4_become_9 rfl ?_
  refine WQ_getim dX4_become_10 fX4_22 rfl (lyx_is hy 66 4 rfl) e3662 ?_
  refine WQ_puti dX4_become_13 fX4_22 rfl rfl (lyx_is hy 53 4 rfl) (fun I3666 eI3666 => ?_)
  have e3667 : I3666 (ad g 66) 0 = w3656 := by rw [eI3666, pp_ne _ _ (Or.inl (lyx_ne hy (by decide) (by decide) (by decide)))]; exact e3661
  have e3668 : I3666 (ad g 66) 1 = w3657 := by rw [eI3666, pp_ne _ _ (Or.inl (lyx_ne hy (by decide) (by decide) (by decide)))]; exact e3662
  have e3669 : I3666 (ad g 66) 2 = w3658 := by rw [eI3666, pp_ne _ _ (Or.inl (lyx_ne hy (by decide) (by decide) (by decide)))]; exact e3663
  have e3670 : I3666 (ad g 53) 0 = w3656 := by rw [eI3666, pp_ne _ _ (Or.inr (by decide))]; exact e3664
  have e3671 : I3666 (ad g 53) 1 = w3657 := by rw [eI3666, pp_self]
  have fI3672 : FC g [53, 54, 55] I I3666 := by rw [eI3666]; exact FC_pp fI3665 (by decide)
  refine WP_aload_n dX4_become_16 rfl ?_
  refine WP_aload_n dX4_become_17 rfl ?_
  refine WQ_getim dX4_become_18 fX4_25 rfl (lyx_is hy 66 4 rfl) e3669 ?_
  refine WQ_puti dX4_become_21 fX4_25 rfl rfl (lyx_is hy 53 4 rfl) (fun I3673 eI3673 => ?_)
  have e3674 : I3673 (ad g 66) 0 = w3656 := by rw [eI3673, pp_ne _ _ (Or.inl (lyx_ne hy (by decide) (by decide) (by decide)))]; exact e3667
  have e3675 : I3673 (ad g 66) 1 = w3657 := by rw [eI3673, pp_ne _ _ (Or.inl (lyx_ne hy (by decide) (by decide) (by decide)))]; exact e3668
  have e3676 : I3673 (ad g 66) 2 = w3658 := by rw [eI3673, pp_ne _ _ (Or.inl (lyx_ne hy (by decide) (by decide) (by decide)))]; exact e3669
  have e3677 : I3673 (ad g 53) 0 = w3656 := by rw [eI3673, pp_ne _ _ (Or.inr (by decide))]; exact e3670
  have e3678 : I3673 (ad g 53) 1 = w3657 := by rw [eI3673, pp_ne _ _ (Or.inr (by decide))]; exact e3671
  have e3679 : I3673 (ad g 53) 2 = w3658 := by rw [eI3673, pp_self]
  have fI3680 : FC g [53, 54, 55] I I3673 := by rw [eI3673]; exact FC_pp fI3672 (by decide)
  refine WP_aload_n dX4_become_24 rfl ?_
  refine WP_aload_n dX4_become_25 rfl ?_
  refine WP_getl dX4_become_26 fX4_28 rfl (lyx_is hy 66 4 rfl) ?_
  rw [ew3659]
  refine WQ_putl dX4_become_29 fX4_28 rfl rfl (lyx_is hy 53 4 rfl) (fun J3681 eJ3681 => ?_)
  have e3682 : J3681 (ad g 66) 3 = w3659 := by rw [eJ3681, pp_ne _ _ (Or.inl (lyx_ne hy (by decide) (by decide) (by decide)))]; exact ew3659
  have e3683 : J3681 (ad g 53) 3 = w3659 := by rw [eJ3681, pp_self]
  have fJ3684 : FC g [53] J J3681 := by rw [eJ3681]; exact FC_pp fJ0 (by decide)
  have fB := fI3680
  refine WP_aload_n dX4_become_32 rfl ?_
  refine WP_getr dX4_become_33 fX4_9 rfl (lyx_is hy 66 4 rfl) (rfx hr 66 4 67 (by decide)) ?_
  refine WQ_iconst (0) (0) dX4_become_36 rfl rfl (fun v3685 hv3685 => ?_)
  refine WP_aload_n dX4_become_37 rfl ?_
  refine WP_getr dX4_become_38 fX4_9 rfl (lyx_is hy 53 4 rfl) (rfx hr 53 4 54 (by decide)) ?_
  refine WQ_iconst (0) (0) dX4_become_41 rfl rfl (fun v3686 hv3686 => ?_)
  refine WP_aload_n dX4_become_42 rfl ?_
  refine WP_getr dX4_become_43 fX4_9 rfl (lyx_is hy 53 4 rfl) (rfx hr 53 4 54 (by decide)) ?_
  refine WP_alen dX4_become_46 (lyx_is hy 54 13 rfl) (by decide) ?_
  rw [(lyx_n hy 54 4 rfl)]
  obtain ⟨v3687, hv3687, ev3687⟩ : ∃ v : Int32, v.toInt = 4 ∧ nI 4 = v := ⟨_, nI_toInt (by decide), rfl⟩
  rw [ev3687]; clear ev3687
  refine WQ_copy0 (N := 4) dX4_become_47 lX4_46 ⟨by decide, Nat.le_of_ble_eq_true rfl⟩ (lyx_is hy 67 13 rfl) (lyx_is hy 54 13 rfl) hv3685 hv3686 hv3687 (lyx_n hy 67 4 rfl) (lyx_n hy 54 4 rfl) (fun I3688 cI3688 oI3688 => ?_)
  have g3689 : FC g [54] I3673 I3688 := fun b hb => oI3688 b (hb 54 (by decide))
  have e3690 : I3688 (ad g 66) 0 = w3656 := by rw [FCx_at hy g3689 66 (by decide) (by decide)]; exact e3674
  have e3691 : I3688 (ad g 66) 1 = w3657 := by rw [FCx_at hy g3689 66 (by decide) (by decide)]; exact e3675
  have e3692 : I3688 (ad g 66) 2 = w3658 := by rw [FCx_at hy g3689 66 (by decide) (by decide)]; exact e3676
  have e3693 : I3688 (ad g 53) 0 = w3656 := by rw [FCx_at hy g3689 53 (by decide) (by decide)]; exact e3677
  have e3694 : I3688 (ad g 53) 1 = w3657 := by rw [FCx_at hy g3689 53 (by decide) (by decide)]; exact e3678
  have e3695 : I3688 (ad g 53) 2 = w3658 := by rw [FCx_at hy g3689 53 (by decide) (by decide)]; exact e3679
  have fI3696 : FC g [53, 54, 55] I I3688 := FC_tr fI3680 (FC_mono g3689 (by decide))
  refine WP_aload_n dX4_become_50 rfl ?_
  refine WP_getr dX4_become_51 fX4_15 rfl (lyx_is hy 66 4 rfl) (rfx hr 66 5 68 (by decide)) ?_
  refine WQ_iconst (0) (0) dX4_become_54 rfl rfl (fun v3697 hv3697 => ?_)
  refine WP_aload_n dX4_become_55 rfl ?_
  refine WP_getr dX4_become_56 fX4_15 rfl (lyx_is hy 53 4 rfl) (rfx hr 53 5 55 (by decide)) ?_
  refine WQ_iconst (0) (0) dX4_become_59 rfl rfl (fun v3698 hv3698 => ?_)
  refine WP_aload_n dX4_become_60 rfl ?_
  refine WP_getr dX4_become_61 fX4_15 rfl (lyx_is hy 53 4 rfl) (rfx hr 53 5 55 (by decide)) ?_
  refine WP_alen dX4_become_64 (lyx_is hy 55 13 rfl) (by decide) ?_
  rw [(lyx_n hy 55 28 rfl)]
  obtain ⟨v3699, hv3699, ev3699⟩ : ∃ v : Int32, v.toInt = 28 ∧ nI 28 = v := ⟨_, nI_toInt (by decide), rfl⟩
  rw [ev3699]; clear ev3699
  refine WQ_copy0 (N := 28) dX4_become_65 lX4_46 ⟨by decide, Nat.le_of_ble_eq_true rfl⟩ (lyx_is hy 68 13 rfl) (lyx_is hy 55 13 rfl) hv3697 hv3698 hv3699 (lyx_n hy 68 28 rfl) (lyx_n hy 55 28 rfl) (fun I3700 cI3700 oI3700 => ?_)
  have g3701 : FC g [55] I3688 I3700 := fun b hb => oI3700 b (hb 55 (by decide))
  have e3702 : I3700 (ad g 66) 0 = w3656 := by rw [FCx_at hy g3701 66 (by decide) (by decide)]; exact e3690
  have e3703 : I3700 (ad g 66) 1 = w3657 := by rw [FCx_at hy g3701 66 (by decide) (by decide)]; exact e3691
  have e3704 : I3700 (ad g 66) 2 = w3658 := by rw [FCx_at hy g3701 66 (by decide) (by decide)]; exact e3692
  have e3705 : I3700 (ad g 53) 0 = w3656 := by rw [FCx_at hy g3701 53 (by decide) (by decide)]; exact e3693
  have e3706 : I3700 (ad g 53) 1 = w3657 := by rw [FCx_at hy g3701 53 (by decide) (by decide)]; exact e3694
  have e3707 : I3700 (ad g 53) 2 = w3658 := by rw [FCx_at hy g3701 53 (by decide) (by decide)]; exact e3695
  have fI3708 : FC g [53, 54, 55] I I3700 := FC_tr fI3696 (FC_mono g3701 (by decide))
  exact WP_vret dX4_become_68 rfl ⟨rfl, fI3708, fJ3684, rfl, by
    try simp only [e3702, e3703, e3704, e3705, e3706, e3707, e3682, e3683, ew3656, ew3657, ew3658, ew3659]
    refine ⟨⟨?_, ?_, ?_, ?_⟩, fun q hq => ?_, fun q hq => ?_⟩
    · first | rfl | trivial | assumption | (symm; assumption) | (simp only [ew3656, ew3657, ew3658, ew3659, e3705, e3706, e3707, e3683])
    · first | rfl | trivial | assumption | (symm; assumption) | (simp only [ew3656, ew3657, ew3658, ew3659, e3705, e3706, e3707, e3683])
    · first | rfl | trivial | assumption | (symm; assumption) | (simp only [ew3656, ew3657, ew3658, ew3659, e3705, e3706, e3707, e3683])
    · first | rfl | trivial | assumption | (symm; assumption) | (simp only [ew3656, ew3657, ew3658, ew3659, e3705, e3706, e3707, e3683])
    · rw [FCx_at hy g3701 54 (by decide) (by decide), cI3688 q hq, FCx_at hy fB 67 (by decide) (by decide)]
    · rw [cI3700 q hq, FCx_at hy g3689 68 (by decide) (by decide), FCx_at hy fB 68 (by decide) (by decide)]⟩
set_option maxHeartbeats 4000000 in
set_option maxRecDepth 100000 in
theorem ex_become60_53 {g : GG} {I : pI} {J : pJ} {R : pR} (hy : LyX g) (hr : RfX g R)    : SP g mX4_become [.ref (ad g 60), .ref (ad g 53)] I J R (fun r I' J' R' => R' = R ∧ FC g [60, 61, 62] I I' ∧ FC g [60] J J' ∧ r = none ∧ (BCM g 60 53 I J I' J')) := by
  refine SP_of ⟨by decide, rfl⟩ (Nat.le_of_ble_eq_true rfl) ?_
  have fI0 : FC g [60, 61, 62] I I := FC_rf
  have fJ0 : FC g [60] J J := FC_rf
  obtain ⟨w3709, ew3709⟩ : ∃ w : Int32, I (ad g 53) 0 = w := ⟨_, rfl⟩
  obtain ⟨w3710, ew3710⟩ : ∃ w : Int32, I (ad g 53) 1 = w := ⟨_, rfl⟩
  obtain ⟨w3711, ew3711⟩ : ∃ w : Int32, I (ad g 53) 2 = w := ⟨_, rfl⟩
  obtain ⟨w3712, ew3712⟩ : ∃ w : Int64, J (ad g 53) 3 = w := ⟨_, rfl⟩
  refine WP_aload_n dX4_become_0 rfl ?_
  refine WP_aload_n dX4_become_1 rfl ?_
  refine WQ_getim dX4_become_2 fX4_18 rfl (lyx_is hy 53 4 rfl) ew3709 ?_
  refine WQ_puti dX4_become_5 fX4_18 rfl rfl (lyx_is hy 60 4 rfl) (fun I3713 eI3713 => ?_)
  have e3714 : I3713 (ad g 53) 0 = w3709 := by rw [eI3713, pp_ne _ _ (Or.inl (lyx_ne hy (by decide) (by decide) (by decide)))]; exact ew3709
  have e3715 : I3713 (ad g 53) 1 = w3710 := by rw [eI3713, pp_ne _ _ (Or.inl (lyx_ne hy (by decide) (by decide) (by decide)))]; exact ew3710
  have e3716 : I3713 (ad g 53) 2 = w3711 := by rw [eI3713, pp_ne _ _ (Or.inl (lyx_ne hy (by decide) (by decide) (by decide)))]; exact ew3711
  have e3717 : I3713 (ad g 60) 0 = w3709 := by rw [eI3713, pp_self]
  have fI3718 : FC g [60, 61, 62] I I3713 := by rw [eI3713]; exact FC_pp fI0 (by decide)
  refine WP_aload_n dX4_become_8 rfl ?_
  refine WP_aload_n dX4_become_9 rfl ?_
  refine WQ_getim dX4_become_10 fX4_22 rfl (lyx_is hy 53 4 rfl) e3715 ?_
  refine WQ_puti dX4_become_13 fX4_22 rfl rfl (lyx_is hy 60 4 rfl) (fun I3719 eI3719 => ?_)
  have e3720 : I3719 (ad g 53) 0 = w3709 := by rw [eI3719, pp_ne _ _ (Or.inl (lyx_ne hy (by decide) (by decide) (by decide)))]; exact e3714
  have e3721 : I3719 (ad g 53) 1 = w3710 := by rw [eI3719, pp_ne _ _ (Or.inl (lyx_ne hy (by decide) (by decide) (by decide)))]; exact e3715
  have e3722 : I3719 (ad g 53) 2 = w3711 := by rw [eI3719, pp_ne _ _ (Or.inl (lyx_ne hy (by decide) (by decide) (by decide)))]; exact e3716
  have e3723 : I3719 (ad g 60) 0 = w3709 := by rw [eI3719, pp_ne _ _ (Or.inr (by decide))]; exact e3717
  have e3724 : I3719 (ad g 60) 1 = w3710 := by rw [eI3719, pp_self]
  have fI3725 : FC g [60, 61, 62] I I3719 := by rw [eI3719]; exact FC_pp fI3718 (by decide)
  refine WP_aload_n dX4_become_16 rfl ?_
  refine WP_aload_n dX4_become_17 rfl ?_
  refine WQ_getim dX4_become_18 fX4_25 rfl (lyx_is hy 53 4 rfl) e3722 ?_
  refine WQ_puti dX4_become_21 fX4_25 rfl rfl (lyx_is hy 60 4 rfl) (fun I3726 eI3726 => ?_)
  have e3727 : I3726 (ad g 53) 0 = w3709 := by rw [eI3726, pp_ne _ _ (Or.inl (lyx_ne hy (by decide) (by decide) (by decide)))]; exact e3720
  have e3728 : I3726 (ad g 53) 1 = w3710 := by rw [eI3726, pp_ne _ _ (Or.inl (lyx_ne hy (by decide) (by decide) (by decide)))]; exact e3721
  have e3729 : I3726 (ad g 53) 2 = w3711 := by rw [eI3726, pp_ne _ _ (Or.inl (lyx_ne hy (by decide) (by decide) (by decide)))]; exact e3722
  have e3730 : I3726 (ad g 60) 0 = w3709 := by rw [eI3726, pp_ne _ _ (Or.inr (by decide))]; exact e3723
  have e3731 : I3726 (ad g 60) 1 = w3710 := by rw [eI3726, pp_ne _ _ (Or.inr (by decide))]; exact e3724
  have e3732 : I3726 (ad g 60) 2 = w3711 := by rw [eI3726, pp_self]
  have fI3733 : FC g [60, 61, 62] I I3726 := by rw [eI3726]; exact FC_pp fI3725 (by decide)
  refine WP_aload_n dX4_become_24 rfl ?_
  refine WP_aload_n dX4_become_25 rfl ?_
  refine WP_getl dX4_become_26 fX4_28 rfl (lyx_is hy 53 4 rfl) ?_
  rw [ew3712]
  refine WQ_putl dX4_become_29 fX4_28 rfl rfl (lyx_is hy 60 4 rfl) (fun J3734 eJ3734 => ?_)
  have e3735 : J3734 (ad g 53) 3 = w3712 := by rw [eJ3734, pp_ne _ _ (Or.inl (lyx_ne hy (by decide) (by decide) (by decide)))]; exact ew3712
  have e3736 : J3734 (ad g 60) 3 = w3712 := by rw [eJ3734, pp_self]
  have fJ3737 : FC g [60] J J3734 := by rw [eJ3734]; exact FC_pp fJ0 (by decide)
  have fB := fI3733
  refine WP_aload_n dX4_become_32 rfl ?_
  refine WP_getr dX4_become_33 fX4_9 rfl (lyx_is hy 53 4 rfl) (rfx hr 53 4 54 (by decide)) ?_
  refine WQ_iconst (0) (0) dX4_become_36 rfl rfl (fun v3738 hv3738 => ?_)
  refine WP_aload_n dX4_become_37 rfl ?_
  refine WP_getr dX4_become_38 fX4_9 rfl (lyx_is hy 60 4 rfl) (rfx hr 60 4 61 (by decide)) ?_
  refine WQ_iconst (0) (0) dX4_become_41 rfl rfl (fun v3739 hv3739 => ?_)
  refine WP_aload_n dX4_become_42 rfl ?_
  refine WP_getr dX4_become_43 fX4_9 rfl (lyx_is hy 60 4 rfl) (rfx hr 60 4 61 (by decide)) ?_
  refine WP_alen dX4_become_46 (lyx_is hy 61 13 rfl) (by decide) ?_
  rw [(lyx_n hy 61 4 rfl)]
  obtain ⟨v3740, hv3740, ev3740⟩ : ∃ v : Int32, v.toInt = 4 ∧ nI 4 = v := ⟨_, nI_toInt (by decide), rfl⟩
  rw [ev3740]; clear ev3740
  refine WQ_copy0 (N := 4) dX4_become_47 lX4_46 ⟨by decide, Nat.le_of_ble_eq_true rfl⟩ (lyx_is hy 54 13 rfl) (lyx_is hy 61 13 rfl) hv3738 hv3739 hv3740 (lyx_n hy 54 4 rfl) (lyx_n hy 61 4 rfl) (fun I3741 cI3741 oI3741 => ?_)
  have g3742 : FC g [61] I3726 I3741 := fun b hb => oI3741 b (hb 61 (by decide))
  have e3743 : I3741 (ad g 53) 0 = w3709 := by rw [FCx_at hy g3742 53 (by decide) (by decide)]; exact e3727
  have e3744 : I3741 (ad g 53) 1 = w3710 := by rw [FCx_at hy g3742 53 (by decide) (by decide)]; exact e3728
  have e3745 : I3741 (ad g 53) 2 = w3711 := by rw [FCx_at hy g3742 53 (by decide) (by decide)]; exact e3729
  have e3746 : I3741 (ad g 60) 0 = w3709 := by rw [FCx_at hy g3742 60 (by decide) (by decide)]; exact e3730
  have e3747 : I3741 (ad g 60) 1 = w3710 := by rw [FCx_at hy g3742 60 (by decide) (by decide)]; exact e3731
  have e3748 : I3741 (ad g 60) 2 = w3711 := by rw [FCx_at hy g3742 60 (by decide) (by decide)]; exact e3732
  have fI3749 : FC g [60, 61, 62] I I3741 := FC_tr fI3733 (FC_mono g3742 (by decide))
  refine WP_aload_n dX4_become_50 rfl ?_
  refine WP_getr dX4_become_51 fX4_15 rfl (lyx_is hy 53 4 rfl) (rfx hr 53 5 55 (by decide)) ?_
  refine WQ_iconst (0) (0) dX4_become_54 rfl rfl (fun v3750 hv3750 => ?_)
  refine WP_aload_n dX4_become_55 rfl ?_
  refine WP_getr dX4_become_56 fX4_15 rfl (lyx_is hy 60 4 rfl) (rfx hr 60 5 62 (by decide)) ?_
  refine WQ_iconst (0) (0) dX4_become_59 rfl rfl (fun v3751 hv3751 => ?_)
  refine WP_aload_n dX4_become_60 rfl ?_
  refine WP_getr dX4_become_61 fX4_15 rfl (lyx_is hy 60 4 rfl) (rfx hr 60 5 62 (by decide)) ?_
  refine WP_alen dX4_become_64 (lyx_is hy 62 13 rfl) (by decide) ?_
  rw [(lyx_n hy 62 28 rfl)]
  obtain ⟨v3752, hv3752, ev3752⟩ : ∃ v : Int32, v.toInt = 28 ∧ nI 28 = v := ⟨_, nI_toInt (by decide), rfl⟩
  rw [ev3752]; clear ev3752
  refine WQ_copy0 (N := 28) dX4_become_65 lX4_46 ⟨by decide, Nat.le_of_ble_eq_true rfl⟩ (lyx_is hy 55 13 rfl) (lyx_is hy 62 13 rfl) hv3750 hv3751 hv3752 (lyx_n hy 55 28 rfl) (lyx_n hy 62 28 rfl) (fun I3753 cI3753 oI3753 => ?_)
  have g3754 : FC g [62] I3741 I3753 := fun b hb => oI3753 b (hb 62 (by decide))
  have e3755 : I3753 (ad g 53) 0 = w3709 := by rw [FCx_at hy g3754 53 (by decide) (by decide)]; exact e3743
  have e3756 : I3753 (ad g 53) 1 = w3710 := by rw [FCx_at hy g3754 53 (by decide) (by decide)]; exact e3744
  have e3757 : I3753 (ad g 53) 2 = w3711 := by rw [FCx_at hy g3754 53 (by decide) (by decide)]; exact e3745
  have e3758 : I3753 (ad g 60) 0 = w3709 := by rw [FCx_at hy g3754 60 (by decide) (by decide)]; exact e3746
  have e3759 : I3753 (ad g 60) 1 = w3710 := by rw [FCx_at hy g3754 60 (by decide) (by decide)]; exact e3747
  have e3760 : I3753 (ad g 60) 2 = w3711 := by rw [FCx_at hy g3754 60 (by decide) (by decide)]; exact e3748
  have fI3761 : FC g [60, 61, 62] I I3753 := FC_tr fI3749 (FC_mono g3754 (by decide))
  exact WP_vret dX4_become_68 rfl ⟨rfl, fI3761, fJ3737, rfl, by
    try simp only [e3755, e3756, e3757, e3758, e3759, e3760, e3735, e3736, ew3709, ew3710, ew3711, ew3712]
    refine ⟨⟨?_, ?_, ?_, ?_⟩, fun q hq => ?_, fun q hq => ?_⟩
    · first | rfl | trivial | assumption | (symm; assumption) | (simp only [ew3709, ew3710, ew3711, ew3712, e3758, e3759, e3760, e3736])
    · first | rfl | trivial | assumption | (symm; assumption) | (simp only [ew3709, ew3710, ew3711, ew3712, e3758, e3759, e3760, e3736])
    · first | rfl | trivial | assumption | (symm; assumption) | (simp only [ew3709, ew3710, ew3711, ew3712, e3758, e3759, e3760, e3736])
    · first | rfl | trivial | assumption | (symm; assumption) | (simp only [ew3709, ew3710, ew3711, ew3712, e3758, e3759, e3760, e3736])
    · rw [FCx_at hy g3754 61 (by decide) (by decide), cI3741 q hq, FCx_at hy fB 54 (by decide) (by decide)]
    · rw [cI3753 q hq, FCx_at hy g3742 55 (by decide) (by decide), FCx_at hy fB 55 (by decide) (by decide)]⟩
set_option maxHeartbeats 4000000 in
set_option maxRecDepth 100000 in
theorem ex_become63_53 {g : GG} {I : pI} {J : pJ} {R : pR} (hy : LyX g) (hr : RfX g R)    : SP g mX4_become [.ref (ad g 63), .ref (ad g 53)] I J R (fun r I' J' R' => R' = R ∧ FC g [63, 64, 65] I I' ∧ FC g [63] J J' ∧ r = none ∧ (BCM g 63 53 I J I' J')) := by
  refine SP_of ⟨by decide, rfl⟩ (Nat.le_of_ble_eq_true rfl) ?_
  have fI0 : FC g [63, 64, 65] I I := FC_rf
  have fJ0 : FC g [63] J J := FC_rf
  obtain ⟨w3762, ew3762⟩ : ∃ w : Int32, I (ad g 53) 0 = w := ⟨_, rfl⟩
  obtain ⟨w3763, ew3763⟩ : ∃ w : Int32, I (ad g 53) 1 = w := ⟨_, rfl⟩
  obtain ⟨w3764, ew3764⟩ : ∃ w : Int32, I (ad g 53) 2 = w := ⟨_, rfl⟩
  obtain ⟨w3765, ew3765⟩ : ∃ w : Int64, J (ad g 53) 3 = w := ⟨_, rfl⟩
  refine WP_aload_n dX4_become_0 rfl ?_
  refine WP_aload_n dX4_become_1 rfl ?_
  refine WQ_getim dX4_become_2 fX4_18 rfl (lyx_is hy 53 4 rfl) ew3762 ?_
  refine WQ_puti dX4_become_5 fX4_18 rfl rfl (lyx_is hy 63 4 rfl) (fun I3766 eI3766 => ?_)
  have e3767 : I3766 (ad g 53) 0 = w3762 := by rw [eI3766, pp_ne _ _ (Or.inl (lyx_ne hy (by decide) (by decide) (by decide)))]; exact ew3762
  have e3768 : I3766 (ad g 53) 1 = w3763 := by rw [eI3766, pp_ne _ _ (Or.inl (lyx_ne hy (by decide) (by decide) (by decide)))]; exact ew3763
  have e3769 : I3766 (ad g 53) 2 = w3764 := by rw [eI3766, pp_ne _ _ (Or.inl (lyx_ne hy (by decide) (by decide) (by decide)))]; exact ew3764
  have e3770 : I3766 (ad g 63) 0 = w3762 := by rw [eI3766, pp_self]
  have fI3771 : FC g [63, 64, 65] I I3766 := by rw [eI3766]; exact FC_pp fI0 (by decide)
  refine WP_aload_n dX4_become_8 rfl ?_
  refine WP_aload_n dX4_become_9 rfl ?_
  refine WQ_getim dX4_become_10 fX4_22 rfl (lyx_is hy 53 4 rfl) e3768 ?_
  refine WQ_puti dX4_become_13 fX4_22 rfl rfl (lyx_is hy 63 4 rfl) (fun I3772 eI3772 => ?_)
  have e3773 : I3772 (ad g 53) 0 = w3762 := by rw [eI3772, pp_ne _ _ (Or.inl (lyx_ne hy (by decide) (by decide) (by decide)))]; exact e3767
  have e3774 : I3772 (ad g 53) 1 = w3763 := by rw [eI3772, pp_ne _ _ (Or.inl (lyx_ne hy (by decide) (by decide) (by decide)))]; exact e3768
  have e3775 : I3772 (ad g 53) 2 = w3764 := by rw [eI3772, pp_ne _ _ (Or.inl (lyx_ne hy (by decide) (by decide) (by decide)))]; exact e3769
  have e3776 : I3772 (ad g 63) 0 = w3762 := by rw [eI3772, pp_ne _ _ (Or.inr (by decide))]; exact e3770
  have e3777 : I3772 (ad g 63) 1 = w3763 := by rw [eI3772, pp_self]
  have fI3778 : FC g [63, 64, 65] I I3772 := by rw [eI3772]; exact FC_pp fI3771 (by decide)
  refine WP_aload_n dX4_become_16 rfl ?_
  refine WP_aload_n dX4_become_17 rfl ?_
  refine WQ_getim dX4_become_18 fX4_25 rfl (lyx_is hy 53 4 rfl) e3775 ?_
  refine WQ_puti dX4_become_21 fX4_25 rfl rfl (lyx_is hy 63 4 rfl) (fun I3779 eI3779 => ?_)
  have e3780 : I3779 (ad g 53) 0 = w3762 := by rw [eI3779, pp_ne _ _ (Or.inl (lyx_ne hy (by decide) (by decide) (by decide)))]; exact e3773
  have e3781 : I3779 (ad g 53) 1 = w3763 := by rw [eI3779, pp_ne _ _ (Or.inl (lyx_ne hy (by decide) (by decide) (by decide)))]; exact e3774
  have e3782 : I3779 (ad g 53) 2 = w3764 := by rw [eI3779, pp_ne _ _ (Or.inl (lyx_ne hy (by decide) (by decide) (by decide)))]; exact e3775
  have e3783 : I3779 (ad g 63) 0 = w3762 := by rw [eI3779, pp_ne _ _ (Or.inr (by decide))]; exact e3776
  have e3784 : I3779 (ad g 63) 1 = w3763 := by rw [eI3779, pp_ne _ _ (Or.inr (by decide))]; exact e3777
  have e3785 : I3779 (ad g 63) 2 = w3764 := by rw [eI3779, pp_self]
  have fI3786 : FC g [63, 64, 65] I I3779 := by rw [eI3779]; exact FC_pp fI3778 (by decide)
  refine WP_aload_n dX4_become_24 rfl ?_
  refine WP_aload_n dX4_become_25 rfl ?_
  refine WP_getl dX4_become_26 fX4_28 rfl (lyx_is hy 53 4 rfl) ?_
  rw [ew3765]
  refine WQ_putl dX4_become_29 fX4_28 rfl rfl (lyx_is hy 63 4 rfl) (fun J3787 eJ3787 => ?_)
  have e3788 : J3787 (ad g 53) 3 = w3765 := by rw [eJ3787, pp_ne _ _ (Or.inl (lyx_ne hy (by decide) (by decide) (by decide)))]; exact ew3765
  have e3789 : J3787 (ad g 63) 3 = w3765 := by rw [eJ3787, pp_self]
  have fJ3790 : FC g [63] J J3787 := by rw [eJ3787]; exact FC_pp fJ0 (by decide)
  have fB := fI3786
  refine WP_aload_n dX4_become_32 rfl ?_
  refine WP_getr dX4_become_33 fX4_9 rfl (lyx_is hy 53 4 rfl) (rfx hr 53 4 54 (by decide)) ?_
  refine WQ_iconst (0) (0) dX4_become_36 rfl rfl (fun v3791 hv3791 => ?_)
  refine WP_aload_n dX4_become_37 rfl ?_
  refine WP_getr dX4_become_38 fX4_9 rfl (lyx_is hy 63 4 rfl) (rfx hr 63 4 64 (by decide)) ?_
  refine WQ_iconst (0) (0) dX4_become_41 rfl rfl (fun v3792 hv3792 => ?_)
  refine WP_aload_n dX4_become_42 rfl ?_
  refine WP_getr dX4_become_43 fX4_9 rfl (lyx_is hy 63 4 rfl) (rfx hr 63 4 64 (by decide)) ?_
  refine WP_alen dX4_become_46 (lyx_is hy 64 13 rfl) (by decide) ?_
  rw [(lyx_n hy 64 4 rfl)]
  obtain ⟨v3793, hv3793, ev3793⟩ : ∃ v : Int32, v.toInt = 4 ∧ nI 4 = v := ⟨_, nI_toInt (by decide), rfl⟩
  rw [ev3793]; clear ev3793
  refine WQ_copy0 (N := 4) dX4_become_47 lX4_46 ⟨by decide, Nat.le_of_ble_eq_true rfl⟩ (lyx_is hy 54 13 rfl) (lyx_is hy 64 13 rfl) hv3791 hv3792 hv3793 (lyx_n hy 54 4 rfl) (lyx_n hy 64 4 rfl) (fun I3794 cI3794 oI3794 => ?_)
  have g3795 : FC g [64] I3779 I3794 := fun b hb => oI3794 b (hb 64 (by decide))
  have e3796 : I3794 (ad g 53) 0 = w3762 := by rw [FCx_at hy g3795 53 (by decide) (by decide)]; exact e3780
  have e3797 : I3794 (ad g 53) 1 = w3763 := by rw [FCx_at hy g3795 53 (by decide) (by decide)]; exact e3781
  have e3798 : I3794 (ad g 53) 2 = w3764 := by rw [FCx_at hy g3795 53 (by decide) (by decide)]; exact e3782
  have e3799 : I3794 (ad g 63) 0 = w3762 := by rw [FCx_at hy g3795 63 (by decide) (by decide)]; exact e3783
  have e3800 : I3794 (ad g 63) 1 = w3763 := by rw [FCx_at hy g3795 63 (by decide) (by decide)]; exact e3784
  have e3801 : I3794 (ad g 63) 2 = w3764 := by rw [FCx_at hy g3795 63 (by decide) (by decide)]; exact e3785
  have fI3802 : FC g [63, 64, 65] I I3794 := FC_tr fI3786 (FC_mono g3795 (by decide))
  refine WP_aload_n dX4_become_50 rfl ?_
  refine WP_getr dX4_become_51 fX4_15 rfl (lyx_is hy 53 4 rfl) (rfx hr 53 5 55 (by decide)) ?_
  refine WQ_iconst (0) (0) dX4_become_54 rfl rfl (fun v3803 hv3803 => ?_)
  refine WP_aload_n dX4_become_55 rfl ?_
  refine WP_getr dX4_become_56 fX4_15 rfl (lyx_is hy 63 4 rfl) (rfx hr 63 5 65 (by decide)) ?_
  refine WQ_iconst (0) (0) dX4_become_59 rfl rfl (fun v3804 hv3804 => ?_)
  refine WP_aload_n dX4_become_60 rfl ?_
  refine WP_getr dX4_become_61 fX4_15 rfl (lyx_is hy 63 4 rfl) (rfx hr 63 5 65 (by decide)) ?_
  refine WP_alen dX4_become_64 (lyx_is hy 65 13 rfl) (by decide) ?_
  rw [(lyx_n hy 65 28 rfl)]
  obtain ⟨v3805, hv3805, ev3805⟩ : ∃ v : Int32, v.toInt = 28 ∧ nI 28 = v := ⟨_, nI_toInt (by decide), rfl⟩
  rw [ev3805]; clear ev3805
  refine WQ_copy0 (N := 28) dX4_become_65 lX4_46 ⟨by decide, Nat.le_of_ble_eq_true rfl⟩ (lyx_is hy 55 13 rfl) (lyx_is hy 65 13 rfl) hv3803 hv3804 hv3805 (lyx_n hy 55 28 rfl) (lyx_n hy 65 28 rfl) (fun I3806 cI3806 oI3806 => ?_)
  have g3807 : FC g [65] I3794 I3806 := fun b hb => oI3806 b (hb 65 (by decide))
  have e3808 : I3806 (ad g 53) 0 = w3762 := by rw [FCx_at hy g3807 53 (by decide) (by decide)]; exact e3796
  have e3809 : I3806 (ad g 53) 1 = w3763 := by rw [FCx_at hy g3807 53 (by decide) (by decide)]; exact e3797
  have e3810 : I3806 (ad g 53) 2 = w3764 := by rw [FCx_at hy g3807 53 (by decide) (by decide)]; exact e3798
  have e3811 : I3806 (ad g 63) 0 = w3762 := by rw [FCx_at hy g3807 63 (by decide) (by decide)]; exact e3799
  have e3812 : I3806 (ad g 63) 1 = w3763 := by rw [FCx_at hy g3807 63 (by decide) (by decide)]; exact e3800
  have e3813 : I3806 (ad g 63) 2 = w3764 := by rw [FCx_at hy g3807 63 (by decide) (by decide)]; exact e3801
  have fI3814 : FC g [63, 64, 65] I I3806 := FC_tr fI3802 (FC_mono g3807 (by decide))
  exact WP_vret dX4_become_68 rfl ⟨rfl, fI3814, fJ3790, rfl, by
    try simp only [e3808, e3809, e3810, e3811, e3812, e3813, e3788, e3789, ew3762, ew3763, ew3764, ew3765]
    refine ⟨⟨?_, ?_, ?_, ?_⟩, fun q hq => ?_, fun q hq => ?_⟩
    · first | rfl | trivial | assumption | (symm; assumption) | (simp only [ew3762, ew3763, ew3764, ew3765, e3811, e3812, e3813, e3789])
    · first | rfl | trivial | assumption | (symm; assumption) | (simp only [ew3762, ew3763, ew3764, ew3765, e3811, e3812, e3813, e3789])
    · first | rfl | trivial | assumption | (symm; assumption) | (simp only [ew3762, ew3763, ew3764, ew3765, e3811, e3812, e3813, e3789])
    · first | rfl | trivial | assumption | (symm; assumption) | (simp only [ew3762, ew3763, ew3764, ew3765, e3811, e3812, e3813, e3789])
    · rw [FCx_at hy g3807 64 (by decide) (by decide), cI3794 q hq, FCx_at hy fB 54 (by decide) (by decide)]
    · rw [cI3806 q hq, FCx_at hy g3795 55 (by decide) (by decide), FCx_at hy fB 55 (by decide) (by decide)]⟩
set_option maxHeartbeats 4000000 in
set_option maxRecDepth 100000 in
theorem ex_become66_53 {g : GG} {I : pI} {J : pJ} {R : pR} (hy : LyX g) (hr : RfX g R)    : SP g mX4_become [.ref (ad g 66), .ref (ad g 53)] I J R (fun r I' J' R' => R' = R ∧ FC g [66, 67, 68] I I' ∧ FC g [66] J J' ∧ r = none ∧ (BCM g 66 53 I J I' J')) := by
  refine SP_of ⟨by decide, rfl⟩ (Nat.le_of_ble_eq_true rfl) ?_
  have fI0 : FC g [66, 67, 68] I I := FC_rf
  have fJ0 : FC g [66] J J := FC_rf
  obtain ⟨w3815, ew3815⟩ : ∃ w : Int32, I (ad g 53) 0 = w := ⟨_, rfl⟩
  obtain ⟨w3816, ew3816⟩ : ∃ w : Int32, I (ad g 53) 1 = w := ⟨_, rfl⟩
  obtain ⟨w3817, ew3817⟩ : ∃ w : Int32, I (ad g 53) 2 = w := ⟨_, rfl⟩
  obtain ⟨w3818, ew3818⟩ : ∃ w : Int64, J (ad g 53) 3 = w := ⟨_, rfl⟩
  refine WP_aload_n dX4_become_0 rfl ?_
  refine WP_aload_n dX4_become_1 rfl ?_
  refine WQ_getim dX4_become_2 fX4_18 rfl (lyx_is hy 53 4 rfl) ew3815 ?_
  refine WQ_puti dX4_become_5 fX4_18 rfl rfl (lyx_is hy 66 4 rfl) (fun I3819 eI3819 => ?_)
  have e3820 : I3819 (ad g 53) 0 = w3815 := by rw [eI3819, pp_ne _ _ (Or.inl (lyx_ne hy (by decide) (by decide) (by decide)))]; exact ew3815
  have e3821 : I3819 (ad g 53) 1 = w3816 := by rw [eI3819, pp_ne _ _ (Or.inl (lyx_ne hy (by decide) (by decide) (by decide)))]; exact ew3816
  have e3822 : I3819 (ad g 53) 2 = w3817 := by rw [eI3819, pp_ne _ _ (Or.inl (lyx_ne hy (by decide) (by decide) (by decide)))]; exact ew3817
  have e3823 : I3819 (ad g 66) 0 = w3815 := by rw [eI3819, pp_self]
  have fI3824 : FC g [66, 67, 68] I I3819 := by rw [eI3819]; exact FC_pp fI0 (by decide)
  refine WP_aload_n dX4_become_8 rfl ?_
  refine WP_aload_n dX4_become_9 rfl ?_
  refine WQ_getim dX4_become_10 fX4_22 rfl (lyx_is hy 53 4 rfl) e3821 ?_
  refine WQ_puti dX4_become_13 fX4_22 rfl rfl (lyx_is hy 66 4 rfl) (fun I3825 eI3825 => ?_)
  have e3826 : I3825 (ad g 53) 0 = w3815 := by rw [eI3825, pp_ne _ _ (Or.inl (lyx_ne hy (by decide) (by decide) (by decide)))]; exact e3820
  have e3827 : I3825 (ad g 53) 1 = w3816 := by rw [eI3825, pp_ne _ _ (Or.inl (lyx_ne hy (by decide) (by decide) (by decide)))]; exact e3821
  have e3828 : I3825 (ad g 53) 2 = w3817 := by rw [eI3825, pp_ne _ _ (Or.inl (lyx_ne hy (by decide) (by decide) (by decide)))]; exact e3822
  have e3829 : I3825 (ad g 66) 0 = w3815 := by rw [eI3825, pp_ne _ _ (Or.inr (by decide))]; exact e3823
  have e3830 : I3825 (ad g 66) 1 = w3816 := by rw [eI3825, pp_self]
  have fI3831 : FC g [66, 67, 68] I I3825 := by rw [eI3825]; exact FC_pp fI3824 (by decide)
  refine WP_aload_n dX4_become_16 rfl ?_
  refine WP_aload_n dX4_become_17 rfl ?_
  refine WQ_getim dX4_become_18 fX4_25 rfl (lyx_is hy 53 4 rfl) e3828 ?_
  refine WQ_puti dX4_become_21 fX4_25 rfl rfl (lyx_is hy 66 4 rfl) (fun I3832 eI3832 => ?_)
  have e3833 : I3832 (ad g 53) 0 = w3815 := by rw [eI3832, pp_ne _ _ (Or.inl (lyx_ne hy (by decide) (by decide) (by decide)))]; exact e3826
  have e3834 : I3832 (ad g 53) 1 = w3816 := by rw [eI3832, pp_ne _ _ (Or.inl (lyx_ne hy (by decide) (by decide) (by decide)))]; exact e3827
  have e3835 : I3832 (ad g 53) 2 = w3817 := by rw [eI3832, pp_ne _ _ (Or.inl (lyx_ne hy (by decide) (by decide) (by decide)))]; exact e3828
  have e3836 : I3832 (ad g 66) 0 = w3815 := by rw [eI3832, pp_ne _ _ (Or.inr (by decide))]; exact e3829
  have e3837 : I3832 (ad g 66) 1 = w3816 := by rw [eI3832, pp_ne _ _ (Or.inr (by decide))]; exact e3830
  have e3838 : I3832 (ad g 66) 2 = w3817 := by rw [eI3832, pp_self]
  have fI3839 : FC g [66, 67, 68] I I3832 := by rw [eI3832]; exact FC_pp fI3831 (by decide)
  refine WP_aload_n dX4_become_24 rfl ?_
  refine WP_aload_n dX4_become_25 rfl ?_
  refine WP_getl dX4_become_26 fX4_28 rfl (lyx_is hy 53 4 rfl) ?_
  rw [ew3818]
  refine WQ_putl dX4_become_29 fX4_28 rfl rfl (lyx_is hy 66 4 rfl) (fun J3840 eJ3840 => ?_)
  have e3841 : J3840 (ad g 53) 3 = w3818 := by rw [eJ3840, pp_ne _ _ (Or.inl (lyx_ne hy (by decide) (by decide) (by decide)))]; exact ew3818
  have e3842 : J3840 (ad g 66) 3 = w3818 := by rw [eJ3840, pp_self]
  have fJ3843 : FC g [66] J J3840 := by rw [eJ3840]; exact FC_pp fJ0 (by decide)
  have fB := fI3839
  refine WP_aload_n dX4_become_32 rfl ?_
  refine WP_getr dX4_become_33 fX4_9 rfl (lyx_is hy 53 4 rfl) (rfx hr 53 4 54 (by decide)) ?_
  refine WQ_iconst (0) (0) dX4_become_36 rfl rfl (fun v3844 hv3844 => ?_)
  refine WP_aload_n dX4_become_37 rfl ?_
  refine WP_getr dX4_become_38 fX4_9 rfl (lyx_is hy 66 4 rfl) (rfx hr 66 4 67 (by decide)) ?_
  refine WQ_iconst (0) (0) dX4_become_41 rfl rfl (fun v3845 hv3845 => ?_)
  refine WP_aload_n dX4_become_42 rfl ?_
  refine WP_getr dX4_become_43 fX4_9 rfl (lyx_is hy 66 4 rfl) (rfx hr 66 4 67 (by decide)) ?_
  refine WP_alen dX4_become_46 (lyx_is hy 67 13 rfl) (by decide) ?_
  rw [(lyx_n hy 67 4 rfl)]
  obtain ⟨v3846, hv3846, ev3846⟩ : ∃ v : Int32, v.toInt = 4 ∧ nI 4 = v := ⟨_, nI_toInt (by decide), rfl⟩
  rw [ev3846]; clear ev3846
  refine WQ_copy0 (N := 4) dX4_become_47 lX4_46 ⟨by decide, Nat.le_of_ble_eq_true rfl⟩ (lyx_is hy 54 13 rfl) (lyx_is hy 67 13 rfl) hv3844 hv3845 hv3846 (lyx_n hy 54 4 rfl) (lyx_n hy 67 4 rfl) (fun I3847 cI3847 oI3847 => ?_)
  have g3848 : FC g [67] I3832 I3847 := fun b hb => oI3847 b (hb 67 (by decide))
  have e3849 : I3847 (ad g 53) 0 = w3815 := by rw [FCx_at hy g3848 53 (by decide) (by decide)]; exact e3833
  have e3850 : I3847 (ad g 53) 1 = w3816 := by rw [FCx_at hy g3848 53 (by decide) (by decide)]; exact e3834
  have e3851 : I3847 (ad g 53) 2 = w3817 := by rw [FCx_at hy g3848 53 (by decide) (by decide)]; exact e3835
  have e3852 : I3847 (ad g 66) 0 = w3815 := by rw [FCx_at hy g3848 66 (by decide) (by decide)]; exact e3836
  have e3853 : I3847 (ad g 66) 1 = w3816 := by rw [FCx_at hy g3848 66 (by decide) (by decide)]; exact e3837
  have e3854 : I3847 (ad g 66) 2 = w3817 := by rw [FCx_at hy g3848 66 (by decide) (by decide)]; exact e3838
  have fI3855 : FC g [66, 67, 68] I I3847 := FC_tr fI3839 (FC_mono g3848 (by decide))
  refine WP_aload_n dX4_become_50 rfl ?_
  refine WP_getr dX4_become_51 fX4_15 rfl (lyx_is hy 53 4 rfl) (rfx hr 53 5 55 (by decide)) ?_
  refine WQ_iconst (0) (0) dX4_become_54 rfl rfl (fun v3856 hv3856 => ?_)
  refine WP_aload_n dX4_become_55 rfl ?_
  refine WP_getr dX4_become_56 fX4_15 rfl (lyx_is hy 66 4 rfl) (rfx hr 66 5 68 (by decide)) ?_
  refine WQ_iconst (0) (0) dX4_become_59 rfl rfl (fun v3857 hv3857 => ?_)
  refine WP_aload_n dX4_become_60 rfl ?_
  refine WP_getr dX4_become_61 fX4_15 rfl (lyx_is hy 66 4 rfl) (rfx hr 66 5 68 (by decide)) ?_
  refine WP_alen dX4_become_64 (lyx_is hy 68 13 rfl) (by decide) ?_
  rw [(lyx_n hy 68 28 rfl)]
  obtain ⟨v3858, hv3858, ev3858⟩ : ∃ v : Int32, v.toInt = 28 ∧ nI 28 = v := ⟨_, nI_toInt (by decide), rfl⟩
  rw [ev3858]; clear ev3858
  refine WQ_copy0 (N := 28) dX4_become_65 lX4_46 ⟨by decide, Nat.le_of_ble_eq_true rfl⟩ (lyx_is hy 55 13 rfl) (lyx_is hy 68 13 rfl) hv3856 hv3857 hv3858 (lyx_n hy 55 28 rfl) (lyx_n hy 68 28 rfl) (fun I3859 cI3859 oI3859 => ?_)
  have g3860 : FC g [68] I3847 I3859 := fun b hb => oI3859 b (hb 68 (by decide))
  have e3861 : I3859 (ad g 53) 0 = w3815 := by rw [FCx_at hy g3860 53 (by decide) (by decide)]; exact e3849
  have e3862 : I3859 (ad g 53) 1 = w3816 := by rw [FCx_at hy g3860 53 (by decide) (by decide)]; exact e3850
  have e3863 : I3859 (ad g 53) 2 = w3817 := by rw [FCx_at hy g3860 53 (by decide) (by decide)]; exact e3851
  have e3864 : I3859 (ad g 66) 0 = w3815 := by rw [FCx_at hy g3860 66 (by decide) (by decide)]; exact e3852
  have e3865 : I3859 (ad g 66) 1 = w3816 := by rw [FCx_at hy g3860 66 (by decide) (by decide)]; exact e3853
  have e3866 : I3859 (ad g 66) 2 = w3817 := by rw [FCx_at hy g3860 66 (by decide) (by decide)]; exact e3854
  have fI3867 : FC g [66, 67, 68] I I3859 := FC_tr fI3855 (FC_mono g3860 (by decide))
  exact WP_vret dX4_become_68 rfl ⟨rfl, fI3867, fJ3843, rfl, by
    try simp only [e3861, e3862, e3863, e3864, e3865, e3866, e3841, e3842, ew3815, ew3816, ew3817, ew3818]
    refine ⟨⟨?_, ?_, ?_, ?_⟩, fun q hq => ?_, fun q hq => ?_⟩
    · first | rfl | trivial | assumption | (symm; assumption) | (simp only [ew3815, ew3816, ew3817, ew3818, e3864, e3865, e3866, e3842])
    · first | rfl | trivial | assumption | (symm; assumption) | (simp only [ew3815, ew3816, ew3817, ew3818, e3864, e3865, e3866, e3842])
    · first | rfl | trivial | assumption | (symm; assumption) | (simp only [ew3815, ew3816, ew3817, ew3818, e3864, e3865, e3866, e3842])
    · first | rfl | trivial | assumption | (symm; assumption) | (simp only [ew3815, ew3816, ew3817, ew3818, e3864, e3865, e3866, e3842])
    · rw [FCx_at hy g3860 67 (by decide) (by decide), cI3847 q hq, FCx_at hy fB 54 (by decide) (by decide)]
    · rw [cI3859 q hq, FCx_at hy g3848 55 (by decide) (by decide), FCx_at hy fB 55 (by decide) (by decide)]⟩
set_option maxHeartbeats 4000000 in
set_option maxRecDepth 100000 in
theorem ex_keep {g : GG} {I : pI} {J : pJ} {R : pR} (hy : LyX g) (hr : RfX g R)  (sl : Int32)  : SP g mX10_keep [.ref (ad g 0), .int sl] I J R (fun r I' J' R' => R' = R ∧ FC g [60, 61, 62, 63, 64, 65, 66, 67, 68] I I' ∧ FC g [60, 63, 66] J J' ∧ ∃ v : Int32, r = some (.int v) ∧ ((∃ k : Nat, k < 3 ∧ sl.toInt = (k : Int) ∧ v = I (ad g 53) 0 ∧ BCM g (60 + 3 * k) 53 I J I' J' ∧ FC g [60 + 3 * k, 61 + 3 * k, 62 + 3 * k] I I') ∨ (¬ (0 ≤ sl.toInt ∧ sl.toInt < 3) ∧ v.toInt = -2 ∧ I' = I))) := by
  refine SP_of ⟨by decide, rfl⟩ (Nat.le_of_ble_eq_true rfl) ?_
  have fI0 : FC g [60, 61, 62, 63, 64, 65, 66, 67, 68] I I := FC_rf
  have fJ0 : FC g [60, 63, 66] J J := FC_rf
  refine WP_iload_n dX10_keep_0 rfl ?_
  refine WQ_if_lt 9 dX10_keep_1 rfl (fun c3920 => ?_) (fun c3920 => ?_)
  · refine WQ_bipush (-2) (-2) dX10_keep_9 rfl rfl (fun v3922 hv3922 => ?_)
    exact WP_iret dX10_keep_11 rfl ⟨rfl, fI0, fJ0, v3922, rfl, by
      exact Or.inr ⟨by omega, by omega, rfl⟩⟩
  · refine WP_iload_n dX10_keep_4 rfl ?_
    refine WQ_iconst (3) (3) dX10_keep_5 rfl rfl (fun v3923 hv3923 => ?_)
    refine WQ_icmp_lt 12 dX10_keep_6 rfl (fun c3923 => ?_) (fun c3923 => ?_)
    · refine WP_aload_n dX10_keep_12 rfl ?_
      refine WP_getr dX10_keep_13 fX10_69 rfl (lyx_is hy 0 10 rfl) (rfx hr 0 7 59 (by decide)) ?_
      refine WP_iload_n dX10_keep_16 rfl ?_
      rcases (show sl.toInt = 0 ∨ sl.toInt = 1 ∨ sl.toInt = 2 by omega) with hsl | hsl | hsl
      · refine WQ_aald (q := 0) dX10_keep_17 (lyx_is hy 59 16 rfl) (lyx_n hy 59 3 rfl) hsl (by decide) (rfx hr 59 0 60 (by decide)) ?_
        refine WP_aload_n dX10_keep_18 rfl ?_
        refine WP_getr dX10_keep_19 fX10_62 rfl (lyx_is hy 0 10 rfl) (rfx hr 0 5 53 (by decide)) ?_
        refine WP_callV1 (k := 4) dX10_keep_22 ⟨⟨⟨by decide, by decide⟩, zX4_become⟩, lX10_249, by decide, rfl, vX4_become.1, vX4_become.2⟩ (lyx_is hy 60 4 rfl) (ex_become60_53 hy hr   ) (Nat.le_of_ble_eq_true rfl) ?_
        intro r I3926 J3927 Ra hq
        obtain ⟨ec, g3928, g3929, er, p3925⟩ := hq
        rw [ec, er]
        clear ec er Ra r
        have fI3931 : FC g [60, 61, 62, 63, 64, 65, 66, 67, 68] I I3926 := FC_tr fI0 (FC_mono g3928 (by decide))
        have fJ3932 : FC g [60, 63, 66] J J3927 := FC_tr fJ0 (FC_mono g3929 (by decide))
        refine WP_aload_n dX10_keep_25 rfl ?_
        refine WP_getr dX10_keep_26 fX10_62 rfl (lyx_is hy 0 10 rfl) (rfx hr 0 5 53 (by decide)) ?_
        obtain ⟨w3933, ew3933⟩ : ∃ w : Int32, I3926 (ad g 53) 0 = w := ⟨_, rfl⟩
        refine WQ_getim dX10_keep_29 fX10_232 rfl (lyx_is hy 53 4 rfl) ew3933 ?_
        exact WP_iret dX10_keep_32 rfl ⟨rfl, fI3931, fJ3932, w3933, rfl, by
          try simp only [ew3933]
          refine Or.inl ⟨0, by decide, by omega, ?_, p3925, g3928⟩
          have z9 := FCx_at hy g3928 53 (by decide) (by decide)
          rw [← z9]
          first | rfl | trivial | assumption | (symm; assumption)⟩
      · refine WQ_aald (q := 1) dX10_keep_17 (lyx_is hy 59 16 rfl) (lyx_n hy 59 3 rfl) hsl (by decide) (rfx hr 59 1 63 (by decide)) ?_
        refine WP_aload_n dX10_keep_18 rfl ?_
        refine WP_getr dX10_keep_19 fX10_62 rfl (lyx_is hy 0 10 rfl) (rfx hr 0 5 53 (by decide)) ?_
        refine WP_callV1 (k := 4) dX10_keep_22 ⟨⟨⟨by decide, by decide⟩, zX4_become⟩, lX10_249, by decide, rfl, vX4_become.1, vX4_become.2⟩ (lyx_is hy 63 4 rfl) (ex_become63_53 hy hr   ) (Nat.le_of_ble_eq_true rfl) ?_
        intro r I3935 J3936 Ra hq
        obtain ⟨ec, g3937, g3938, er, p3934⟩ := hq
        rw [ec, er]
        clear ec er Ra r
        have fI3940 : FC g [60, 61, 62, 63, 64, 65, 66, 67, 68] I I3935 := FC_tr fI0 (FC_mono g3937 (by decide))
        have fJ3941 : FC g [60, 63, 66] J J3936 := FC_tr fJ0 (FC_mono g3938 (by decide))
        refine WP_aload_n dX10_keep_25 rfl ?_
        refine WP_getr dX10_keep_26 fX10_62 rfl (lyx_is hy 0 10 rfl) (rfx hr 0 5 53 (by decide)) ?_
        obtain ⟨w3942, ew3942⟩ : ∃ w : Int32, I3935 (ad g 53) 0 = w := ⟨_, rfl⟩
        refine WQ_getim dX10_keep_29 fX10_232 rfl (lyx_is hy 53 4 rfl) ew3942 ?_
        exact WP_iret dX10_keep_32 rfl ⟨rfl, fI3940, fJ3941, w3942, rfl, by
          try simp only [ew3942]
          refine Or.inl ⟨1, by decide, by omega, ?_, p3934, g3937⟩
          have z9 := FCx_at hy g3937 53 (by decide) (by decide)
          rw [← z9]
          first | rfl | trivial | assumption | (symm; assumption)⟩
      · refine WQ_aald (q := 2) dX10_keep_17 (lyx_is hy 59 16 rfl) (lyx_n hy 59 3 rfl) hsl (by decide) (rfx hr 59 2 66 (by decide)) ?_
        refine WP_aload_n dX10_keep_18 rfl ?_
        refine WP_getr dX10_keep_19 fX10_62 rfl (lyx_is hy 0 10 rfl) (rfx hr 0 5 53 (by decide)) ?_
        refine WP_callV1 (k := 4) dX10_keep_22 ⟨⟨⟨by decide, by decide⟩, zX4_become⟩, lX10_249, by decide, rfl, vX4_become.1, vX4_become.2⟩ (lyx_is hy 66 4 rfl) (ex_become66_53 hy hr   ) (Nat.le_of_ble_eq_true rfl) ?_
        intro r I3944 J3945 Ra hq
        obtain ⟨ec, g3946, g3947, er, p3943⟩ := hq
        rw [ec, er]
        clear ec er Ra r
        have fI3949 : FC g [60, 61, 62, 63, 64, 65, 66, 67, 68] I I3944 := FC_tr fI0 (FC_mono g3946 (by decide))
        have fJ3950 : FC g [60, 63, 66] J J3945 := FC_tr fJ0 (FC_mono g3947 (by decide))
        refine WP_aload_n dX10_keep_25 rfl ?_
        refine WP_getr dX10_keep_26 fX10_62 rfl (lyx_is hy 0 10 rfl) (rfx hr 0 5 53 (by decide)) ?_
        obtain ⟨w3951, ew3951⟩ : ∃ w : Int32, I3944 (ad g 53) 0 = w := ⟨_, rfl⟩
        refine WQ_getim dX10_keep_29 fX10_232 rfl (lyx_is hy 53 4 rfl) ew3951 ?_
        exact WP_iret dX10_keep_32 rfl ⟨rfl, fI3949, fJ3950, w3951, rfl, by
          try simp only [ew3951]
          refine Or.inl ⟨2, by decide, by omega, ?_, p3943, g3946⟩
          have z9 := FCx_at hy g3946 53 (by decide) (by decide)
          rw [← z9]
          first | rfl | trivial | assumption | (symm; assumption)⟩
    · refine WQ_bipush (-2) (-2) dX10_keep_9 rfl rfl (fun v3952 hv3952 => ?_)
      exact WP_iret dX10_keep_11 rfl ⟨rfl, fI0, fJ0, v3952, rfl, by
        exact Or.inr ⟨by omega, by omega, rfl⟩⟩
set_option maxHeartbeats 4000000 in
set_option maxRecDepth 100000 in
theorem ex_take {g : GG} {I : pI} {J : pJ} {R : pR} (hy : LyX g) (hr : RfX g R)  (sl : Int32)  : SP g mX10_take [.ref (ad g 0), .int sl] I J R (fun r I' J' R' => R' = R ∧ FC g [53, 54, 55] I I' ∧ FC g [53] J J' ∧ ∃ v : Int32, r = some (.int v) ∧ ((∃ k : Nat, k < 3 ∧ sl.toInt = (k : Int) ∧ (((I (ad g (60 + 3 * k)) 0).toInt = -1 ∧ v.toInt = -4 ∧ I' = I) ∨ ((I (ad g (60 + 3 * k)) 0).toInt ≠ -1 ∧ v = I (ad g (60 + 3 * k)) 0 ∧ BCM g 53 (60 + 3 * k) I J I' J'))) ∨ (¬ (0 ≤ sl.toInt ∧ sl.toInt < 3) ∧ v.toInt = -2 ∧ I' = I))) := by
  refine SP_of ⟨by decide, rfl⟩ (Nat.le_of_ble_eq_true rfl) ?_
  have fI0 : FC g [53, 54, 55] I I := FC_rf
  have fJ0 : FC g [53] J J := FC_rf
  refine WP_iload_n dX10_take_0 rfl ?_
  refine WQ_if_lt 9 dX10_take_1 rfl (fun c3952 => ?_) (fun c3952 => ?_)
  · refine WQ_bipush (-2) (-2) dX10_take_9 rfl rfl (fun v3954 hv3954 => ?_)
    exact WP_iret dX10_take_11 rfl ⟨rfl, fI0, fJ0, v3954, rfl, by
      exact Or.inr ⟨by omega, by omega, rfl⟩⟩
  · refine WP_iload_n dX10_take_4 rfl ?_
    refine WQ_iconst (3) (3) dX10_take_5 rfl rfl (fun v3955 hv3955 => ?_)
    refine WQ_icmp_lt 12 dX10_take_6 rfl (fun c3955 => ?_) (fun c3955 => ?_)
    · refine WP_aload_n dX10_take_12 rfl ?_
      refine WP_getr dX10_take_13 fX10_69 rfl (lyx_is hy 0 10 rfl) (rfx hr 0 7 59 (by decide)) ?_
      refine WP_iload_n dX10_take_16 rfl ?_
      rcases (show sl.toInt = 0 ∨ sl.toInt = 1 ∨ sl.toInt = 2 by omega) with hsl | hsl | hsl
      · refine WQ_aald (q := 0) dX10_take_17 (lyx_is hy 59 16 rfl) (lyx_n hy 59 3 rfl) hsl (by decide) (rfx hr 59 0 60 (by decide)) ?_
        obtain ⟨w3957, ew3957⟩ : ∃ w : Int32, I (ad g 60) 0 = w := ⟨_, rfl⟩
        refine WQ_getim dX10_take_18 fX10_232 rfl (lyx_is hy 60 4 rfl) ew3957 ?_
        refine WQ_iconst (-1) (-1) dX10_take_21 rfl rfl (fun v3958 hv3958 => ?_)
        refine WQ_icmp_ne 28 dX10_take_22 rfl (fun c3958 => ?_) (fun c3958 => ?_)
        · refine WP_aload_n dX10_take_28 rfl ?_
          refine WP_getr dX10_take_29 fX10_62 rfl (lyx_is hy 0 10 rfl) (rfx hr 0 5 53 (by decide)) ?_
          refine WP_aload_n dX10_take_32 rfl ?_
          refine WP_getr dX10_take_33 fX10_69 rfl (lyx_is hy 0 10 rfl) (rfx hr 0 7 59 (by decide)) ?_
          refine WP_iload_n dX10_take_36 rfl ?_
          refine WQ_aald (q := 0) dX10_take_37 (lyx_is hy 59 16 rfl) (lyx_n hy 59 3 rfl) hsl (by decide) (rfx hr 59 0 60 (by decide)) ?_
          refine WP_callV1 (k := 4) dX10_take_38 ⟨⟨⟨by decide, by decide⟩, zX4_become⟩, lX10_249, by decide, rfl, vX4_become.1, vX4_become.2⟩ (lyx_is hy 53 4 rfl) (ex_become53_60 hy hr   ) (Nat.le_of_ble_eq_true rfl) ?_
          intro r I3961 J3962 Ra hq
          obtain ⟨ec, g3963, g3964, er, p3960⟩ := hq
          rw [ec, er]
          clear ec er Ra r
          have e3966 : I3961 (ad g 60) 0 = w3957 := by rw [FCx_at hy g3963 60 (by decide) (by decide)]; exact ew3957
          have fI3967 : FC g [53, 54, 55] I I3961 := FC_tr fI0 (FC_mono g3963 (by decide))
          have fJ3968 : FC g [53] J J3962 := FC_tr fJ0 (FC_mono g3964 (by decide))
          refine WP_aload_n dX10_take_41 rfl ?_
          refine WP_getr dX10_take_42 fX10_62 rfl (lyx_is hy 0 10 rfl) (rfx hr 0 5 53 (by decide)) ?_
          obtain ⟨w3969, ew3969⟩ : ∃ w : Int32, I3961 (ad g 53) 0 = w := ⟨_, rfl⟩
          refine WQ_getim dX10_take_45 fX10_232 rfl (lyx_is hy 53 4 rfl) ew3969 ?_
          exact WP_iret dX10_take_48 rfl ⟨rfl, fI3967, fJ3968, w3969, rfl, by
            try simp only [e3966, ew3969]
            have z9 := p3960.1.1
            refine Or.inl ⟨0, by decide, by omega, Or.inr ⟨?_, ?_, p3960⟩⟩
            · show (I (ad g 60) 0).toInt ≠ -1
              rw [ew3957]; omega
            · first | exact z9 | (rw [← z9]; first | rfl | assumption | (symm; assumption)) | (simp only [ew3969] at z9; exact z9)⟩
        · refine WQ_bipush (-4) (-4) dX10_take_25 rfl rfl (fun v3970 hv3970 => ?_)
          exact WP_iret dX10_take_27 rfl ⟨rfl, fI0, fJ0, v3970, rfl, by
            try simp only [ew3957]
            refine Or.inl ⟨0, by decide, by omega, Or.inl ⟨?_, by omega, by first | rfl | trivial⟩⟩
            show (I (ad g 60) 0).toInt = -1
            rw [ew3957]; omega⟩
      · refine WQ_aald (q := 1) dX10_take_17 (lyx_is hy 59 16 rfl) (lyx_n hy 59 3 rfl) hsl (by decide) (rfx hr 59 1 63 (by decide)) ?_
        obtain ⟨w3971, ew3971⟩ : ∃ w : Int32, I (ad g 63) 0 = w := ⟨_, rfl⟩
        refine WQ_getim dX10_take_18 fX10_232 rfl (lyx_is hy 63 4 rfl) ew3971 ?_
        refine WQ_iconst (-1) (-1) dX10_take_21 rfl rfl (fun v3972 hv3972 => ?_)
        refine WQ_icmp_ne 28 dX10_take_22 rfl (fun c3972 => ?_) (fun c3972 => ?_)
        · refine WP_aload_n dX10_take_28 rfl ?_
          refine WP_getr dX10_take_29 fX10_62 rfl (lyx_is hy 0 10 rfl) (rfx hr 0 5 53 (by decide)) ?_
          refine WP_aload_n dX10_take_32 rfl ?_
          refine WP_getr dX10_take_33 fX10_69 rfl (lyx_is hy 0 10 rfl) (rfx hr 0 7 59 (by decide)) ?_
          refine WP_iload_n dX10_take_36 rfl ?_
          refine WQ_aald (q := 1) dX10_take_37 (lyx_is hy 59 16 rfl) (lyx_n hy 59 3 rfl) hsl (by decide) (rfx hr 59 1 63 (by decide)) ?_
          refine WP_callV1 (k := 4) dX10_take_38 ⟨⟨⟨by decide, by decide⟩, zX4_become⟩, lX10_249, by decide, rfl, vX4_become.1, vX4_become.2⟩ (lyx_is hy 53 4 rfl) (ex_become53_63 hy hr   ) (Nat.le_of_ble_eq_true rfl) ?_
          intro r I3975 J3976 Ra hq
          obtain ⟨ec, g3977, g3978, er, p3974⟩ := hq
          rw [ec, er]
          clear ec er Ra r
          have e3980 : I3975 (ad g 63) 0 = w3971 := by rw [FCx_at hy g3977 63 (by decide) (by decide)]; exact ew3971
          have fI3981 : FC g [53, 54, 55] I I3975 := FC_tr fI0 (FC_mono g3977 (by decide))
          have fJ3982 : FC g [53] J J3976 := FC_tr fJ0 (FC_mono g3978 (by decide))
          refine WP_aload_n dX10_take_41 rfl ?_
          refine WP_getr dX10_take_42 fX10_62 rfl (lyx_is hy 0 10 rfl) (rfx hr 0 5 53 (by decide)) ?_
          obtain ⟨w3983, ew3983⟩ : ∃ w : Int32, I3975 (ad g 53) 0 = w := ⟨_, rfl⟩
          refine WQ_getim dX10_take_45 fX10_232 rfl (lyx_is hy 53 4 rfl) ew3983 ?_
          exact WP_iret dX10_take_48 rfl ⟨rfl, fI3981, fJ3982, w3983, rfl, by
            try simp only [e3980, ew3983]
            have z9 := p3974.1.1
            refine Or.inl ⟨1, by decide, by omega, Or.inr ⟨?_, ?_, p3974⟩⟩
            · show (I (ad g 63) 0).toInt ≠ -1
              rw [ew3971]; omega
            · first | exact z9 | (rw [← z9]; first | rfl | assumption | (symm; assumption)) | (simp only [ew3983] at z9; exact z9)⟩
        · refine WQ_bipush (-4) (-4) dX10_take_25 rfl rfl (fun v3984 hv3984 => ?_)
          exact WP_iret dX10_take_27 rfl ⟨rfl, fI0, fJ0, v3984, rfl, by
            try simp only [ew3971]
            refine Or.inl ⟨1, by decide, by omega, Or.inl ⟨?_, by omega, by first | rfl | trivial⟩⟩
            show (I (ad g 63) 0).toInt = -1
            rw [ew3971]; omega⟩
      · refine WQ_aald (q := 2) dX10_take_17 (lyx_is hy 59 16 rfl) (lyx_n hy 59 3 rfl) hsl (by decide) (rfx hr 59 2 66 (by decide)) ?_
        obtain ⟨w3985, ew3985⟩ : ∃ w : Int32, I (ad g 66) 0 = w := ⟨_, rfl⟩
        refine WQ_getim dX10_take_18 fX10_232 rfl (lyx_is hy 66 4 rfl) ew3985 ?_
        refine WQ_iconst (-1) (-1) dX10_take_21 rfl rfl (fun v3986 hv3986 => ?_)
        refine WQ_icmp_ne 28 dX10_take_22 rfl (fun c3986 => ?_) (fun c3986 => ?_)
        · refine WP_aload_n dX10_take_28 rfl ?_
          refine WP_getr dX10_take_29 fX10_62 rfl (lyx_is hy 0 10 rfl) (rfx hr 0 5 53 (by decide)) ?_
          refine WP_aload_n dX10_take_32 rfl ?_
          refine WP_getr dX10_take_33 fX10_69 rfl (lyx_is hy 0 10 rfl) (rfx hr 0 7 59 (by decide)) ?_
          refine WP_iload_n dX10_take_36 rfl ?_
          refine WQ_aald (q := 2) dX10_take_37 (lyx_is hy 59 16 rfl) (lyx_n hy 59 3 rfl) hsl (by decide) (rfx hr 59 2 66 (by decide)) ?_
          refine WP_callV1 (k := 4) dX10_take_38 ⟨⟨⟨by decide, by decide⟩, zX4_become⟩, lX10_249, by decide, rfl, vX4_become.1, vX4_become.2⟩ (lyx_is hy 53 4 rfl) (ex_become53_66 hy hr   ) (Nat.le_of_ble_eq_true rfl) ?_
          intro r I3989 J3990 Ra hq
          obtain ⟨ec, g3991, g3992, er, p3988⟩ := hq
          rw [ec, er]
          clear ec er Ra r
          have e3994 : I3989 (ad g 66) 0 = w3985 := by rw [FCx_at hy g3991 66 (by decide) (by decide)]; exact ew3985
          have fI3995 : FC g [53, 54, 55] I I3989 := FC_tr fI0 (FC_mono g3991 (by decide))
          have fJ3996 : FC g [53] J J3990 := FC_tr fJ0 (FC_mono g3992 (by decide))
          refine WP_aload_n dX10_take_41 rfl ?_
          refine WP_getr dX10_take_42 fX10_62 rfl (lyx_is hy 0 10 rfl) (rfx hr 0 5 53 (by decide)) ?_
          obtain ⟨w3997, ew3997⟩ : ∃ w : Int32, I3989 (ad g 53) 0 = w := ⟨_, rfl⟩
          refine WQ_getim dX10_take_45 fX10_232 rfl (lyx_is hy 53 4 rfl) ew3997 ?_
          exact WP_iret dX10_take_48 rfl ⟨rfl, fI3995, fJ3996, w3997, rfl, by
            try simp only [e3994, ew3997]
            have z9 := p3988.1.1
            refine Or.inl ⟨2, by decide, by omega, Or.inr ⟨?_, ?_, p3988⟩⟩
            · show (I (ad g 66) 0).toInt ≠ -1
              rw [ew3985]; omega
            · first | exact z9 | (rw [← z9]; first | rfl | assumption | (symm; assumption)) | (simp only [ew3997] at z9; exact z9)⟩
        · refine WQ_bipush (-4) (-4) dX10_take_25 rfl rfl (fun v3998 hv3998 => ?_)
          exact WP_iret dX10_take_27 rfl ⟨rfl, fI0, fJ0, v3998, rfl, by
            try simp only [ew3985]
            refine Or.inl ⟨2, by decide, by omega, Or.inl ⟨?_, by omega, by first | rfl | trivial⟩⟩
            show (I (ad g 66) 0).toInt = -1
            rw [ew3985]; omega⟩
    · refine WQ_bipush (-2) (-2) dX10_take_9 rfl rfl (fun v3999 hv3999 => ?_)
      exact WP_iret dX10_take_11 rfl ⟨rfl, fI0, fJ0, v3999, rfl, by
        exact Or.inr ⟨by omega, by omega, rfl⟩⟩
