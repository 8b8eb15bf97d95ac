set_option maxHeartbeats 4000000 in
set_option maxRecDepth 100000 in
theorem em_areCoins {g : GG} {I : pI} {J : pJ} {R : pR} (hy : Ly g) (hr : Rf g R)  (w : Int32)  : SP g mX11_areCoins [.int w] I J R (fun r I' J' R' => (I' = I ∧ J' = J ∧ R' = R) ∧ ∃ v : Int32, r = some (.int v) ∧ ((v.toInt = 1 ∧ 0 ≤ w.toInt ∧ w.toInt ≤ 60) ∨ (v.toInt = 0 ∧ ¬ (0 ≤ w.toInt ∧ w.toInt ≤ 60)))) := by
  refine SP_of ⟨by decide, rfl⟩ (Nat.le_of_ble_eq_true rfl) ?_
  refine WP_iload_n dX11_areCoins_0 rfl ?_
  refine WP_i2l dX11_areCoins_1 ?_
  obtain ⟨l4391, xl4391⟩ : ∃ v : Int64, v = w.toInt64 := ⟨_, rfl⟩
  rw [← xl4391]
  have hl4391 : l4391.toInt = w.toInt := by rw [xl4391]; exact t64 _
  refine WP_lconst (0) dX11_areCoins_2 rfl ?_
  obtain ⟨l4392, hl4392, el4392⟩ : ∃ v : Int64, v.toInt = 0 ∧ (0 : Int64) = v := ⟨_, rfl, rfl⟩
  rw [el4392]
  refine WP_ldc2 (60) dX11_areCoins_3 klX11_361 ?_
  obtain ⟨l4393, hl4393, el4393⟩ : ∃ v : Int64, v.toInt = (60) ∧ ((60) : Int64) = v := ⟨_, rfl, rfl⟩
  rw [el4393]
  refine WP_callS3 dX11_areCoins_6 ⟨⟨⟨by decide, by decide⟩, zX11_in⟩, lX11_52, tX11_in⟩ (em_in hy hr _ _ _  ) (Nat.le_of_ble_eq_true rfl) ?_
  intro r Ia Ja Ra hq
  obtain ⟨⟨ea, eb, ec⟩, v4395, er, p4394⟩ := hq
  rw [ea, eb, ec, er]
  clear ea eb ec er Ia Ja Ra r
  exact WP_zret dX11_areCoins_9 rfl (nar_z (by omega)) ⟨⟨rfl, rfl, rfl⟩, v4395, rfl, by
    rcases p4394 with ⟨a, b, c⟩ | ⟨a, b⟩
    · exact Or.inl ⟨a, by omega, by omega⟩
    · exact Or.inr ⟨a, by omega⟩⟩
set_option maxHeartbeats 4000000 in
set_option maxRecDepth 100000 in
theorem em_isStore {g : GG} {I : pI} {J : pJ} {R : pR} (hy : Ly g) (hr : Rf g R)  (w : Int32)  : SP g mX11_isStore [.int w] I J R (fun r I' J' R' => (I' = I ∧ J' = J ∧ R' = R) ∧ ∃ v : Int32, r = some (.int v) ∧ ((v.toInt = 1 ∧ 0 ≤ w.toInt ∧ w.toInt ≤ 5) ∨ (v.toInt = 0 ∧ ¬ (0 ≤ w.toInt ∧ w.toInt ≤ 5)))) := by
  refine SP_of ⟨by decide, rfl⟩ (Nat.le_of_ble_eq_true rfl) ?_
  refine WP_iload_n dX11_isStore_0 rfl ?_
  refine WP_i2l dX11_isStore_1 ?_
  obtain ⟨l4396, xl4396⟩ : ∃ v : Int64, v = w.toInt64 := ⟨_, rfl⟩
  rw [← xl4396]
  have hl4396 : l4396.toInt = w.toInt := by rw [xl4396]; exact t64 _
  refine WP_lconst (0) dX11_isStore_2 rfl ?_
  obtain ⟨l4397, hl4397, el4397⟩ : ∃ v : Int64, v.toInt = 0 ∧ (0 : Int64) = v := ⟨_, rfl, rfl⟩
  rw [el4397]
  refine WP_ldc2 (5) dX11_isStore_3 klX11_378 ?_
  obtain ⟨l4398, hl4398, el4398⟩ : ∃ v : Int64, v.toInt = (5) ∧ ((5) : Int64) = v := ⟨_, rfl, rfl⟩
  rw [el4398]
  refine WP_callS3 dX11_isStore_6 ⟨⟨⟨by decide, by decide⟩, zX11_in⟩, lX11_52, tX11_in⟩ (em_in hy hr _ _ _  ) (Nat.le_of_ble_eq_true rfl) ?_
  intro r Ia Ja Ra hq
  obtain ⟨⟨ea, eb, ec⟩, v4400, er, p4399⟩ := hq
  rw [ea, eb, ec, er]
  clear ea eb ec er Ia Ja Ra r
  exact WP_zret dX11_isStore_9 rfl (nar_z (by omega)) ⟨⟨rfl, rfl, rfl⟩, v4400, rfl, by
    rcases p4399 with ⟨a, b, c⟩ | ⟨a, b⟩
    · exact Or.inl ⟨a, by omega, by omega⟩
    · exact Or.inr ⟨a, by omega⟩⟩
set_option maxHeartbeats 4000000 in
set_option maxRecDepth 100000 in
theorem em_stampsOf {g : GG} {I : pI} {J : pJ} {R : pR} (hy : Ly g) (hr : Rf g R)  (a : Int32) (b : Int32) (ha : 0 ≤ a.toInt ∧ a.toInt ≤ 1000) (hb : 0 ≤ b.toInt ∧ b.toInt ≤ 1000) : SP g mX11_stampsOf [.int a, .int b] I J R (fun r I' J' R' => (I' = I ∧ J' = J ∧ R' = R) ∧ ∃ v : Int32, r = some (.int v) ∧ (v.toInt = stp a.toInt b.toInt ∧ 0 ≤ v.toInt ∧ v.toInt ≤ 1001)) := by
  refine SP_of ⟨by decide, rfl⟩ (Nat.le_of_ble_eq_true rfl) ?_
  refine WP_iload_n dX11_stampsOf_0 rfl ?_
  refine WP_iload_n dX11_stampsOf_1 rfl ?_
  refine WQ_imulb (1000) (1000) dX11_stampsOf_2 ⟨by omega, by omega⟩ ⟨by omega, by omega⟩ (by decide) (fun v4401 hv4401 av4401 bv4401 cv4401 => ?_)
  refine WQ_sipush (999) (999) dX11_stampsOf_3 rfl rfl (fun v4402 hv4402 => ?_)
  refine WQ_iadd dX11_stampsOf_6 (by omega) (by omega) (fun v4403 hv4403 => ?_)
  refine WQ_sipush (1000) (1000) dX11_stampsOf_7 rfl rfl (fun v4404 hv4404 => ?_)
  refine WQ_idivk (1000) dX11_stampsOf_10 hv4404 (by decide) (by omega) (fun v4405 hv4405 => ?_)
  exact WP_iret dX11_stampsOf_11 rfl ⟨⟨rfl, rfl, rfl⟩, v4405, rfl, by
    refine ⟨?_, by omega, by omega⟩
    unfold stp
    rw [← hv4401]
    omega⟩
set_option maxHeartbeats 4000000 in
set_option maxRecDepth 100000 in
theorem em_costOf {g : GG} {I : pI} {J : pJ} {R : pR} (hy : Ly g) (hr : Rf g R) {S : TwS}  (hS : RTT g S I J) (hB : SBn S) (hD : TBD S) : SP g mX11_costOf [.ref (ad g 0)] I J R (fun r I' J' R' => (I' = I ∧ J' = J ∧ R' = R) ∧ ∃ v : Int32, r = some (.int v) ∧ (v.toInt = cstS S)) := by
  refine SP_of ⟨by decide, rfl⟩ (Nat.le_of_ble_eq_true rfl) ?_
  have hB2 := hB
  unfold SBn at hB2
  obtain ⟨z1, z2, z0, z3, z4⟩ := hS.1
  have z9 := hD.2.2.1
  obtain ⟨w4406, ew4406⟩ : ∃ w : Int32, I (ad g 0) 14 = w := ⟨_, rfl⟩
  try simp only [ew4406] at z4
  refine WP_aload_n dX11_costOf_0 rfl ?_
  refine WQ_getim dX11_costOf_1 fX11_224 rfl (ly_is hy 0 11 rfl) ew4406 ?_
  refine WQ_iconst (-1) (-1) dX11_costOf_4 rfl rfl (fun v4407 hv4407 => ?_)
  refine WQ_icmp_ne 12 dX11_costOf_5 rfl (fun c4407 => ?_) (fun c4407 => ?_)
  · refine WP_aload_n dX11_costOf_12 rfl ?_
    refine WP_getr dX11_costOf_13 fX11_249 rfl (ly_is hy 0 11 rfl) (rf hr 0 31 13 (by decide)) ?_
    refine WP_aload_n dX11_costOf_16 rfl ?_
    refine WQ_getim dX11_costOf_17 fX11_224 rfl (ly_is hy 0 11 rfl) ew4406 ?_
    refine WE_ia dX11_costOf_20 (ly_is hy 13 13 rfl) (ly_n hy 13 3 rfl) (by omega) (by omega) (fun v4409 ev4409 => ?_)
    exact WP_iret dX11_costOf_21 rfl ⟨⟨rfl, rfl, rfl⟩, v4409, rfl, by
      try simp only [ew4406]
      unfold cstS
      rw [if_neg (by omega), ← ev4409, show w4406.toInt.toNat = (S.1 0 4).toNat by omega]
      exact hS.2.2.2.1 (13, 11, 1) (by decide) (S.1 0 4).toNat (by show ((S.1 0 4).toNat : Int) < ((1 : Nat) : Int) * S.1 0 2; omega)⟩
  · refine WQ_iconst (0) (0) dX11_costOf_8 rfl rfl (fun v4410 hv4410 => ?_)
    refine WP_goto 21 dX11_costOf_9 rfl ?_
    exact WP_iret dX11_costOf_21 rfl ⟨⟨rfl, rfl, rfl⟩, v4410, rfl, by
      try simp only [ew4406]
      unfold cstS
      rw [if_pos (by omega)]
      omega⟩
set_option maxHeartbeats 4000000 in
set_option maxRecDepth 100000 in
theorem em_behindNight {g : GG} {I : pI} {J : pJ} {R : pR} (hy : Ly g) (hr : Rf g R) {S : TwS} {d : Nat} (c : Int32) (u : Int32) (l : Int32) (hS : RTT g S I J) (hB : SBn S) (hD : TBD S) (hc : 0 ≤ c.toInt ∧ c.toInt ≤ 60) (hu : 0 ≤ u.toInt ∧ u.toInt ≤ 5) (hl : l.toInt = S.1 1 d) (hd : d < 7) : SP g mX11_behindNight [.ref (ad g 0), .int c, .int u, .int l] I J R (fun r I' J' R' => (I' = I ∧ J' = J ∧ R' = R) ∧ ∃ v : Int32, r = some (.int v) ∧ (v.toInt = nightV S c.toInt u.toInt d)) := by
  refine SP_of ⟨by decide, rfl⟩ (Nat.le_of_ble_eq_true rfl) ?_
  have hrb := hD.1.1.1 d (by omega)
  have hcb := cst_b hD
  refine WQ_iconst (0) (0) dX11_behindNight_0 rfl rfl (fun v4411 hv4411 => ?_)
  refine WP_iload_n dX11_behindNight_1 rfl ?_
  refine WP_iload_n dX11_behindNight_2 rfl ?_
  refine WP_iload_n dX11_behindNight_3 rfl ?_
  refine WP_callS2 dX11_behindNight_4 ⟨⟨⟨by decide, by decide⟩, zX11_stampsOf⟩, lX11_380, tX11_stampsOf⟩ (em_stampsOf hy hr _ _  (by omega) (by omega)) (Nat.le_of_ble_eq_true rfl) ?_
  intro r Ia Ja Ra hq
  obtain ⟨⟨ea, eb, ec⟩, v4413, er, p4412⟩ := hq
  rw [ea, eb, ec, er]
  clear ea eb ec er Ia Ja Ra r
  obtain ⟨st1, st2, st3⟩ := p4412
  refine WQ_isub dX11_behindNight_7 (by omega) (by omega) (fun v4414 hv4414 => ?_)
  refine WP_aload_n dX11_behindNight_8 rfl ?_
  refine WP_callV0 (k := 11) dX11_behindNight_9 ⟨⟨⟨by decide, by decide⟩, zX11_costOf⟩, lX11_384, by decide, rfl, vX11_costOf.1, vX11_costOf.2⟩ (ly_is hy 0 11 rfl) (em_costOf hy hr   hS hB hD) (Nat.le_of_ble_eq_true rfl) ?_
  intro r Ia Ja Ra hq
  obtain ⟨⟨ea, eb, ec⟩, v4416, er, p4415⟩ := hq
  rw [ea, eb, ec, er]
  clear ea eb ec er Ia Ja Ra r
  refine WP_iload_n dX11_behindNight_12 rfl ?_
  refine WQ_imulb (9) (5) dX11_behindNight_13 ⟨by omega, by omega⟩ ⟨by omega, by omega⟩ (by decide) (fun v4417 hv4417 av4417 bv4417 cv4417 => ?_)
  have hmu : v4417.toInt = u.toInt * cstS S := by rw [hv4417, p4415, Int.mul_comm]
  refine WQ_isub dX11_behindNight_14 (by omega) (by omega) (fun v4418 hv4418 => ?_)
  refine WQ_max dX11_behindNight_15 lX11_387 ⟨by decide, Nat.le_of_ble_eq_true rfl⟩ (fun v4419 av4419 bv4419 cv4419 => ?_)
  exact WP_iret dX11_behindNight_18 rfl ⟨⟨rfl, rfl, rfl⟩, v4419, rfl, by
    unfold nightV
    simp only [Int.toNat_natCast]
    rw [← hl, ← st1, ← hmu]
    split <;> omega⟩
set_option maxHeartbeats 4000000 in
set_option maxRecDepth 100000 in
theorem em_night {g : GG} {I : pI} {J : pJ} {R : pR} (hy : Ly g) (hr : Rf g R) {S : TwS} (c : Int32) (u : Int32) (d : Int32) (hS : RTT g S I J) (hB : SBn S) (hD : TBD S) : SP g mX11_night [.ref (ad g 0), .int c, .int u, .int d] I J R (fun r I' J' R' => (I' = I ∧ J' = J ∧ R' = R) ∧ ∃ v : Int32, r = some (.int v) ∧ (v.toInt = nightS S c.toInt u.toInt d.toInt)) := by
  refine SP_of ⟨by decide, rfl⟩ (Nat.le_of_ble_eq_true rfl) ?_
  have hB2 := hB
  unfold SBn at hB2
  obtain ⟨z1, z2, z0, z3, z4⟩ := hS.1
  obtain ⟨w4420, ew4420⟩ : ∃ w : Int32, I (ad g 0) 11 = w := ⟨_, rfl⟩
  try simp only [ew4420] at z2
  refine WP_iload_n dX11_night_0 rfl ?_
  refine WP_callS1 dX11_night_1 ⟨⟨⟨by decide, by decide⟩, zX11_areCoins⟩, lX11_392, tX11_areCoins⟩ (em_areCoins hy hr _  ) (Nat.le_of_ble_eq_true rfl) ?_
  intro r Ia Ja Ra hq
  obtain ⟨⟨ea, eb, ec⟩, v4422, er, p4421⟩ := hq
  rw [ea, eb, ec, er]
  clear ea eb ec er Ia Ja Ra r
  refine WQ_if_eq 47 dX11_night_4 rfl (fun c4422 => ?_) (fun c4422 => ?_)
  · refine WQ_bipush (-2) (-2) dX11_night_47 rfl rfl (fun v4424 hv4424 => ?_)
    exact WP_iret dX11_night_49 rfl ⟨⟨rfl, rfl, rfl⟩, v4424, rfl, by
      try simp only [ew4420]
      unfold nightS
      rw [if_neg (by omega)]
      omega⟩
  · refine WP_iload_n dX11_night_7 rfl ?_
    refine WP_callS1 dX11_night_8 ⟨⟨⟨by decide, by decide⟩, zX11_isStore⟩, lX11_395, tX11_isStore⟩ (em_isStore hy hr _  ) (Nat.le_of_ble_eq_true rfl) ?_
    intro r Ia Ja Ra hq
    obtain ⟨⟨ea, eb, ec⟩, v4426, er, p4425⟩ := hq
    rw [ea, eb, ec, er]
    clear ea eb ec er Ia Ja Ra r
    refine WQ_if_eq 47 dX11_night_11 rfl (fun c4426 => ?_) (fun c4426 => ?_)
    · refine WQ_bipush (-2) (-2) dX11_night_47 rfl rfl (fun v4428 hv4428 => ?_)
      exact WP_iret dX11_night_49 rfl ⟨⟨rfl, rfl, rfl⟩, v4428, rfl, by
        try simp only [ew4420]
        unfold nightS
        rw [if_neg (by omega)]
        omega⟩
    · refine WP_iload_n dX11_night_14 rfl ?_
      refine WP_callS1 dX11_night_15 ⟨⟨⟨by decide, by decide⟩, zX11_isDay⟩, lX11_370, tX11_isDay⟩ (em_isDay hy hr _  ) (Nat.le_of_ble_eq_true rfl) ?_
      intro r Ia Ja Ra hq
      obtain ⟨⟨ea, eb, ec⟩, v4430, er, p4429⟩ := hq
      rw [ea, eb, ec, er]
      clear ea eb ec er Ia Ja Ra r
      refine WQ_if_eq 47 dX11_night_18 rfl (fun c4430 => ?_) (fun c4430 => ?_)
      · refine WQ_bipush (-2) (-2) dX11_night_47 rfl rfl (fun v4432 hv4432 => ?_)
        exact WP_iret dX11_night_49 rfl ⟨⟨rfl, rfl, rfl⟩, v4432, rfl, by
          try simp only [ew4420]
          unfold nightS
          rw [if_neg (by omega)]
          omega⟩
      · refine WP_aload_n dX11_night_21 rfl ?_
        refine WQ_getim dX11_night_22 fX11_332 rfl (ly_is hy 0 11 rfl) ew4420 ?_
        refine WQ_if_gt 32 dX11_night_25 rfl (fun c4432 => ?_) (fun c4432 => ?_)
        · refine WP_aload_n dX11_night_32 rfl ?_
          refine WP_iload_n dX11_night_33 rfl ?_
          refine WP_iload_n dX11_night_34 rfl ?_
          refine WP_aload_n dX11_night_35 rfl ?_
          refine WP_getr dX11_night_36 fX11_233 rfl (ly_is hy 0 11 rfl) (rf hr 0 24 6 (by decide)) ?_
          refine WP_iload_n dX11_night_39 rfl ?_
          refine WE_ia dX11_night_40 (ly_is hy 6 13 rfl) (ly_n hy 6 7 rfl) (by omega) (by omega) (fun v4434 ev4434 => ?_)
          have hl9 : v4434.toInt = S.1 1 d.toInt.toNat := by rw [← ev4434]; exact hS.2.1 _ (by omega)
          refine WP_callV3 (k := 11) dX11_night_41 ⟨⟨⟨by decide, by decide⟩, zX11_behindNight⟩, lX11_398, by decide, rfl, vX11_behindNight.1, vX11_behindNight.2⟩ (ly_is hy 0 11 rfl) (em_behindNight hy hr _ _ _  (d := d.toInt.toNat) hS hB hD (by omega) (by omega) hl9 (by omega)) (Nat.le_of_ble_eq_true rfl) ?_
          intro r Ia Ja Ra hq
          obtain ⟨⟨ea, eb, ec⟩, v4436, er, p4435⟩ := hq
          rw [ea, eb, ec, er]
          clear ea eb ec er Ia Ja Ra r
          refine WP_goto 49 dX11_night_44 rfl ?_
          exact WP_iret dX11_night_49 rfl ⟨⟨rfl, rfl, rfl⟩, v4436, rfl, by
            try simp only [ew4420]
            unfold nightS
            rw [if_pos (by omega), p4435, Int.toNat_of_nonneg (by omega)]⟩
        · refine WP_iload_n dX11_night_28 rfl ?_
          refine WQ_if_ne 47 dX11_night_29 rfl (fun c4436 => ?_) (fun c4436 => ?_)
          · refine WQ_bipush (-2) (-2) dX11_night_47 rfl rfl (fun v4438 hv4438 => ?_)
            exact WP_iret dX11_night_49 rfl ⟨⟨rfl, rfl, rfl⟩, v4438, rfl, by
              try simp only [ew4420]
              unfold nightS
              rw [if_neg (by omega)]
              omega⟩
          · refine WP_aload_n dX11_night_32 rfl ?_
            refine WP_iload_n dX11_night_33 rfl ?_
            refine WP_iload_n dX11_night_34 rfl ?_
            refine WP_aload_n dX11_night_35 rfl ?_
            refine WP_getr dX11_night_36 fX11_233 rfl (ly_is hy 0 11 rfl) (rf hr 0 24 6 (by decide)) ?_
            refine WP_iload_n dX11_night_39 rfl ?_
            refine WE_ia dX11_night_40 (ly_is hy 6 13 rfl) (ly_n hy 6 7 rfl) (by omega) (by omega) (fun v4439 ev4439 => ?_)
            have hl9 : v4439.toInt = S.1 1 d.toInt.toNat := by rw [← ev4439]; exact hS.2.1 _ (by omega)
            refine WP_callV3 (k := 11) dX11_night_41 ⟨⟨⟨by decide, by decide⟩, zX11_behindNight⟩, lX11_398, by decide, rfl, vX11_behindNight.1, vX11_behindNight.2⟩ (ly_is hy 0 11 rfl) (em_behindNight hy hr _ _ _  (d := d.toInt.toNat) hS hB hD (by omega) (by omega) hl9 (by omega)) (Nat.le_of_ble_eq_true rfl) ?_
            intro r Ia Ja Ra hq
            obtain ⟨⟨ea, eb, ec⟩, v4441, er, p4440⟩ := hq
            rw [ea, eb, ec, er]
            clear ea eb ec er Ia Ja Ra r
            refine WP_goto 49 dX11_night_44 rfl ?_
            exact WP_iret dX11_night_49 rfl ⟨⟨rfl, rfl, rfl⟩, v4441, rfl, by
              try simp only [ew4420]
              unfold nightS
              rw [if_pos (by omega), p4440, Int.toNat_of_nonneg (by omega)]⟩
set_option maxHeartbeats 4000000 in
set_option maxRecDepth 100000 in
theorem em_lend {g : GG} {I : pI} {J : pJ} {R : pR} (hy : Ly g) (hr : Rf g R) {S : TwS} (c : Int32) (w : Int32) (y : Int32) (k : Int32) (hS : RTT g S I J) (hB : SBn S) (hD : TBD S) : SP g mX11_lend [.ref (ad g 0), .int c, .int w, .int y, .int k] I J R (fun r I' J' R' => (I' = I ∧ J' = J ∧ R' = R) ∧ ∃ v : Int32, r = some (.int v) ∧ (v.toInt = lendS S c.toInt w.toInt y.toInt k.toInt)) := by
  refine SP_of ⟨by decide, rfl⟩ (Nat.le_of_ble_eq_true rfl) ?_
  refine WP_iload_n dX11_lend_0 rfl ?_
  refine WP_i2l dX11_lend_1 ?_
  obtain ⟨l4442, xl4442⟩ : ∃ v : Int64, v = c.toInt64 := ⟨_, rfl⟩
  rw [← xl4442]
  have hl4442 : l4442.toInt = c.toInt := by rw [xl4442]; exact t64 _
  refine WP_lconst (0) dX11_lend_2 rfl ?_
  obtain ⟨l4443, hl4443, el4443⟩ : ∃ v : Int64, v.toInt = 0 ∧ (0 : Int64) = v := ⟨_, rfl, rfl⟩
  rw [el4443]
  refine WP_ldc2 (999) dX11_lend_3 klX11_523 ?_
  obtain ⟨l4444, hl4444, el4444⟩ : ∃ v : Int64, v.toInt = (999) ∧ ((999) : Int64) = v := ⟨_, rfl, rfl⟩
  rw [el4444]
  refine WP_callS3 dX11_lend_6 ⟨⟨⟨by decide, by decide⟩, zX11_in⟩, lX11_52, tX11_in⟩ (em_in hy hr _ _ _  ) (Nat.le_of_ble_eq_true rfl) ?_
  intro r Ia Ja Ra hq
  obtain ⟨⟨ea, eb, ec⟩, v4446, er, p4445⟩ := hq
  rw [ea, eb, ec, er]
  clear ea eb ec er Ia Ja Ra r
  refine WQ_if_eq 47 dX11_lend_9 rfl (fun c4446 => ?_) (fun c4446 => ?_)
  · refine WQ_bipush (-2) (-2) dX11_lend_47 rfl rfl (fun v4448 hv4448 => ?_)
    exact WP_iret dX11_lend_49 rfl ⟨⟨rfl, rfl, rfl⟩, v4448, rfl, by
      unfold lendS
      rw [if_neg (by omega)]
      omega⟩
  · refine WP_iload_n dX11_lend_12 rfl ?_
    refine WP_i2l dX11_lend_13 ?_
    obtain ⟨l4449, xl4449⟩ : ∃ v : Int64, v = w.toInt64 := ⟨_, rfl⟩
    rw [← xl4449]
    have hl4449 : l4449.toInt = w.toInt := by rw [xl4449]; exact t64 _
    refine WP_lconst (0) dX11_lend_14 rfl ?_
    obtain ⟨l4450, hl4450, el4450⟩ : ∃ v : Int64, v.toInt = 0 ∧ (0 : Int64) = v := ⟨_, rfl, rfl⟩
    rw [el4450]
    refine WP_ldc2 (52) dX11_lend_15 klX11_525 ?_
    obtain ⟨l4451, hl4451, el4451⟩ : ∃ v : Int64, v.toInt = (52) ∧ ((52) : Int64) = v := ⟨_, rfl, rfl⟩
    rw [el4451]
    refine WP_callS3 dX11_lend_18 ⟨⟨⟨by decide, by decide⟩, zX11_in⟩, lX11_52, tX11_in⟩ (em_in hy hr _ _ _  ) (Nat.le_of_ble_eq_true rfl) ?_
    intro r Ia Ja Ra hq
    obtain ⟨⟨ea, eb, ec⟩, v4453, er, p4452⟩ := hq
    rw [ea, eb, ec, er]
    clear ea eb ec er Ia Ja Ra r
    refine WQ_if_eq 47 dX11_lend_21 rfl (fun c4453 => ?_) (fun c4453 => ?_)
    · refine WQ_bipush (-2) (-2) dX11_lend_47 rfl rfl (fun v4455 hv4455 => ?_)
      exact WP_iret dX11_lend_49 rfl ⟨⟨rfl, rfl, rfl⟩, v4455, rfl, by
        unfold lendS
        rw [if_neg (by omega)]
        omega⟩
    · refine WP_iload_n dX11_lend_24 rfl ?_
      refine WP_i2l dX11_lend_25 ?_
      obtain ⟨l4456, xl4456⟩ : ∃ v : Int64, v = y.toInt64 := ⟨_, rfl⟩
      rw [← xl4456]
      have hl4456 : l4456.toInt = y.toInt := by rw [xl4456]; exact t64 _
      refine WP_lconst (0) dX11_lend_26 rfl ?_
      obtain ⟨l4457, hl4457, el4457⟩ : ∃ v : Int64, v.toInt = 0 ∧ (0 : Int64) = v := ⟨_, rfl, rfl⟩
      rw [el4457]
      refine WP_ldc2 (1000) dX11_lend_27 klX11_488 ?_
      obtain ⟨l4458, hl4458, el4458⟩ : ∃ v : Int64, v.toInt = (1000) ∧ ((1000) : Int64) = v := ⟨_, rfl, rfl⟩
      rw [el4458]
      refine WP_callS3 dX11_lend_30 ⟨⟨⟨by decide, by decide⟩, zX11_in⟩, lX11_52, tX11_in⟩ (em_in hy hr _ _ _  ) (Nat.le_of_ble_eq_true rfl) ?_
      intro r Ia Ja Ra hq
      obtain ⟨⟨ea, eb, ec⟩, v4460, er, p4459⟩ := hq
      rw [ea, eb, ec, er]
      clear ea eb ec er Ia Ja Ra r
      refine WQ_if_eq 47 dX11_lend_33 rfl (fun c4460 => ?_) (fun c4460 => ?_)
      · refine WQ_bipush (-2) (-2) dX11_lend_47 rfl rfl (fun v4462 hv4462 => ?_)
        exact WP_iret dX11_lend_49 rfl ⟨⟨rfl, rfl, rfl⟩, v4462, rfl, by
          unfold lendS
          rw [if_neg (by omega)]
          omega⟩
      · refine WP_iload dX11_lend_36 rfl ?_
        refine WP_i2l dX11_lend_38 ?_
        obtain ⟨l4463, xl4463⟩ : ∃ v : Int64, v = k.toInt64 := ⟨_, rfl⟩
        rw [← xl4463]
        have hl4463 : l4463.toInt = k.toInt := by rw [xl4463]; exact t64 _
        refine WP_lconst (0) dX11_lend_39 rfl ?_
        obtain ⟨l4464, hl4464, el4464⟩ : ∃ v : Int64, v.toInt = 0 ∧ (0 : Int64) = v := ⟨_, rfl, rfl⟩
        rw [el4464]
        refine WP_lconst (1) dX11_lend_40 rfl ?_
        obtain ⟨l4465, hl4465, el4465⟩ : ∃ v : Int64, v.toInt = 1 ∧ (1 : Int64) = v := ⟨_, rfl, rfl⟩
        rw [el4465]
        refine WP_callS3 dX11_lend_41 ⟨⟨⟨by decide, by decide⟩, zX11_in⟩, lX11_52, tX11_in⟩ (em_in hy hr _ _ _  ) (Nat.le_of_ble_eq_true rfl) ?_
        intro r Ia Ja Ra hq
        obtain ⟨⟨ea, eb, ec⟩, v4467, er, p4466⟩ := hq
        rw [ea, eb, ec, er]
        clear ea eb ec er Ia Ja Ra r
        refine WQ_if_ne 50 dX11_lend_44 rfl (fun c4467 => ?_) (fun c4467 => ?_)
        · refine WP_iload_n dX11_lend_50 rfl ?_
          refine WP_istore (ls' := [(0, _), (1, _), (2, _), (3, _), (4, _), (5, _)]) dX11_lend_51 (by decide) rfl ?_
          refine WQ_iconst (0) (0) dX11_lend_53 rfl rfl (fun v4469 hv4469 => ?_)
          refine WP_istore (ls' := [(0, _), (1, _), (2, _), (3, _), (4, _), (5, _), (6, _)]) dX11_lend_54 (by decide) rfl ?_
          have lp4472 : ∀ (mz : Nat) (i4470 : Int32) (i4471 : Int32), (∃ j : Nat, i4471.toInt = (j : Int) ∧ (j : Int) ≤ w.toInt ∧ (k.toInt = 0 → i4470.toInt = lfold y.toInt j c.toInt) ∧ (k.toInt ≠ 0 → i4470.toInt = c.toInt)) → (54 - i4471.toInt.toNat) < mz → WP g mX11_lend 56 [(0, .ref (ad g 0)), (1, .int c), (2, .int w), (3, .int y), (4, .int k), (5, .int i4470), (6, .int i4471)] [] I J R (fun r I' J' R' => (I' = I ∧ J' = J ∧ R' = R) ∧ ∃ v : Int32, r = some (.int v) ∧ (v.toInt = lendS S c.toInt w.toInt y.toInt k.toInt)) := by
            intro mz
            induction mz with
            | zero =>
              intro i4470 i4471  hvlp4472 hmlp4472
              exact absurd hmlp4472 (Nat.not_lt_zero _)
            | succ mz ihlp4472 =>
              intro i4470 i4471  hvlp4472 hmlp4472
              obtain ⟨j, ij, ijw, iE, iF⟩ := hvlp4472
              have hb1 := lfold_b (y := y.toInt) (c := c.toInt) (by omega) (by omega) j
              refine WP_iload dX11_lend_56 rfl ?_
              refine WP_iload_n dX11_lend_58 rfl ?_
              refine WQ_icmp_ge 87 dX11_lend_59 rfl (fun c4472 => ?_) (fun c4472 => ?_)
              · refine WQ_iconst (0) (0) dX11_lend_87 rfl rfl (fun v4474 hv4474 => ?_)
                refine WP_istore (ls' := [(0, _), (1, _), (2, _), (3, _), (4, _), (5, _), (6, _)]) dX11_lend_88 (by decide) rfl ?_
                have hjw : k.toInt = 0 → j = w.toInt.toNat := fun z => by omega
                have lp4477 : ∀ (mz : Nat) (i4475 : Int32) (i4476 : Int32), (∃ i : Nat, i4476.toInt = (i : Int) ∧ (i : Int) ≤ 7 * w.toInt ∧ (k.toInt = 0 → i4475.toInt = lfold y.toInt w.toInt.toNat c.toInt) ∧ (k.toInt = 1 → i4475.toInt = efold S 0 i c.toInt)) → (366 - i4476.toInt.toNat) < mz → WP g mX11_lend 90 [(0, .ref (ad g 0)), (1, .int c), (2, .int w), (3, .int y), (4, .int k), (5, .int i4475), (6, .int i4476)] [] I J R (fun r I' J' R' => (I' = I ∧ J' = J ∧ R' = R) ∧ ∃ v : Int32, r = some (.int v) ∧ (v.toInt = lendS S c.toInt w.toInt y.toInt k.toInt)) := by
                  intro mz
                  induction mz with
                  | zero =>
                    intro i4475 i4476  hvlp4477 hmlp4477
                    exact absurd hmlp4477 (Nat.not_lt_zero _)
                  | succ mz ihlp4477 =>
                    intro i4475 i4476  hvlp4477 hmlp4477
                    obtain ⟨i, ii, iiw, jE, jF⟩ := hvlp4477
                    have hb2 := efold_b hD 0 (c := c.toInt) (by omega) i
                    refine WP_iload dX11_lend_90 rfl ?_
                    refine WQ_bipush (7) (7) dX11_lend_92 rfl rfl (fun v4478 hv4478 => ?_)
                    refine WP_iload_n dX11_lend_94 rfl ?_
                    refine WQ_imulK (7) dX11_lend_95 hv4478 (by omega) (by omega) (fun v4479 hv4479 => ?_)
                    refine WQ_icmp_ge 131 dX11_lend_96 rfl (fun c4479 => ?_) (fun c4479 => ?_)
                    · refine WP_iload dX11_lend_131 rfl ?_
                      exact WP_iret dX11_lend_133 rfl ⟨⟨rfl, rfl, rfl⟩, i4475, rfl, by
                        unfold lendS
                        rw [if_pos (by omega)]
                        by_cases z : k.toInt = 0
                        · rw [if_pos z]; exact jE z
                        · rw [if_neg z, show 7 * w.toInt.toNat = i by omega]; exact jF (by omega)⟩
                    · refine WP_iload dX11_lend_99 rfl ?_
                      refine WQ_iconst (1) (1) dX11_lend_101 rfl rfl (fun v4481 hv4481 => ?_)
                      refine WQ_icmp_ne 131 dX11_lend_102 rfl (fun c4481 => ?_) (fun c4481 => ?_)
                      · refine WP_iload dX11_lend_131 rfl ?_
                        exact WP_iret dX11_lend_133 rfl ⟨⟨rfl, rfl, rfl⟩, i4475, rfl, by
                          unfold lendS
                          rw [if_pos (by omega)]
                          by_cases z : k.toInt = 0
                          · rw [if_pos z]; exact jE z
                          · rw [if_neg z, show 7 * w.toInt.toNat = i by omega]; exact jF (by omega)⟩
                      · have jF3 := jF (by omega)
                        refine WP_iload dX11_lend_105 rfl ?_
                        refine WP_iload dX11_lend_107 rfl ?_
                        refine WP_aload_n dX11_lend_109 rfl ?_
                        refine WP_getr dX11_lend_110 fX11_233 rfl (ly_is hy 0 11 rfl) (rf hr 0 24 6 (by decide)) ?_
                        refine WP_iload dX11_lend_113 rfl ?_
                        refine WQ_bipush (7) (7) dX11_lend_115 rfl rfl (fun v4483 hv4483 => ?_)
                        refine WQ_iremk (7) dX11_lend_117 hv4483 (by decide) (by omega) (fun v4484 hv4484 => ?_)
                        refine WE_ia dX11_lend_118 (ly_is hy 6 13 rfl) (ly_n hy 6 7 rfl) (by omega) (by omega) (fun v4485 ev4485 => ?_)
                        have h23 : v4485.toInt = S.1 1 (i % 7) := by rw [← ev4485, show v4484.toInt.toNat = i % 7 by omega]; exact hS.2.1 _ (by omega)
                        have hrb := rot_b hD i
                        refine WP_callS2 dX11_lend_119 ⟨⟨⟨by decide, by decide⟩, zX11_stampsOf⟩, lX11_380, tX11_stampsOf⟩ (em_stampsOf hy hr _ _  (by omega) (by omega)) (Nat.le_of_ble_eq_true rfl) ?_
                        intro r Ia Ja Ra hq
                        obtain ⟨⟨ea, eb, ec⟩, v4487, er, p4486⟩ := hq
                        rw [ea, eb, ec, er]
                        clear ea eb ec er Ia Ja Ra r
                        obtain ⟨st1, st2, st3⟩ := p4486
                        refine WQ_isub dX11_lend_122 (by omega) (by omega) (fun v4488 hv4488 => ?_)
                        refine WP_istore (ls' := [(0, _), (1, _), (2, _), (3, _), (4, _), (5, _), (6, _)]) dX11_lend_123 (by decide) rfl ?_
                        refine WP_iinc (ls' := [(0, _), (1, _), (2, _), (3, _), (4, _), (5, _), (6, _)]) dX11_lend_125 rfl (by decide) rfl ?_
                        have hv4489 : (i4476 + Int32.ofInt (1)).toInt = i4476.toInt + (1) := ia_n rfl (by omega) (by omega)
                        generalize i4476 + Int32.ofInt (1) = v4489 at hv4489 ⊢
                        refine WP_goto 90 dX11_lend_128 rfl ?_
                        refine WP_sub (fc rfl (fc rfl (fc rfl (fc rfl (fc rfl (fc rfl (fc rfl fn))))))) (ihlp4477 v4488 v4489  ?_ ?_)
                        · have jF2 := jF (by omega)
                          refine ⟨i + 1, by omega, by omega, fun z => absurd z (by omega), fun _ => ?_⟩
                          show _ = hday (efold S 0 i c.toInt) (S.1 1 ((0 + i) % 7))
                          rw [Nat.zero_add, ← jF2, ← h23]
                          unfold hday
                          rw [← st1]
                          omega
                        · omega
                refine WP_sub (fc rfl (fc rfl (fc rfl (fc rfl (fc rfl (fc rfl (fc rfl fn))))))) (lp4477 _ i4470 v4474  ?_ (Nat.lt_succ_self _))
                · refine ⟨0, by omega, by omega, fun z => ?_, fun z => ?_⟩
                  · rw [← hjw z]; exact iE z
                  · exact iF (by omega)
              · refine WP_iload dX11_lend_62 rfl ?_
                refine WQ_if_ne 87 dX11_lend_64 rfl (fun c4489 => ?_) (fun c4489 => ?_)
                · refine WQ_iconst (0) (0) dX11_lend_87 rfl rfl (fun v4491 hv4491 => ?_)
                  refine WP_istore (ls' := [(0, _), (1, _), (2, _), (3, _), (4, _), (5, _), (6, _)]) dX11_lend_88 (by decide) rfl ?_
                  have hjw : k.toInt = 0 → j = w.toInt.toNat := fun z => by omega
                  have lp4494 : ∀ (mz : Nat) (i4492 : Int32) (i4493 : Int32), (∃ i : Nat, i4493.toInt = (i : Int) ∧ (i : Int) ≤ 7 * w.toInt ∧ (k.toInt = 0 → i4492.toInt = lfold y.toInt w.toInt.toNat c.toInt) ∧ (k.toInt = 1 → i4492.toInt = efold S 0 i c.toInt)) → (366 - i4493.toInt.toNat) < mz → WP g mX11_lend 90 [(0, .ref (ad g 0)), (1, .int c), (2, .int w), (3, .int y), (4, .int k), (5, .int i4492), (6, .int i4493)] [] I J R (fun r I' J' R' => (I' = I ∧ J' = J ∧ R' = R) ∧ ∃ v : Int32, r = some (.int v) ∧ (v.toInt = lendS S c.toInt w.toInt y.toInt k.toInt)) := by
                    intro mz
                    induction mz with
                    | zero =>
                      intro i4492 i4493  hvlp4494 hmlp4494
                      exact absurd hmlp4494 (Nat.not_lt_zero _)
                    | succ mz ihlp4494 =>
                      intro i4492 i4493  hvlp4494 hmlp4494
                      obtain ⟨i, ii, iiw, jE, jF⟩ := hvlp4494
                      have hb2 := efold_b hD 0 (c := c.toInt) (by omega) i
                      refine WP_iload dX11_lend_90 rfl ?_
                      refine WQ_bipush (7) (7) dX11_lend_92 rfl rfl (fun v4495 hv4495 => ?_)
                      refine WP_iload_n dX11_lend_94 rfl ?_
                      refine WQ_imulK (7) dX11_lend_95 hv4495 (by omega) (by omega) (fun v4496 hv4496 => ?_)
                      refine WQ_icmp_ge 131 dX11_lend_96 rfl (fun c4496 => ?_) (fun c4496 => ?_)
                      · refine WP_iload dX11_lend_131 rfl ?_
                        exact WP_iret dX11_lend_133 rfl ⟨⟨rfl, rfl, rfl⟩, i4492, rfl, by
                          unfold lendS
                          rw [if_pos (by omega)]
                          by_cases z : k.toInt = 0
                          · rw [if_pos z]; exact jE z
                          · rw [if_neg z, show 7 * w.toInt.toNat = i by omega]; exact jF (by omega)⟩
                      · refine WP_iload dX11_lend_99 rfl ?_
                        refine WQ_iconst (1) (1) dX11_lend_101 rfl rfl (fun v4498 hv4498 => ?_)
                        refine WQ_icmp_ne 131 dX11_lend_102 rfl (fun c4498 => ?_) (fun c4498 => ?_)
                        · refine WP_iload dX11_lend_131 rfl ?_
                          exact WP_iret dX11_lend_133 rfl ⟨⟨rfl, rfl, rfl⟩, i4492, rfl, by
                            unfold lendS
                            rw [if_pos (by omega)]
                            by_cases z : k.toInt = 0
                            · rw [if_pos z]; exact jE z
                            · rw [if_neg z, show 7 * w.toInt.toNat = i by omega]; exact jF (by omega)⟩
                        · have jF3 := jF (by omega)
                          refine WP_iload dX11_lend_105 rfl ?_
                          refine WP_iload dX11_lend_107 rfl ?_
                          refine WP_aload_n dX11_lend_109 rfl ?_
                          refine WP_getr dX11_lend_110 fX11_233 rfl (ly_is hy 0 11 rfl) (rf hr 0 24 6 (by decide)) ?_
                          refine WP_iload dX11_lend_113 rfl ?_
                          refine WQ_bipush (7) (7) dX11_lend_115 rfl rfl (fun v4500 hv4500 => ?_)
                          refine WQ_iremk (7) dX11_lend_117 hv4500 (by decide) (by omega) (fun v4501 hv4501 => ?_)
                          refine WE_ia dX11_lend_118 (ly_is hy 6 13 rfl) (ly_n hy 6 7 rfl) (by omega) (by omega) (fun v4502 ev4502 => ?_)
                          have h23 : v4502.toInt = S.1 1 (i % 7) := by rw [← ev4502, show v4501.toInt.toNat = i % 7 by omega]; exact hS.2.1 _ (by omega)
                          have hrb := rot_b hD i
                          refine WP_callS2 dX11_lend_119 ⟨⟨⟨by decide, by decide⟩, zX11_stampsOf⟩, lX11_380, tX11_stampsOf⟩ (em_stampsOf hy hr _ _  (by omega) (by omega)) (Nat.le_of_ble_eq_true rfl) ?_
                          intro r Ia Ja Ra hq
                          obtain ⟨⟨ea, eb, ec⟩, v4504, er, p4503⟩ := hq
                          rw [ea, eb, ec, er]
                          clear ea eb ec er Ia Ja Ra r
                          obtain ⟨st1, st2, st3⟩ := p4503
                          refine WQ_isub dX11_lend_122 (by omega) (by omega) (fun v4505 hv4505 => ?_)
                          refine WP_istore (ls' := [(0, _), (1, _), (2, _), (3, _), (4, _), (5, _), (6, _)]) dX11_lend_123 (by decide) rfl ?_
                          refine WP_iinc (ls' := [(0, _), (1, _), (2, _), (3, _), (4, _), (5, _), (6, _)]) dX11_lend_125 rfl (by decide) rfl ?_
                          have hv4506 : (i4493 + Int32.ofInt (1)).toInt = i4493.toInt + (1) := ia_n rfl (by omega) (by omega)
                          generalize i4493 + Int32.ofInt (1) = v4506 at hv4506 ⊢
                          refine WP_goto 90 dX11_lend_128 rfl ?_
                          refine WP_sub (fc rfl (fc rfl (fc rfl (fc rfl (fc rfl (fc rfl (fc rfl fn))))))) (ihlp4494 v4505 v4506  ?_ ?_)
                          · have jF2 := jF (by omega)
                            refine ⟨i + 1, by omega, by omega, fun z => absurd z (by omega), fun _ => ?_⟩
                            show _ = hday (efold S 0 i c.toInt) (S.1 1 ((0 + i) % 7))
                            rw [Nat.zero_add, ← jF2, ← h23]
                            unfold hday
                            rw [← st1]
                            omega
                          · omega
                  refine WP_sub (fc rfl (fc rfl (fc rfl (fc rfl (fc rfl (fc rfl (fc rfl fn))))))) (lp4494 _ i4470 v4491  ?_ (Nat.lt_succ_self _))
                  · refine ⟨0, by omega, by omega, fun z => ?_, fun z => ?_⟩
                    · rw [← hjw z]; exact iE z
                    · exact iF (by omega)
                · refine WP_iload dX11_lend_67 rfl ?_
                  refine WQ_sipush (1000) (1000) dX11_lend_69 rfl rfl (fun v4507 hv4507 => ?_)
                  have iE3 := iE (by omega)
                  refine WP_iload_n dX11_lend_72 rfl ?_
                  refine WQ_isub dX11_lend_73 (by omega) (by omega) (fun v4508 hv4508 => ?_)
                  refine WQ_imulb (999) (1000) dX11_lend_74 ⟨by omega, by omega⟩ ⟨by omega, by omega⟩ (by decide) (fun v4509 hv4509 av4509 bv4509 cv4509 => ?_)
                  refine WQ_sipush (1000) (1000) dX11_lend_75 rfl rfl (fun v4510 hv4510 => ?_)
                  refine WQ_idivk (1000) dX11_lend_78 hv4510 (by decide) (by omega) (fun v4511 hv4511 => ?_)
                  refine WP_istore (ls' := [(0, _), (1, _), (2, _), (3, _), (4, _), (5, _), (6, _)]) dX11_lend_79 (by decide) rfl ?_
                  refine WP_iinc (ls' := [(0, _), (1, _), (2, _), (3, _), (4, _), (5, _), (6, _)]) dX11_lend_81 rfl (by decide) rfl ?_
                  have hv4512 : (i4471 + Int32.ofInt (1)).toInt = i4471.toInt + (1) := ia_n rfl (by omega) (by omega)
                  generalize i4471 + Int32.ofInt (1) = v4512 at hv4512 ⊢
                  refine WP_goto 56 dX11_lend_84 rfl ?_
                  refine WP_sub (fc rfl (fc rfl (fc rfl (fc rfl (fc rfl (fc rfl (fc rfl fn))))))) (ihlp4472 v4511 v4512  ?_ ?_)
                  · have iE2 := iE (by omega)
                    refine ⟨j + 1, by omega, by omega, fun _ => ?_, fun z => absurd z (by omega)⟩
                    rw [lfold, ← iE2, hv4511, hv4509, hv4508]
                    congr 2 <;> omega
                  · omega
          refine WP_sub (fc rfl (fc rfl (fc rfl (fc rfl (fc rfl (fc rfl (fc rfl fn))))))) (lp4472 _ c v4469  ?_ (Nat.lt_succ_self _))
          · exact ⟨0, by omega, by omega, fun _ => rfl, fun _ => rfl⟩
        · refine WQ_bipush (-2) (-2) dX11_lend_47 rfl rfl (fun v4513 hv4513 => ?_)
          exact WP_iret dX11_lend_49 rfl ⟨⟨rfl, rfl, rfl⟩, v4513, rfl, by
            unfold lendS
            rw [if_neg (by omega)]
            omega⟩
set_option maxHeartbeats 4000000 in
set_option maxRecDepth 100000 in
theorem em_early {g : GG} {I : pI} {J : pJ} {R : pR} (hy : Ly g) (hr : Rf g R) {S : TwS} (c : Int32) (k : Int32) (d : Int32) (hS : RTT g S I J) (hB : SBn S) (hD : TBD S) : SP g mX11_early [.ref (ad g 0), .int c, .int k, .int d] I J R (fun r I' J' R' => (I' = I ∧ J' = J ∧ R' = R) ∧ ∃ v : Int32, r = some (.int v) ∧ (v.toInt = earlyS S c.toInt k.toInt d.toInt)) := by
  refine SP_of ⟨by decide, rfl⟩ (Nat.le_of_ble_eq_true rfl) ?_
  refine WP_iload_n dX11_early_0 rfl ?_
  refine WP_i2l dX11_early_1 ?_
  obtain ⟨l4514, xl4514⟩ : ∃ v : Int64, v = c.toInt64 := ⟨_, rfl⟩
  rw [← xl4514]
  have hl4514 : l4514.toInt = c.toInt := by rw [xl4514]; exact t64 _
  refine WP_lconst (0) dX11_early_2 rfl ?_
  obtain ⟨l4515, hl4515, el4515⟩ : ∃ v : Int64, v.toInt = 0 ∧ (0 : Int64) = v := ⟨_, rfl, rfl⟩
  rw [el4515]
  refine WP_ldc2 (999) dX11_early_3 klX11_523 ?_
  obtain ⟨l4516, hl4516, el4516⟩ : ∃ v : Int64, v.toInt = (999) ∧ ((999) : Int64) = v := ⟨_, rfl, rfl⟩
  rw [el4516]
  refine WP_callS3 dX11_early_6 ⟨⟨⟨by decide, by decide⟩, zX11_in⟩, lX11_52, tX11_in⟩ (em_in hy hr _ _ _  ) (Nat.le_of_ble_eq_true rfl) ?_
  intro r Ia Ja Ra hq
  obtain ⟨⟨ea, eb, ec⟩, v4518, er, p4517⟩ := hq
  rw [ea, eb, ec, er]
  clear ea eb ec er Ia Ja Ra r
  refine WQ_if_eq 31 dX11_early_9 rfl (fun c4518 => ?_) (fun c4518 => ?_)
  · refine WQ_bipush (-2) (-2) dX11_early_31 rfl rfl (fun v4520 hv4520 => ?_)
    exact WP_iret dX11_early_33 rfl ⟨⟨rfl, rfl, rfl⟩, v4520, rfl, by
      unfold earlyS
      rw [if_neg (by omega)]
      omega⟩
  · refine WP_iload_n dX11_early_12 rfl ?_
    refine WP_i2l dX11_early_13 ?_
    obtain ⟨l4521, xl4521⟩ : ∃ v : Int64, v = k.toInt64 := ⟨_, rfl⟩
    rw [← xl4521]
    have hl4521 : l4521.toInt = k.toInt := by rw [xl4521]; exact t64 _
    refine WP_lconst (0) dX11_early_14 rfl ?_
    obtain ⟨l4522, hl4522, el4522⟩ : ∃ v : Int64, v.toInt = 0 ∧ (0 : Int64) = v := ⟨_, rfl, rfl⟩
    rw [el4522]
    refine WP_ldc2 (60) dX11_early_15 klX11_361 ?_
    obtain ⟨l4523, hl4523, el4523⟩ : ∃ v : Int64, v.toInt = (60) ∧ ((60) : Int64) = v := ⟨_, rfl, rfl⟩
    rw [el4523]
    refine WP_callS3 dX11_early_18 ⟨⟨⟨by decide, by decide⟩, zX11_in⟩, lX11_52, tX11_in⟩ (em_in hy hr _ _ _  ) (Nat.le_of_ble_eq_true rfl) ?_
    intro r Ia Ja Ra hq
    obtain ⟨⟨ea, eb, ec⟩, v4525, er, p4524⟩ := hq
    rw [ea, eb, ec, er]
    clear ea eb ec er Ia Ja Ra r
    refine WQ_if_eq 31 dX11_early_21 rfl (fun c4525 => ?_) (fun c4525 => ?_)
    · refine WQ_bipush (-2) (-2) dX11_early_31 rfl rfl (fun v4527 hv4527 => ?_)
      exact WP_iret dX11_early_33 rfl ⟨⟨rfl, rfl, rfl⟩, v4527, rfl, by
        unfold earlyS
        rw [if_neg (by omega)]
        omega⟩
    · refine WP_iload_n dX11_early_24 rfl ?_
      refine WP_callS1 dX11_early_25 ⟨⟨⟨by decide, by decide⟩, zX11_isDay⟩, lX11_370, tX11_isDay⟩ (em_isDay hy hr _  ) (Nat.le_of_ble_eq_true rfl) ?_
      intro r Ia Ja Ra hq
      obtain ⟨⟨ea, eb, ec⟩, v4529, er, p4528⟩ := hq
      rw [ea, eb, ec, er]
      clear ea eb ec er Ia Ja Ra r
      refine WQ_if_ne 34 dX11_early_28 rfl (fun c4529 => ?_) (fun c4529 => ?_)
      · refine WQ_iconst (0) (0) dX11_early_34 rfl rfl (fun v4531 hv4531 => ?_)
        refine WP_istore (ls' := [(0, _), (1, _), (2, _), (3, _), (4, _)]) dX11_early_35 (by decide) rfl ?_
        have lp4533 : ∀ (mz : Nat) (i4532 : Int32), (∃ n : Nat, i4532.toInt = (n : Int) ∧ n ≤ 1000 ∧ earlyL S d.toInt.toNat k.toInt.toNat c.toInt (1000 - n) n = earlyL S d.toInt.toNat k.toInt.toNat c.toInt 1000 0) → (1001 - i4532.toInt.toNat) < mz → WP g mX11_early 37 [(0, .ref (ad g 0)), (1, .int c), (2, .int k), (3, .int d), (4, .int i4532)] [] I J R (fun r I' J' R' => (I' = I ∧ J' = J ∧ R' = R) ∧ ∃ v : Int32, r = some (.int v) ∧ (v.toInt = earlyS S c.toInt k.toInt d.toInt)) := by
          intro mz
          induction mz with
          | zero =>
            intro i4532  hvlp4533 hmlp4533
            exact absurd hmlp4533 (Nat.not_lt_zero _)
          | succ mz ihlp4533 =>
            intro i4532  hvlp4533 hmlp4533
            obtain ⟨n, in_, in9, iE⟩ := hvlp4533
            refine WP_iload dX11_early_37 rfl ?_
            refine WQ_sipush (999) (999) dX11_early_39 rfl rfl (fun v4534 hv4534 => ?_)
            refine WQ_icmp_gt 101 dX11_early_42 rfl (fun c4534 => ?_) (fun c4534 => ?_)
            · refine WQ_iconst (-1) (-1) dX11_early_101 rfl rfl (fun v4536 hv4536 => ?_)
              exact WP_iret dX11_early_102 rfl ⟨⟨rfl, rfl, rfl⟩, v4536, rfl, by
                unfold earlyS
                rw [if_pos (by omega), ← iE, show 1000 - n = 0 by omega, earlyL]
                omega⟩
            · refine WP_iload dX11_early_45 rfl ?_
              refine WP_istore (ls' := [(0, _), (1, _), (2, _), (3, _), (4, _), (5, _)]) dX11_early_47 (by decide) rfl ?_
              refine WQ_iconst (0) (0) dX11_early_49 rfl rfl (fun v4537 hv4537 => ?_)
              refine WP_istore (ls' := [(0, _), (1, _), (2, _), (3, _), (4, _), (5, _), (6, _)]) dX11_early_50 (by decide) rfl ?_
              have lp4540 : ∀ (mz : Nat) (i4538 : Int32) (i4539 : Int32), (∃ i : Nat, i4539.toInt = (i : Int) ∧ (i : Int) ≤ k.toInt ∧ i4538.toInt = efold S d.toInt.toNat i n) → (62 - i4539.toInt.toNat) < mz → WP g mX11_early 52 [(0, .ref (ad g 0)), (1, .int c), (2, .int k), (3, .int d), (4, .int i4532), (5, .int i4538), (6, .int i4539)] [] I J R (fun r I' J' R' => (I' = I ∧ J' = J ∧ R' = R) ∧ ∃ v : Int32, r = some (.int v) ∧ (v.toInt = earlyS S c.toInt k.toInt d.toInt)) := by
                intro mz
                induction mz with
                | zero =>
                  intro i4538 i4539  hvlp4540 hmlp4540
                  exact absurd hmlp4540 (Nat.not_lt_zero _)
                | succ mz ihlp4540 =>
                  intro i4538 i4539  hvlp4540 hmlp4540
                  obtain ⟨i, ii, iik, jE⟩ := hvlp4540
                  have hb2 := efold_b hD d.toInt.toNat (c := (n : Int)) (by omega) i
                  refine WP_iload dX11_early_52 rfl ?_
                  refine WP_iload_n dX11_early_54 rfl ?_
                  refine WQ_icmp_ge 86 dX11_early_55 rfl (fun c4540 => ?_) (fun c4540 => ?_)
                  · refine WP_iload dX11_early_86 rfl ?_
                    refine WP_iload_n dX11_early_88 rfl ?_
                    refine WQ_icmp_lt 95 dX11_early_89 rfl (fun c4541 => ?_) (fun c4541 => ?_)
                    · refine WP_iinc (ls' := [(0, _), (1, _), (2, _), (3, _), (4, _), (5, _), (6, _)]) dX11_early_95 rfl (by decide) rfl ?_
                      have hv4543 : (i4532 + Int32.ofInt (1)).toInt = i4532.toInt + (1) := ia_n rfl (by omega) (by omega)
                      generalize i4532 + Int32.ofInt (1) = v4543 at hv4543 ⊢
                      refine WP_goto 37 dX11_early_98 rfl ?_
                      refine WP_sub (fc rfl (fc rfl (fc rfl (fc rfl (fc rfl fn))))) (ihlp4533 v4543  ?_ ?_)
                      · refine ⟨n + 1, by omega, by omega, ?_⟩
                        rw [← iE, show 1000 - n = (1000 - (n + 1)) + 1 by omega, earlyL, if_neg (by rw [show k.toInt.toNat = i by omega, ← jE]; omega)]
                      · omega
                    · refine WP_iload dX11_early_92 rfl ?_
                      exact WP_iret dX11_early_94 rfl ⟨⟨rfl, rfl, rfl⟩, i4532, rfl, by
                        unfold earlyS
                        rw [if_pos (by omega), ← iE, show 1000 - n = (1000 - (n + 1)) + 1 by omega, earlyL, if_pos (by rw [show k.toInt.toNat = i by omega, ← jE]; omega)]
                        omega⟩
                  · refine WP_iload dX11_early_58 rfl ?_
                    refine WP_iload dX11_early_60 rfl ?_
                    refine WP_aload_n dX11_early_62 rfl ?_
                    refine WP_getr dX11_early_63 fX11_233 rfl (ly_is hy 0 11 rfl) (rf hr 0 24 6 (by decide)) ?_
                    refine WP_iload_n dX11_early_66 rfl ?_
                    refine WP_iload dX11_early_67 rfl ?_
                    refine WQ_iadd dX11_early_69 (by omega) (by omega) (fun v4544 hv4544 => ?_)
                    refine WQ_bipush (7) (7) dX11_early_70 rfl rfl (fun v4545 hv4545 => ?_)
                    refine WQ_iremk (7) dX11_early_72 hv4545 (by decide) (by omega) (fun v4546 hv4546 => ?_)
                    refine WE_ia dX11_early_73 (ly_is hy 6 13 rfl) (ly_n hy 6 7 rfl) (by omega) (by omega) (fun v4547 ev4547 => ?_)
                    have h23 : v4547.toInt = S.1 1 ((d.toInt.toNat + i) % 7) := by rw [← ev4547, show v4546.toInt.toNat = (d.toInt.toNat + i) % 7 by omega]; exact hS.2.1 _ (by omega)
                    have hrb := rot_b hD (d.toInt.toNat + i)
                    refine WP_callS2 dX11_early_74 ⟨⟨⟨by decide, by decide⟩, zX11_stampsOf⟩, lX11_380, tX11_stampsOf⟩ (em_stampsOf hy hr _ _  (by omega) (by omega)) (Nat.le_of_ble_eq_true rfl) ?_
                    intro r Ia Ja Ra hq
                    obtain ⟨⟨ea, eb, ec⟩, v4549, er, p4548⟩ := hq
                    rw [ea, eb, ec, er]
                    clear ea eb ec er Ia Ja Ra r
                    obtain ⟨st1, st2, st3⟩ := p4548
                    refine WQ_isub dX11_early_77 (by omega) (by omega) (fun v4550 hv4550 => ?_)
                    refine WP_istore (ls' := [(0, _), (1, _), (2, _), (3, _), (4, _), (5, _), (6, _)]) dX11_early_78 (by decide) rfl ?_
                    refine WP_iinc (ls' := [(0, _), (1, _), (2, _), (3, _), (4, _), (5, _), (6, _)]) dX11_early_80 rfl (by decide) rfl ?_
                    have hv4551 : (i4539 + Int32.ofInt (1)).toInt = i4539.toInt + (1) := ia_n rfl (by omega) (by omega)
                    generalize i4539 + Int32.ofInt (1) = v4551 at hv4551 ⊢
                    refine WP_goto 52 dX11_early_83 rfl ?_
                    refine WP_sub (fc rfl (fc rfl (fc rfl (fc rfl (fc rfl (fc rfl (fc rfl fn))))))) (ihlp4540 v4550 v4551  ?_ ?_)
                    · refine ⟨i + 1, by omega, by omega, ?_⟩
                      show _ = hday (efold S d.toInt.toNat i n) (S.1 1 ((d.toInt.toNat + i) % 7))
                      rw [← jE, ← h23]
                      unfold hday
                      rw [← st1]
                      omega
                    · omega
              refine WP_sub (fc rfl (fc rfl (fc rfl (fc rfl (fc rfl (fc rfl (fc rfl fn))))))) (lp4540 _ i4532 v4537  ?_ (Nat.lt_succ_self _))
              · exact ⟨0, by omega, by omega, by show _ = (n : Int); omega⟩
        refine WP_sub (fc rfl (fc rfl (fc rfl (fc rfl (fc rfl fn))))) (lp4533 _ v4531  ?_ (Nat.lt_succ_self _))
        · exact ⟨0, by omega, by omega, rfl⟩
      · refine WQ_bipush (-2) (-2) dX11_early_31 rfl rfl (fun v4552 hv4552 => ?_)
        exact WP_iret dX11_early_33 rfl ⟨⟨rfl, rfl, rfl⟩, v4552, rfl, by
          unfold earlyS
          rw [if_neg (by omega)]
          omega⟩
theorem am_night {g : GG} {I : pI} {J : pJ} {R : pR} (hy : Ly g) (hr : Rf g R) {S : TwS} (c u d : Int32) (hS : RTT g S I J) (hB : SBn S) (hD : TBD S) : SP g mX11_night [.ref (ad g 0), .int c, .int u, .int d] I J R (fun r _ _ _ => ∃ v : Int32, r = some (.int v) ∧ v.toInt = nightS S c.toInt u.toInt d.toInt) := SP_wk (em_night hy hr c u d hS hB hD) (fun r I9 J9 R9 q => q.2)
theorem am_lend {g : GG} {I : pI} {J : pJ} {R : pR} (hy : Ly g) (hr : Rf g R) {S : TwS} (c w y k : Int32) (hS : RTT g S I J) (hB : SBn S) (hD : TBD S) : SP g mX11_lend [.ref (ad g 0), .int c, .int w, .int y, .int k] I J R (fun r _ _ _ => ∃ v : Int32, r = some (.int v) ∧ v.toInt = lendS S c.toInt w.toInt y.toInt k.toInt) := SP_wk (em_lend hy hr c w y k hS hB hD) (fun r I9 J9 R9 q => q.2)
theorem am_early {g : GG} {I : pI} {J : pJ} {R : pR} (hy : Ly g) (hr : Rf g R) {S : TwS} (c k d : Int32) (hS : RTT g S I J) (hB : SBn S) (hD : TBD S) : SP g mX11_early [.ref (ad g 0), .int c, .int k, .int d] I J R (fun r _ _ _ => ∃ v : Int32, r = some (.int v) ∧ v.toInt = earlyS S c.toInt k.toInt d.toInt) := SP_wk (em_early hy hr c k d hS hB hD) (fun r I9 J9 R9 q => q.2)
