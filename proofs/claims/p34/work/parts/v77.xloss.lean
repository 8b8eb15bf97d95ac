/-- what is needed ahead of more nights is no less -/
theorem eneed_up {S : TwS} (h : TBD S) (d : Nat) {c : Int} (hc : 0 ≤ c) : ∀ (j f : Nat), eneed S d c j f ≤ eneed S d c 0 (j + f)
  | 0, f => by rw [Nat.zero_add]; exact Int.le_refl _
  | j + 1, f => by
    have h1 := eneed_up h d hc j (f + 1)
    have h2 := eneed_b h d hc f (j + 1)
    have h3 := need_ge (b := eneed S d c (j + 1) f) (by omega) (rot_b h (d + j))
    rw [eneed] at h1
    rw [show j + 1 + f = j + (f + 1) by omega]
    omega
set_option maxHeartbeats 4000000 in
set_option maxRecDepth 100000 in
theorem ex_isHeld {g : GG} {I : pI} {J : pJ} {R : pR} (hy : LyX g) (hr : RfX g R)  (c : Int32) (u : Int32)  : SP g mX10_isHeld [.int c, .int u] I J R (fun r I' J' R' => (I' = I ∧ J' = J ∧ R' = R) ∧ ∃ v : Int32, r = some (.int v) ∧ ((v.toInt = 1 ∧ (0 ≤ c.toInt ∧ c.toInt ≤ 60) ∧ (0 ≤ u.toInt ∧ u.toInt ≤ 5)) ∨ (v.toInt = 0 ∧ ¬ ((0 ≤ c.toInt ∧ c.toInt ≤ 60) ∧ (0 ≤ u.toInt ∧ u.toInt ≤ 5))))) := by
  refine SP_of ⟨by decide, rfl⟩ (Nat.le_of_ble_eq_true rfl) ?_
  refine WP_iload_n dX10_isHeld_0 rfl ?_
  refine WQ_iconst (0) (0) dX10_isHeld_1 rfl rfl (fun v4000 hv4000 => ?_)
  refine WQ_bipush (60) (60) dX10_isHeld_2 rfl rfl (fun v4001 hv4001 => ?_)
  refine WP_callS3 dX10_isHeld_4 ⟨⟨⟨by decide, by decide⟩, zX10_within⟩, lX10_206, tX10_within⟩ (ex_within hy hr _ _ _  ) (Nat.le_of_ble_eq_true rfl) ?_
  intro r Ia Ja Ra hq
  obtain ⟨⟨ea, eb, ec⟩, v4003, er, p4002⟩ := hq
  rw [ea, eb, ec, er]
  clear ea eb ec er Ia Ja Ra r
  refine WQ_if_eq 23 dX10_isHeld_7 rfl (fun c4003 => ?_) (fun c4003 => ?_)
  · refine WQ_iconst (0) (0) dX10_isHeld_23 rfl rfl (fun v4005 hv4005 => ?_)
    exact WP_zret dX10_isHeld_24 rfl (nar_z (by omega)) ⟨⟨rfl, rfl, rfl⟩, v4005, rfl, by
      first
      | exact Or.inl ⟨by omega, by omega, by omega⟩
      | exact Or.inr ⟨by omega, by omega⟩⟩
  · refine WP_iload_n dX10_isHeld_10 rfl ?_
    refine WQ_iconst (0) (0) dX10_isHeld_11 rfl rfl (fun v4006 hv4006 => ?_)
    refine WQ_iconst (5) (5) dX10_isHeld_12 rfl rfl (fun v4007 hv4007 => ?_)
    refine WP_callS3 dX10_isHeld_13 ⟨⟨⟨by decide, by decide⟩, zX10_within⟩, lX10_206, tX10_within⟩ (ex_within hy hr _ _ _  ) (Nat.le_of_ble_eq_true rfl) ?_
    intro r Ia Ja Ra hq
    obtain ⟨⟨ea, eb, ec⟩, v4009, er, p4008⟩ := hq
    rw [ea, eb, ec, er]
    clear ea eb ec er Ia Ja Ra r
    refine WQ_if_eq 23 dX10_isHeld_16 rfl (fun c4009 => ?_) (fun c4009 => ?_)
    · refine WQ_iconst (0) (0) dX10_isHeld_23 rfl rfl (fun v4011 hv4011 => ?_)
      exact WP_zret dX10_isHeld_24 rfl (nar_z (by omega)) ⟨⟨rfl, rfl, rfl⟩, v4011, rfl, by
        first
        | exact Or.inl ⟨by omega, by omega, by omega⟩
        | exact Or.inr ⟨by omega, by omega⟩⟩
    · refine WQ_iconst (1) (1) dX10_isHeld_19 rfl rfl (fun v4012 hv4012 => ?_)
      refine WP_goto 24 dX10_isHeld_20 rfl ?_
      exact WP_zret dX10_isHeld_24 rfl (nar_z (by omega)) ⟨⟨rfl, rfl, rfl⟩, v4012, rfl, by
        first
        | exact Or.inl ⟨by omega, by omega, by omega⟩
        | exact Or.inr ⟨by omega, by omega⟩⟩
set_option maxHeartbeats 4000000 in
set_option maxRecDepth 100000 in
theorem ex_coinsBehind {g : GG} {I : pI} {J : pJ} {R : pR} (hy : LyX g) (hr : RfX g R) {S : TwS} {cn un dn : Nat} (c : Int32) (u : Int32) (d : Int32) (hK : XK g S I) (hD : TBD S) (hc : c.toInt = (cn : Int)) (hu : u.toInt = (un : Int)) (hd : d.toInt = (dn : Int)) (hc6 : cn ≤ 60) (hu5 : un ≤ 5) (hd7 : dn < 7) (hcs : 0 ≤ cstS S ∧ cstS S ≤ 9) : SP g mX0_coinsBehind [.ref (ad g 5), .int c, .int u, .int d] I J R (fun r I' J' R' => (I' = I ∧ J' = J ∧ R' = R) ∧ ∃ v : Int32, r = some (.int v) ∧ (v.toInt = nightV S cn un dn)) := by
  refine SP_of ⟨by decide, rfl⟩ (Nat.le_of_ble_eq_true rfl) ?_
  refine WP_aload_n dX0_coinsBehind_0 rfl ?_
  refine WP_getr dX0_coinsBehind_1 fX0_18 rfl (lyx_is hy 5 0 rfl) (rfx hr 5 3 24 (by decide)) ?_
  refine WP_iload_n dX0_coinsBehind_4 rfl ?_
  refine WQ_bipush (61) (61) dX0_coinsBehind_5 rfl rfl (fun v4013 hv4013 => ?_)
  refine WQ_imulk (61) dX0_coinsBehind_7 hv4013 (by omega) (by omega) (fun v4014 hv4014 => ?_)
  refine WP_iload_n dX0_coinsBehind_8 rfl ?_
  refine WQ_iadd dX0_coinsBehind_9 (by omega) (by omega) (fun v4015 hv4015 => ?_)
  refine WE_ia dX0_coinsBehind_10 (lyx_is hy 24 13 rfl) (lyx_n hy 24 427 rfl) (by omega) (by omega) (fun v4016 ev4016 => ?_)
  refine WP_aload_n dX0_coinsBehind_11 rfl ?_
  refine WP_getr dX0_coinsBehind_12 fX0_21 rfl (lyx_is hy 5 0 rfl) (rfx hr 5 4 25 (by decide)) ?_
  refine WP_iload_n dX0_coinsBehind_15 rfl ?_
  refine WE_ia dX0_coinsBehind_16 (lyx_is hy 25 13 rfl) (lyx_n hy 25 6 rfl) (by omega) (by omega) (fun v4017 ev4017 => ?_)
  have h24 : v4016.toInt = cn - stp cn (S.1 1 dn) := by rw [← ev4016, show v4015.toInt.toNat = dn * 61 + cn by omega]; exact hK.2.1 dn cn hd7 (by omega)
  have h25 : v4017.toInt = un * cstS S := by rw [← ev4017, show u.toInt.toNat = un by omega]; exact hK.2.2.1 un (by omega)
  have hsb := stp_b (c := (cn : Int)) (l := S.1 1 dn) (by omega) ⟨(hD.1.1.1 dn (by omega)).1, by have := (hD.1.1.1 dn (by omega)).2; omega⟩
  have hub : 0 ≤ un * cstS S ∧ un * cstS S ≤ 45 := by have q1 : (0 : Int) ≤ un * cstS S := Int.mul_nonneg (by omega) hcs.1; have q2 : (un : Int) * cstS S ≤ 5 * cstS S := Int.mul_le_mul_of_nonneg_right (by omega) hcs.1; omega
  refine WQ_isub dX0_coinsBehind_17 (by omega) (by omega) (fun v4018 hv4018 => ?_)
  refine WP_istore (ls' := [(0, _), (1, _), (2, _), (3, _), (4, _)]) dX0_coinsBehind_18 (by decide) rfl ?_
  refine WP_iload dX0_coinsBehind_20 rfl ?_
  refine WQ_if_ge 29 dX0_coinsBehind_22 rfl (fun c4018 => ?_) (fun c4018 => ?_)
  · refine WP_iload dX0_coinsBehind_29 rfl ?_
    exact WP_iret dX0_coinsBehind_31 rfl ⟨⟨rfl, rfl, rfl⟩, v4018, rfl, by
      unfold nightV
      simp only [Int.toNat_natCast]
      first
      | (rw [if_pos (by omega)]; omega)
      | (rw [if_neg (by omega)]; omega)⟩
  · refine WQ_iconst (0) (0) dX0_coinsBehind_25 rfl rfl (fun v4020 hv4020 => ?_)
    refine WP_goto 31 dX0_coinsBehind_26 rfl ?_
    exact WP_iret dX0_coinsBehind_31 rfl ⟨⟨rfl, rfl, rfl⟩, v4020, rfl, by
      unfold nightV
      simp only [Int.toNat_natCast]
      first
      | (rw [if_pos (by omega)]; omega)
      | (rw [if_neg (by omega)]; omega)⟩
theorem cst_b {S : TwS} (h : TBD S) : 0 ≤ cstS S ∧ cstS S ≤ 9 := by
  unfold cstS
  split
  · omega
  · exact h.1.2.2.2 (S.1 0 4).toNat (by have := h.2.2.1; omega)
set_option maxHeartbeats 4000000 in
set_option maxRecDepth 100000 in
theorem ex_heldForWeek {g : GG} {I : pI} {J : pJ} {R : pR} (hy : LyX g) (hr : RfX g R) {S : TwS} {w : Nat} {c0 : Int} (c : Int32) (hK : XK g S I) (hD : TBD S) (hc0 : 0 ≤ c0 ∧ c0 ≤ 999) (hc : c.toInt = efold S 0 (7 * w) c0) : SP g mX0_heldForWeek [.ref (ad g 5), .int c] I J R (fun r I' J' R' => (I' = I ∧ J' = J ∧ R' = R) ∧ ∃ v : Int32, r = some (.int v) ∧ (v.toInt = efold S 0 (7 * w + 7) c0)) := by
  refine SP_of ⟨by decide, rfl⟩ (Nat.le_of_ble_eq_true rfl) ?_
  refine WP_iload_n dX0_heldForWeek_0 rfl ?_
  refine WP_istore_n (ls' := [(0, _), (1, _), (2, _)]) dX0_heldForWeek_1 (by decide) rfl ?_
  refine WQ_iconst (0) (0) dX0_heldForWeek_2 rfl rfl (fun v4021 hv4021 => ?_)
  refine WP_istore_n (ls' := [(0, _), (1, _), (2, _), (3, _)]) dX0_heldForWeek_3 (by decide) rfl ?_
  have lp4024 : ∀ (mz : Nat) (i4022 : Int32) (i4023 : Int32), (∃ k : Nat, i4023.toInt = (k : Int) ∧ k ≤ 7 ∧ i4022.toInt = efold S 0 (7 * w + k) c0) → (8 - i4023.toInt.toNat) < mz → WP g mX0_heldForWeek 4 [(0, .ref (ad g 5)), (1, .int c), (2, .int i4022), (3, .int i4023)] [] I J R (fun r I' J' R' => (I' = I ∧ J' = J ∧ R' = R) ∧ ∃ v : Int32, r = some (.int v) ∧ (v.toInt = efold S 0 (7 * w + 7) c0)) := by
    intro mz
    induction mz with
    | zero =>
      intro i4022 i4023  hvlp4024 hmlp4024
      exact absurd hmlp4024 (Nat.not_lt_zero _)
    | succ mz ihlp4024 =>
      intro i4022 i4023  hvlp4024 hmlp4024
      obtain ⟨k, ik, ik7, iE⟩ := hvlp4024
      have hb := efold_b hD 0 hc0.1 (7 * w + k)
      refine WP_iload_n dX0_heldForWeek_4 rfl ?_
      refine WQ_bipush (7) (7) dX0_heldForWeek_5 rfl rfl (fun v4025 hv4025 => ?_)
      refine WQ_icmp_ge 29 dX0_heldForWeek_7 rfl (fun c4025 => ?_) (fun c4025 => ?_)
      · refine WP_iload_n dX0_heldForWeek_29 rfl ?_
        exact WP_iret dX0_heldForWeek_30 rfl ⟨⟨rfl, rfl, rfl⟩, i4022, rfl, by
          obtain rfl : k = 7 := by omega
          exact iE⟩
      · refine WP_iload_n dX0_heldForWeek_10 rfl ?_
        refine WP_iload_n dX0_heldForWeek_11 rfl ?_
        refine WP_aload_n dX0_heldForWeek_12 rfl ?_
        refine WP_getr dX0_heldForWeek_13 fX0_15 rfl (lyx_is hy 5 0 rfl) (rfx hr 5 2 23 (by decide)) ?_
        refine WP_iload_n dX0_heldForWeek_16 rfl ?_
        refine WE_ia dX0_heldForWeek_17 (lyx_is hy 23 13 rfl) (lyx_n hy 23 7 rfl) (by omega) (by omega) (fun v4027 ev4027 => ?_)
        have h23 : v4027.toInt = S.1 1 k := by rw [← ev4027, show i4023.toInt.toNat = k by omega]; exact hK.1 k (by omega)
        have hrb := hD.1.1.1 k (by omega)
        refine WP_callN2 dX0_heldForWeek_18 ⟨⟨⟨by decide, by decide⟩, zX10_stampsOf⟩, lX0_60, tX10_stampsOf⟩ (ex_stampsOf hy hr _ _  (by omega) (by omega)) (Nat.le_of_ble_eq_true rfl) ?_
        intro r Ia Ja Ra hq
        obtain ⟨⟨ea, eb, ec⟩, v4029, er, p4028⟩ := hq
        rw [ea, eb, ec, er]
        clear ea eb ec er Ia Ja Ra r
        obtain ⟨st1, st2, st3⟩ := p4028
        refine WQ_isub dX0_heldForWeek_21 (by omega) (by omega) (fun v4030 hv4030 => ?_)
        refine WP_istore_n (ls' := [(0, _), (1, _), (2, _), (3, _)]) dX0_heldForWeek_22 (by decide) rfl ?_
        refine WP_iinc (ls' := [(0, _), (1, _), (2, _), (3, _)]) dX0_heldForWeek_23 rfl (by decide) rfl ?_
        have hv4031 : (i4023 + Int32.ofInt (1)).toInt = i4023.toInt + (1) := ia_n rfl (by omega) (by omega)
        generalize i4023 + Int32.ofInt (1) = v4031 at hv4031 ⊢
        refine WP_goto 4 dX0_heldForWeek_26 rfl ?_
        refine WP_sub (fc rfl (fc rfl (fc rfl (fc rfl fn)))) (ihlp4024 v4030 v4031  ?_ ?_)
        · refine ⟨k + 1, by omega, by omega, ?_⟩
          show _ = hday (efold S 0 (7 * w + k) c0) (S.1 1 ((0 + (7 * w + k)) % 7))
          rw [show (0 + (7 * w + k)) % 7 = k by omega, ← iE, ← h23]
          unfold hday
          rw [← st1]
          omega
        · omega
  refine WP_sub (fc rfl (fc rfl (fc rfl (fc rfl fn)))) (lp4024 _ c v4021  ?_ (Nat.lt_succ_self _))
  · exact ⟨0, by omega, by omega, hc⟩
set_option maxHeartbeats 4000000 in
set_option maxRecDepth 100000 in
theorem ex_neededAhead {g : GG} {I : pI} {J : pJ} {R : pR} (hy : LyX g) (hr : RfX g R) {S : TwS} {dn : Nat} (b : Int32) (d : Int32) (hK : XK g S I) (hD : TBD S) (hb : 0 ≤ b.toInt ∧ b.toInt ≤ 999) (hd : d.toInt = (dn : Int)) (hd7 : dn < 7) : SP g mX0_neededAhead [.ref (ad g 5), .int b, .int d] I J R (fun r I' J' R' => (I' = I ∧ J' = J ∧ R' = R) ∧ ∃ v : Int32, r = some (.int v) ∧ (v.toInt = need b.toInt (S.1 1 dn))) := by
  refine SP_of ⟨by decide, rfl⟩ (Nat.le_of_ble_eq_true rfl) ?_
  refine WQ_sipush (1000) (1000) dX0_neededAhead_0 rfl rfl (fun v4032 hv4032 => ?_)
  refine WP_aload_n dX0_neededAhead_3 rfl ?_
  refine WP_getr dX0_neededAhead_4 fX0_15 rfl (lyx_is hy 5 0 rfl) (rfx hr 5 2 23 (by decide)) ?_
  refine WP_iload_n dX0_neededAhead_7 rfl ?_
  refine WE_ia dX0_neededAhead_8 (lyx_is hy 23 13 rfl) (lyx_n hy 23 7 rfl) (by omega) (by omega) (fun v4033 ev4033 => ?_)
  have h23 : v4033.toInt = S.1 1 dn := by rw [← ev4033, show d.toInt.toNat = dn by omega]; exact hK.1 dn hd7
  have hrb := hD.1.1.1 dn (by omega)
  refine WQ_isub dX0_neededAhead_9 (by omega) (by omega) (fun v4034 hv4034 => ?_)
  refine WP_istore_n (ls' := [(0, _), (1, _), (2, _), (3, _)]) dX0_neededAhead_10 (by decide) rfl ?_
  refine WP_iload_n dX0_neededAhead_11 rfl ?_
  refine WQ_iconst (1) (1) dX0_neededAhead_12 rfl rfl (fun v4035 hv4035 => ?_)
  refine WQ_icmp_ge 21 dX0_neededAhead_13 rfl (fun c4035 => ?_) (fun c4035 => False.elim (by omega))
  refine WP_iload_n dX0_neededAhead_21 rfl ?_
  refine WQ_sipush (1000) (1000) dX0_neededAhead_22 rfl rfl (fun v4037 hv4037 => ?_)
  refine WQ_imulk (1000) dX0_neededAhead_25 hv4037 (by omega) (by omega) (fun v4038 hv4038 => ?_)
  refine WP_iload_n dX0_neededAhead_26 rfl ?_
  refine WQ_iadd dX0_neededAhead_27 (by omega) (by omega) (fun v4039 hv4039 => ?_)
  refine WQ_iconst (1) (1) dX0_neededAhead_28 rfl rfl (fun v4040 hv4040 => ?_)
  refine WQ_isub dX0_neededAhead_29 (by omega) (by omega) (fun v4041 hv4041 => ?_)
  refine WP_iload_n dX0_neededAhead_30 rfl ?_
  refine WQ_idivb dX0_neededAhead_31 (by omega) (by omega) (fun v4042 hv4042 av4042 bv4042 cv4042 => ?_)
  exact WP_iret dX0_neededAhead_32 rfl ⟨⟨rfl, rfl, rfl⟩, v4042, rfl, by
    unfold need
    rw [hv4042]
    congr 1 <;> omega⟩
set_option maxHeartbeats 4000000 in
set_option maxRecDepth 100000 in
theorem ex_nighta {g : GG} {I : pI} {J : pJ} {R : pR} (hy : LyX g) (hr : RfX g R) {S : TwS} (c : Int32) (u : Int32) (d : Int32) (hT : R (ad g 5) 0 = some (ad g 6)) (hS : RTW g 6 S I J) (hB : SBn S) (hK : XK g S I) (hD : TBD S) : SP g mX10_night [.ref (ad g 0), .int c, .int u, .int d] I J R (fun r I' J' R' => (I' = I ∧ J' = J ∧ R' = R) ∧ ∃ v : Int32, r = some (.int v) ∧ (v.toInt = nightS S c.toInt u.toInt d.toInt)) := by
  refine SP_of ⟨by decide, rfl⟩ (Nat.le_of_ble_eq_true rfl) ?_
  have hB2 := hB
  unfold SBn at hB2
  obtain ⟨z0, z1, z2, z3, z4⟩ := hS.1
  obtain ⟨w4043, ew4043⟩ : ∃ w : Int32, I (ad g 6) 2 = w := ⟨_, rfl⟩
  try simp only [ew4043] at z2
  refine WP_iload_n dX10_night_0 rfl ?_
  refine WP_iload_n dX10_night_1 rfl ?_
  refine WP_callS2 dX10_night_2 ⟨⟨⟨by decide, by decide⟩, zX10_isHeld⟩, lX10_180, tX10_isHeld⟩ (ex_isHeld hy hr _ _  ) (Nat.le_of_ble_eq_true rfl) ?_
  intro r Ia Ja Ra hq
  obtain ⟨⟨ea, eb, ec⟩, v4045, er, p4044⟩ := hq
  rw [ea, eb, ec, er]
  clear ea eb ec er Ia Ja Ra r
  refine WQ_if_eq 32 dX10_night_5 rfl (fun c4045 => ?_) (fun c4045 => ?_)
  · refine WQ_bipush (-2) (-2) dX10_night_32 rfl rfl (fun v4047 hv4047 => ?_)
    exact WP_iret dX10_night_34 rfl ⟨⟨rfl, rfl, rfl⟩, v4047, rfl, by
      try simp only [ew4043]
      unfold nightS
      rw [if_neg (by omega)]
      omega⟩
  · refine WP_iload_n dX10_night_8 rfl ?_
    refine WP_callS1 dX10_night_9 ⟨⟨⟨by decide, by decide⟩, zX10_isDay⟩, lX10_156, tX10_isDay⟩ (ex_isDay hy hr _  ) (Nat.le_of_ble_eq_true rfl) ?_
    intro r Ia Ja Ra hq
    obtain ⟨⟨ea, eb, ec⟩, v4049, er, p4048⟩ := hq
    rw [ea, eb, ec, er]
    clear ea eb ec er Ia Ja Ra r
    refine WQ_if_eq 32 dX10_night_12 rfl (fun c4049 => ?_) (fun c4049 => ?_)
    · refine WQ_bipush (-2) (-2) dX10_night_32 rfl rfl (fun v4051 hv4051 => ?_)
      exact WP_iret dX10_night_34 rfl ⟨⟨rfl, rfl, rfl⟩, v4051, rfl, by
        try simp only [ew4043]
        unfold nightS
        rw [if_neg (by omega)]
        omega⟩
    · refine WP_aload_n dX10_night_15 rfl ?_
      refine WP_getr dX10_night_16 fX10_33 rfl (lyx_is hy 0 10 rfl) (rfx hr 0 2 5 (by decide)) ?_
      refine WP_getr dX10_night_19 fX10_102 rfl (lyx_is hy 5 0 rfl) hT ?_
      refine WQ_getim dX10_night_22 fX10_117 rfl (lyx_is hy 6 7 rfl) ew4043 ?_
      refine WQ_if_ne 35 dX10_night_25 rfl (fun c4051 => ?_) (fun c4051 => ?_)
      · refine WP_aload_n dX10_night_35 rfl ?_
        refine WP_getr dX10_night_36 fX10_33 rfl (lyx_is hy 0 10 rfl) (rfx hr 0 2 5 (by decide)) ?_
        refine WP_iload_n dX10_night_39 rfl ?_
        refine WP_iload_n dX10_night_40 rfl ?_
        refine WP_iload_n dX10_night_41 rfl ?_
        refine WP_callV3 (k := 0) dX10_night_42 ⟨⟨⟨by decide, by decide⟩, zX0_coinsBehind⟩, lX10_184, by decide, rfl, vX0_coinsBehind.1, vX0_coinsBehind.2⟩ (lyx_is hy 5 0 rfl) (ex_coinsBehind hy hr _ _ _  (cn := c.toInt.toNat) (un := u.toInt.toNat) (dn := d.toInt.toNat) hK hD (by omega) (by omega) (by omega) (by omega) (by omega) (by omega) (cst_b hD)) (Nat.le_of_ble_eq_true rfl) ?_
        intro r Ia Ja Ra hq
        obtain ⟨⟨ea, eb, ec⟩, v4054, er, p4053⟩ := hq
        rw [ea, eb, ec, er]
        clear ea eb ec er Ia Ja Ra r
        exact WP_iret dX10_night_45 rfl ⟨⟨rfl, rfl, rfl⟩, v4054, rfl, by
          try simp only [ew4043]
          unfold nightS
          rw [if_pos (by omega), p4053, Int.toNat_of_nonneg (by omega), Int.toNat_of_nonneg (by omega), Int.toNat_of_nonneg (by omega)]⟩
      · refine WP_iload_n dX10_night_28 rfl ?_
        refine WQ_if_le 35 dX10_night_29 rfl (fun c4054 => ?_) (fun c4054 => ?_)
        · refine WP_aload_n dX10_night_35 rfl ?_
          refine WP_getr dX10_night_36 fX10_33 rfl (lyx_is hy 0 10 rfl) (rfx hr 0 2 5 (by decide)) ?_
          refine WP_iload_n dX10_night_39 rfl ?_
          refine WP_iload_n dX10_night_40 rfl ?_
          refine WP_iload_n dX10_night_41 rfl ?_
          refine WP_callV3 (k := 0) dX10_night_42 ⟨⟨⟨by decide, by decide⟩, zX0_coinsBehind⟩, lX10_184, by decide, rfl, vX0_coinsBehind.1, vX0_coinsBehind.2⟩ (lyx_is hy 5 0 rfl) (ex_coinsBehind hy hr _ _ _  (cn := c.toInt.toNat) (un := u.toInt.toNat) (dn := d.toInt.toNat) hK hD (by omega) (by omega) (by omega) (by omega) (by omega) (by omega) (cst_b hD)) (Nat.le_of_ble_eq_true rfl) ?_
          intro r Ia Ja Ra hq
          obtain ⟨⟨ea, eb, ec⟩, v4057, er, p4056⟩ := hq
          rw [ea, eb, ec, er]
          clear ea eb ec er Ia Ja Ra r
          exact WP_iret dX10_night_45 rfl ⟨⟨rfl, rfl, rfl⟩, v4057, rfl, by
            try simp only [ew4043]
            unfold nightS
            rw [if_pos (by omega), p4056, Int.toNat_of_nonneg (by omega), Int.toNat_of_nonneg (by omega), Int.toNat_of_nonneg (by omega)]⟩
        · refine WQ_bipush (-2) (-2) dX10_night_32 rfl rfl (fun v4058 hv4058 => ?_)
          exact WP_iret dX10_night_34 rfl ⟨⟨rfl, rfl, rfl⟩, v4058, rfl, by
            try simp only [ew4043]
            unfold nightS
            rw [if_neg (by omega)]
            omega⟩
set_option maxHeartbeats 4000000 in
set_option maxRecDepth 100000 in
theorem ex_nightb {g : GG} {I : pI} {J : pJ} {R : pR} (hy : LyX g) (hr : RfX g R) {S : TwS} (c : Int32) (u : Int32) (d : Int32) (hT : R (ad g 5) 0 = some (ad g 27)) (hS : RTW g 27 S I J) (hB : SBn S) (hK : XK g S I) (hD : TBD S) : SP g mX10_night [.ref (ad g 0), .int c, .int u, .int d] I J R (fun r I' J' R' => (I' = I ∧ J' = J ∧ R' = R) ∧ ∃ v : Int32, r = some (.int v) ∧ (v.toInt = nightS S c.toInt u.toInt d.toInt)) := by
  refine SP_of ⟨by decide, rfl⟩ (Nat.le_of_ble_eq_true rfl) ?_
  have hB2 := hB
  unfold SBn at hB2
  obtain ⟨z0, z1, z2, z3, z4⟩ := hS.1
  obtain ⟨w4059, ew4059⟩ : ∃ w : Int32, I (ad g 27) 2 = w := ⟨_, rfl⟩
  try simp only [ew4059] at z2
  refine WP_iload_n dX10_night_0 rfl ?_
  refine WP_iload_n dX10_night_1 rfl ?_
  refine WP_callS2 dX10_night_2 ⟨⟨⟨by decide, by decide⟩, zX10_isHeld⟩, lX10_180, tX10_isHeld⟩ (ex_isHeld hy hr _ _  ) (Nat.le_of_ble_eq_true rfl) ?_
  intro r Ia Ja Ra hq
  obtain ⟨⟨ea, eb, ec⟩, v4061, er, p4060⟩ := hq
  rw [ea, eb, ec, er]
  clear ea eb ec er Ia Ja Ra r
  refine WQ_if_eq 32 dX10_night_5 rfl (fun c4061 => ?_) (fun c4061 => ?_)
  · refine WQ_bipush (-2) (-2) dX10_night_32 rfl rfl (fun v4063 hv4063 => ?_)
    exact WP_iret dX10_night_34 rfl ⟨⟨rfl, rfl, rfl⟩, v4063, rfl, by
      try simp only [ew4059]
      unfold nightS
      rw [if_neg (by omega)]
      omega⟩
  · refine WP_iload_n dX10_night_8 rfl ?_
    refine WP_callS1 dX10_night_9 ⟨⟨⟨by decide, by decide⟩, zX10_isDay⟩, lX10_156, tX10_isDay⟩ (ex_isDay hy hr _  ) (Nat.le_of_ble_eq_true rfl) ?_
    intro r Ia Ja Ra hq
    obtain ⟨⟨ea, eb, ec⟩, v4065, er, p4064⟩ := hq
    rw [ea, eb, ec, er]
    clear ea eb ec er Ia Ja Ra r
    refine WQ_if_eq 32 dX10_night_12 rfl (fun c4065 => ?_) (fun c4065 => ?_)
    · refine WQ_bipush (-2) (-2) dX10_night_32 rfl rfl (fun v4067 hv4067 => ?_)
      exact WP_iret dX10_night_34 rfl ⟨⟨rfl, rfl, rfl⟩, v4067, rfl, by
        try simp only [ew4059]
        unfold nightS
        rw [if_neg (by omega)]
        omega⟩
    · refine WP_aload_n dX10_night_15 rfl ?_
      refine WP_getr dX10_night_16 fX10_33 rfl (lyx_is hy 0 10 rfl) (rfx hr 0 2 5 (by decide)) ?_
      refine WP_getr dX10_night_19 fX10_102 rfl (lyx_is hy 5 0 rfl) hT ?_
      refine WQ_getim dX10_night_22 fX10_117 rfl (lyx_is hy 27 7 rfl) ew4059 ?_
      refine WQ_if_ne 35 dX10_night_25 rfl (fun c4067 => ?_) (fun c4067 => ?_)
      · refine WP_aload_n dX10_night_35 rfl ?_
        refine WP_getr dX10_night_36 fX10_33 rfl (lyx_is hy 0 10 rfl) (rfx hr 0 2 5 (by decide)) ?_
        refine WP_iload_n dX10_night_39 rfl ?_
        refine WP_iload_n dX10_night_40 rfl ?_
        refine WP_iload_n dX10_night_41 rfl ?_
        refine WP_callV3 (k := 0) dX10_night_42 ⟨⟨⟨by decide, by decide⟩, zX0_coinsBehind⟩, lX10_184, by decide, rfl, vX0_coinsBehind.1, vX0_coinsBehind.2⟩ (lyx_is hy 5 0 rfl) (ex_coinsBehind hy hr _ _ _  (cn := c.toInt.toNat) (un := u.toInt.toNat) (dn := d.toInt.toNat) hK hD (by omega) (by omega) (by omega) (by omega) (by omega) (by omega) (cst_b hD)) (Nat.le_of_ble_eq_true rfl) ?_
        intro r Ia Ja Ra hq
        obtain ⟨⟨ea, eb, ec⟩, v4070, er, p4069⟩ := hq
        rw [ea, eb, ec, er]
        clear ea eb ec er Ia Ja Ra r
        exact WP_iret dX10_night_45 rfl ⟨⟨rfl, rfl, rfl⟩, v4070, rfl, by
          try simp only [ew4059]
          unfold nightS
          rw [if_pos (by omega), p4069, Int.toNat_of_nonneg (by omega), Int.toNat_of_nonneg (by omega), Int.toNat_of_nonneg (by omega)]⟩
      · refine WP_iload_n dX10_night_28 rfl ?_
        refine WQ_if_le 35 dX10_night_29 rfl (fun c4070 => ?_) (fun c4070 => ?_)
        · refine WP_aload_n dX10_night_35 rfl ?_
          refine WP_getr dX10_night_36 fX10_33 rfl (lyx_is hy 0 10 rfl) (rfx hr 0 2 5 (by decide)) ?_
          refine WP_iload_n dX10_night_39 rfl ?_
          refine WP_iload_n dX10_night_40 rfl ?_
          refine WP_iload_n dX10_night_41 rfl ?_
          refine WP_callV3 (k := 0) dX10_night_42 ⟨⟨⟨by decide, by decide⟩, zX0_coinsBehind⟩, lX10_184, by decide, rfl, vX0_coinsBehind.1, vX0_coinsBehind.2⟩ (lyx_is hy 5 0 rfl) (ex_coinsBehind hy hr _ _ _  (cn := c.toInt.toNat) (un := u.toInt.toNat) (dn := d.toInt.toNat) hK hD (by omega) (by omega) (by omega) (by omega) (by omega) (by omega) (cst_b hD)) (Nat.le_of_ble_eq_true rfl) ?_
          intro r Ia Ja Ra hq
          obtain ⟨⟨ea, eb, ec⟩, v4073, er, p4072⟩ := hq
          rw [ea, eb, ec, er]
          clear ea eb ec er Ia Ja Ra r
          exact WP_iret dX10_night_45 rfl ⟨⟨rfl, rfl, rfl⟩, v4073, rfl, by
            try simp only [ew4059]
            unfold nightS
            rw [if_pos (by omega), p4072, Int.toNat_of_nonneg (by omega), Int.toNat_of_nonneg (by omega), Int.toNat_of_nonneg (by omega)]⟩
        · refine WQ_bipush (-2) (-2) dX10_night_32 rfl rfl (fun v4074 hv4074 => ?_)
          exact WP_iret dX10_night_34 rfl ⟨⟨rfl, rfl, rfl⟩, v4074, rfl, by
            try simp only [ew4059]
            unfold nightS
            rw [if_neg (by omega)]
            omega⟩
set_option maxHeartbeats 4000000 in
set_option maxRecDepth 100000 in
theorem ex_lend {g : GG} {I : pI} {J : pJ} {R : pR} (hy : LyX g) (hr : RfX g R) {S : TwS} (c : Int32) (w : Int32) (y : Int32) (k : Int32) (hK : XK g S I) (hD : TBD S) : SP g mX10_lend [.ref (ad g 0), .int c, .int w, .int y, .int k] I J R (fun r I' J' R' => (I' = I ∧ J' = J ∧ R' = R) ∧ ∃ v : Int32, r = some (.int v) ∧ (v.toInt = lendS S c.toInt w.toInt y.toInt k.toInt)) := by
  refine SP_of ⟨by decide, rfl⟩ (Nat.le_of_ble_eq_true rfl) ?_
  refine WP_iload_n dX10_lend_0 rfl ?_
  refine WQ_iconst (0) (0) dX10_lend_1 rfl rfl (fun v4075 hv4075 => ?_)
  refine WQ_sipush (999) (999) dX10_lend_2 rfl rfl (fun v4076 hv4076 => ?_)
  refine WP_callS3 dX10_lend_5 ⟨⟨⟨by decide, by decide⟩, zX10_within⟩, lX10_206, tX10_within⟩ (ex_within hy hr _ _ _  ) (Nat.le_of_ble_eq_true rfl) ?_
  intro r Ia Ja Ra hq
  obtain ⟨⟨ea, eb, ec⟩, v4078, er, p4077⟩ := hq
  rw [ea, eb, ec, er]
  clear ea eb ec er Ia Ja Ra r
  refine WQ_if_eq 32 dX10_lend_8 rfl (fun c4078 => ?_) (fun c4078 => ?_)
  · refine WQ_bipush (-2) (-2) dX10_lend_32 rfl rfl (fun v4080 hv4080 => ?_)
    exact WP_iret dX10_lend_34 rfl ⟨⟨rfl, rfl, rfl⟩, v4080, rfl, by
      unfold lendS
      rw [if_neg (by omega)]
      omega⟩
  · refine WP_iload_n dX10_lend_11 rfl ?_
    refine WQ_iconst (0) (0) dX10_lend_12 rfl rfl (fun v4081 hv4081 => ?_)
    refine WQ_bipush (52) (52) dX10_lend_13 rfl rfl (fun v4082 hv4082 => ?_)
    refine WP_callS3 dX10_lend_15 ⟨⟨⟨by decide, by decide⟩, zX10_within⟩, lX10_206, tX10_within⟩ (ex_within hy hr _ _ _  ) (Nat.le_of_ble_eq_true rfl) ?_
    intro r Ia Ja Ra hq
    obtain ⟨⟨ea, eb, ec⟩, v4084, er, p4083⟩ := hq
    rw [ea, eb, ec, er]
    clear ea eb ec er Ia Ja Ra r
    refine WQ_if_eq 32 dX10_lend_18 rfl (fun c4084 => ?_) (fun c4084 => ?_)
    · refine WQ_bipush (-2) (-2) dX10_lend_32 rfl rfl (fun v4086 hv4086 => ?_)
      exact WP_iret dX10_lend_34 rfl ⟨⟨rfl, rfl, rfl⟩, v4086, rfl, by
        unfold lendS
        rw [if_neg (by omega)]
        omega⟩
    · refine WP_iload_n dX10_lend_21 rfl ?_
      refine WQ_iconst (0) (0) dX10_lend_22 rfl rfl (fun v4087 hv4087 => ?_)
      refine WQ_sipush (1000) (1000) dX10_lend_23 rfl rfl (fun v4088 hv4088 => ?_)
      refine WP_callS3 dX10_lend_26 ⟨⟨⟨by decide, by decide⟩, zX10_within⟩, lX10_206, tX10_within⟩ (ex_within hy hr _ _ _  ) (Nat.le_of_ble_eq_true rfl) ?_
      intro r Ia Ja Ra hq
      obtain ⟨⟨ea, eb, ec⟩, v4090, er, p4089⟩ := hq
      rw [ea, eb, ec, er]
      clear ea eb ec er Ia Ja Ra r
      refine WQ_if_ne 35 dX10_lend_29 rfl (fun c4090 => ?_) (fun c4090 => ?_)
      · refine WP_iload dX10_lend_35 rfl ?_
        refine WQ_if_eq 49 dX10_lend_37 rfl (fun c4091 => ?_) (fun c4091 => ?_)
        · refine WP_iload_n dX10_lend_49 rfl ?_
          refine WP_istore (ls' := [(0, _), (1, _), (2, _), (3, _), (4, _), (5, _)]) dX10_lend_50 (by decide) rfl ?_
          refine WQ_iconst (0) (0) dX10_lend_52 rfl rfl (fun v4093 hv4093 => ?_)
          refine WP_istore (ls' := [(0, _), (1, _), (2, _), (3, _), (4, _), (5, _), (6, _)]) dX10_lend_53 (by decide) rfl ?_
          have lp4096 : ∀ (mz : Nat) (i4094 : Int32) (i4095 : Int32), (∃ j : Nat, i4095.toInt = (j : Int) ∧ (j : Int) ≤ w.toInt ∧ i4094.toInt = (if k.toInt = 0 then lfold y.toInt j c.toInt else efold S 0 (7 * j) c.toInt)) → (54 - i4095.toInt.toNat) < mz → WP g mX10_lend 55 [(0, .ref (ad g 0)), (1, .int c), (2, .int w), (3, .int y), (4, .int k), (5, .int i4094), (6, .int i4095)] [] I J R (fun r I' J' R' => (I' = I ∧ J' = J ∧ R' = R) ∧ ∃ v : Int32, r = some (.int v) ∧ (v.toInt = lendS S c.toInt w.toInt y.toInt k.toInt)) := by
            intro mz
            induction mz with
            | zero =>
              intro i4094 i4095  hvlp4096 hmlp4096
              exact absurd hmlp4096 (Nat.not_lt_zero _)
            | succ mz ihlp4096 =>
              intro i4094 i4095  hvlp4096 hmlp4096
              obtain ⟨j, ij, ijw, iE⟩ := hvlp4096
              have hb1 := lfold_b (y := y.toInt) (c := c.toInt) (by omega) (by omega) j
              have hb2 := efold_b hD 0 (c := c.toInt) (by omega) (7 * j)
              have hb3 : 0 ≤ i4094.toInt ∧ i4094.toInt ≤ 999 := by rw [iE]; split <;> omega
              refine WP_iload dX10_lend_55 rfl ?_
              refine WP_iload_n dX10_lend_57 rfl ?_
              refine WQ_icmp_ge 98 dX10_lend_58 rfl (fun c4096 => ?_) (fun c4096 => ?_)
              · refine WP_iload dX10_lend_98 rfl ?_
                exact WP_iret dX10_lend_100 rfl ⟨⟨rfl, rfl, rfl⟩, i4094, rfl, by
                  unfold lendS
                  rw [if_pos (by omega), iE, show w.toInt.toNat = j by omega]⟩
              · refine WP_iload dX10_lend_61 rfl ?_
                refine WQ_if_ne 81 dX10_lend_63 rfl (fun c4097 => ?_) (fun c4097 => ?_)
                · refine WP_aload_n dX10_lend_81 rfl ?_
                  refine WP_getr dX10_lend_82 fX10_33 rfl (lyx_is hy 0 10 rfl) (rfx hr 0 2 5 (by decide)) ?_
                  refine WP_iload dX10_lend_85 rfl ?_
                  refine WP_callV1 (k := 0) dX10_lend_87 ⟨⟨⟨by decide, by decide⟩, zX0_heldForWeek⟩, lX10_289, by decide, rfl, vX0_heldForWeek.1, vX0_heldForWeek.2⟩ (lyx_is hy 5 0 rfl) (ex_heldForWeek hy hr _  (w := j) (c0 := c.toInt) hK hD (by omega) (by rw [iE, if_neg (by omega)])) (Nat.le_of_ble_eq_true rfl) ?_
                  intro r Ia Ja Ra hq
                  obtain ⟨⟨ea, eb, ec⟩, v4100, er, p4099⟩ := hq
                  rw [ea, eb, ec, er]
                  clear ea eb ec er Ia Ja Ra r
                  refine WP_istore (ls' := [(0, _), (1, _), (2, _), (3, _), (4, _), (5, _), (6, _)]) dX10_lend_90 (by decide) rfl ?_
                  refine WP_iinc (ls' := [(0, _), (1, _), (2, _), (3, _), (4, _), (5, _), (6, _)]) dX10_lend_92 rfl (by decide) rfl ?_
                  have hv4101 : (i4095 + Int32.ofInt (1)).toInt = i4095.toInt + (1) := ia_n rfl (by omega) (by omega)
                  generalize i4095 + Int32.ofInt (1) = v4101 at hv4101 ⊢
                  refine WP_goto 55 dX10_lend_95 rfl ?_
                  refine WP_sub (fc rfl (fc rfl (fc rfl (fc rfl (fc rfl (fc rfl (fc rfl fn))))))) (ihlp4096 v4100 v4101  ?_ ?_)
                  · refine ⟨j + 1, by omega, by omega, ?_⟩
                    rw [if_neg (by omega), show 7 * (j + 1) = 7 * j + 7 by omega]
                    exact p4099
                  · omega
                · refine WP_iload dX10_lend_66 rfl ?_
                  refine WQ_sipush (1000) (1000) dX10_lend_68 rfl rfl (fun v4102 hv4102 => ?_)
                  refine WP_iload_n dX10_lend_71 rfl ?_
                  refine WQ_isub dX10_lend_72 (by omega) (by omega) (fun v4103 hv4103 => ?_)
                  refine WQ_imulb (999) (1000) dX10_lend_73 ⟨by omega, by omega⟩ ⟨by omega, by omega⟩ (by decide) (fun v4104 hv4104 av4104 bv4104 cv4104 => ?_)
                  refine WQ_sipush (1000) (1000) dX10_lend_74 rfl rfl (fun v4105 hv4105 => ?_)
                  refine WQ_idivk (1000) dX10_lend_77 hv4105 (by decide) (by omega) (fun v4106 hv4106 => ?_)
                  refine WP_goto 90 dX10_lend_78 rfl ?_
                  refine WP_istore (ls' := [(0, _), (1, _), (2, _), (3, _), (4, _), (5, _), (6, _)]) dX10_lend_90 (by decide) rfl ?_
                  refine WP_iinc (ls' := [(0, _), (1, _), (2, _), (3, _), (4, _), (5, _), (6, _)]) dX10_lend_92 rfl (by decide) rfl ?_
                  have hv4107 : (i4095 + Int32.ofInt (1)).toInt = i4095.toInt + (1) := ia_n rfl (by omega) (by omega)
                  generalize i4095 + Int32.ofInt (1) = v4107 at hv4107 ⊢
                  refine WP_goto 55 dX10_lend_95 rfl ?_
                  refine WP_sub (fc rfl (fc rfl (fc rfl (fc rfl (fc rfl (fc rfl (fc rfl fn))))))) (ihlp4096 v4106 v4107  ?_ ?_)
                  · refine ⟨j + 1, by omega, by omega, ?_⟩
                    rw [if_pos (by omega)] at iE ⊢
                    rw [lfold, ← iE, hv4106, hv4104, hv4103]
                    congr 2 <;> omega
                  · omega
          refine WP_sub (fc rfl (fc rfl (fc rfl (fc rfl (fc rfl (fc rfl (fc rfl fn))))))) (lp4096 _ c v4093  ?_ (Nat.lt_succ_self _))
          · refine ⟨0, by omega, by omega, ?_⟩
            split
            · rfl
            · rfl
        · refine WP_iload dX10_lend_40 rfl ?_
          refine WQ_iconst (1) (1) dX10_lend_42 rfl rfl (fun v4108 hv4108 => ?_)
          refine WQ_icmp_eq 49 dX10_lend_43 rfl (fun c4108 => ?_) (fun c4108 => ?_)
          · refine WP_iload_n dX10_lend_49 rfl ?_
            refine WP_istore (ls' := [(0, _), (1, _), (2, _), (3, _), (4, _), (5, _)]) dX10_lend_50 (by decide) rfl ?_
            refine WQ_iconst (0) (0) dX10_lend_52 rfl rfl (fun v4110 hv4110 => ?_)
            refine WP_istore (ls' := [(0, _), (1, _), (2, _), (3, _), (4, _), (5, _), (6, _)]) dX10_lend_53 (by decide) rfl ?_
            have lp4113 : ∀ (mz : Nat) (i4111 : Int32) (i4112 : Int32), (∃ j : Nat, i4112.toInt = (j : Int) ∧ (j : Int) ≤ w.toInt ∧ i4111.toInt = (if k.toInt = 0 then lfold y.toInt j c.toInt else efold S 0 (7 * j) c.toInt)) → (54 - i4112.toInt.toNat) < mz → WP g mX10_lend 55 [(0, .ref (ad g 0)), (1, .int c), (2, .int w), (3, .int y), (4, .int k), (5, .int i4111), (6, .int i4112)] [] I J R (fun r I' J' R' => (I' = I ∧ J' = J ∧ R' = R) ∧ ∃ v : Int32, r = some (.int v) ∧ (v.toInt = lendS S c.toInt w.toInt y.toInt k.toInt)) := by
              intro mz
              induction mz with
              | zero =>
                intro i4111 i4112  hvlp4113 hmlp4113
                exact absurd hmlp4113 (Nat.not_lt_zero _)
              | succ mz ihlp4113 =>
                intro i4111 i4112  hvlp4113 hmlp4113
                obtain ⟨j, ij, ijw, iE⟩ := hvlp4113
                have hb1 := lfold_b (y := y.toInt) (c := c.toInt) (by omega) (by omega) j
                have hb2 := efold_b hD 0 (c := c.toInt) (by omega) (7 * j)
                have hb3 : 0 ≤ i4111.toInt ∧ i4111.toInt ≤ 999 := by rw [iE]; split <;> omega
                refine WP_iload dX10_lend_55 rfl ?_
                refine WP_iload_n dX10_lend_57 rfl ?_
                refine WQ_icmp_ge 98 dX10_lend_58 rfl (fun c4113 => ?_) (fun c4113 => ?_)
                · refine WP_iload dX10_lend_98 rfl ?_
                  exact WP_iret dX10_lend_100 rfl ⟨⟨rfl, rfl, rfl⟩, i4111, rfl, by
                    unfold lendS
                    rw [if_pos (by omega), iE, show w.toInt.toNat = j by omega]⟩
                · refine WP_iload dX10_lend_61 rfl ?_
                  refine WQ_if_ne 81 dX10_lend_63 rfl (fun c4114 => ?_) (fun c4114 => ?_)
                  · refine WP_aload_n dX10_lend_81 rfl ?_
                    refine WP_getr dX10_lend_82 fX10_33 rfl (lyx_is hy 0 10 rfl) (rfx hr 0 2 5 (by decide)) ?_
                    refine WP_iload dX10_lend_85 rfl ?_
                    refine WP_callV1 (k := 0) dX10_lend_87 ⟨⟨⟨by decide, by decide⟩, zX0_heldForWeek⟩, lX10_289, by decide, rfl, vX0_heldForWeek.1, vX0_heldForWeek.2⟩ (lyx_is hy 5 0 rfl) (ex_heldForWeek hy hr _  (w := j) (c0 := c.toInt) hK hD (by omega) (by rw [iE, if_neg (by omega)])) (Nat.le_of_ble_eq_true rfl) ?_
                    intro r Ia Ja Ra hq
                    obtain ⟨⟨ea, eb, ec⟩, v4117, er, p4116⟩ := hq
                    rw [ea, eb, ec, er]
                    clear ea eb ec er Ia Ja Ra r
                    refine WP_istore (ls' := [(0, _), (1, _), (2, _), (3, _), (4, _), (5, _), (6, _)]) dX10_lend_90 (by decide) rfl ?_
                    refine WP_iinc (ls' := [(0, _), (1, _), (2, _), (3, _), (4, _), (5, _), (6, _)]) dX10_lend_92 rfl (by decide) rfl ?_
                    have hv4118 : (i4112 + Int32.ofInt (1)).toInt = i4112.toInt + (1) := ia_n rfl (by omega) (by omega)
                    generalize i4112 + Int32.ofInt (1) = v4118 at hv4118 ⊢
                    refine WP_goto 55 dX10_lend_95 rfl ?_
                    refine WP_sub (fc rfl (fc rfl (fc rfl (fc rfl (fc rfl (fc rfl (fc rfl fn))))))) (ihlp4113 v4117 v4118  ?_ ?_)
                    · refine ⟨j + 1, by omega, by omega, ?_⟩
                      rw [if_neg (by omega), show 7 * (j + 1) = 7 * j + 7 by omega]
                      exact p4116
                    · omega
                  · refine WP_iload dX10_lend_66 rfl ?_
                    refine WQ_sipush (1000) (1000) dX10_lend_68 rfl rfl (fun v4119 hv4119 => ?_)
                    refine WP_iload_n dX10_lend_71 rfl ?_
                    refine WQ_isub dX10_lend_72 (by omega) (by omega) (fun v4120 hv4120 => ?_)
                    refine WQ_imulb (999) (1000) dX10_lend_73 ⟨by omega, by omega⟩ ⟨by omega, by omega⟩ (by decide) (fun v4121 hv4121 av4121 bv4121 cv4121 => ?_)
                    refine WQ_sipush (1000) (1000) dX10_lend_74 rfl rfl (fun v4122 hv4122 => ?_)
                    refine WQ_idivk (1000) dX10_lend_77 hv4122 (by decide) (by omega) (fun v4123 hv4123 => ?_)
                    refine WP_goto 90 dX10_lend_78 rfl ?_
                    refine WP_istore (ls' := [(0, _), (1, _), (2, _), (3, _), (4, _), (5, _), (6, _)]) dX10_lend_90 (by decide) rfl ?_
                    refine WP_iinc (ls' := [(0, _), (1, _), (2, _), (3, _), (4, _), (5, _), (6, _)]) dX10_lend_92 rfl (by decide) rfl ?_
                    have hv4124 : (i4112 + Int32.ofInt (1)).toInt = i4112.toInt + (1) := ia_n rfl (by omega) (by omega)
                    generalize i4112 + Int32.ofInt (1) = v4124 at hv4124 ⊢
                    refine WP_goto 55 dX10_lend_95 rfl ?_
                    refine WP_sub (fc rfl (fc rfl (fc rfl (fc rfl (fc rfl (fc rfl (fc rfl fn))))))) (ihlp4113 v4123 v4124  ?_ ?_)
                    · refine ⟨j + 1, by omega, by omega, ?_⟩
                      rw [if_pos (by omega)] at iE ⊢
                      rw [lfold, ← iE, hv4123, hv4121, hv4120]
                      congr 2 <;> omega
                    · omega
            refine WP_sub (fc rfl (fc rfl (fc rfl (fc rfl (fc rfl (fc rfl (fc rfl fn))))))) (lp4113 _ c v4110  ?_ (Nat.lt_succ_self _))
            · refine ⟨0, by omega, by omega, ?_⟩
              split
              · rfl
              · rfl
          · refine WQ_bipush (-2) (-2) dX10_lend_46 rfl rfl (fun v4125 hv4125 => ?_)
            exact WP_iret dX10_lend_48 rfl ⟨⟨rfl, rfl, rfl⟩, v4125, rfl, by
              unfold lendS
              rw [if_neg (by omega)]
              omega⟩
      · refine WQ_bipush (-2) (-2) dX10_lend_32 rfl rfl (fun v4126 hv4126 => ?_)
        exact WP_iret dX10_lend_34 rfl ⟨⟨rfl, rfl, rfl⟩, v4126, rfl, by
          unfold lendS
          rw [if_neg (by omega)]
          omega⟩
set_option maxHeartbeats 4000000 in
set_option maxRecDepth 100000 in
theorem ex_early {g : GG} {I : pI} {J : pJ} {R : pR} (hy : LyX g) (hr : RfX g R) {S : TwS} (c : Int32) (k : Int32) (d : Int32) (hK : XK g S I) (hD : TBD S) : SP g mX10_early [.ref (ad g 0), .int c, .int k, .int d] I J R (fun r I' J' R' => (I' = I ∧ J' = J ∧ R' = R) ∧ ∃ v : Int32, r = some (.int v) ∧ (v.toInt = earlyS S c.toInt k.toInt d.toInt)) := by
  refine SP_of ⟨by decide, rfl⟩ (Nat.le_of_ble_eq_true rfl) ?_
  refine WP_iload_n dX10_early_0 rfl ?_
  refine WQ_iconst (0) (0) dX10_early_1 rfl rfl (fun v4127 hv4127 => ?_)
  refine WQ_sipush (999) (999) dX10_early_2 rfl rfl (fun v4128 hv4128 => ?_)
  refine WP_callS3 dX10_early_5 ⟨⟨⟨by decide, by decide⟩, zX10_within⟩, lX10_206, tX10_within⟩ (ex_within hy hr _ _ _  ) (Nat.le_of_ble_eq_true rfl) ?_
  intro r Ia Ja Ra hq
  obtain ⟨⟨ea, eb, ec⟩, v4130, er, p4129⟩ := hq
  rw [ea, eb, ec, er]
  clear ea eb ec er Ia Ja Ra r
  refine WQ_if_eq 28 dX10_early_8 rfl (fun c4130 => ?_) (fun c4130 => ?_)
  · refine WQ_bipush (-2) (-2) dX10_early_28 rfl rfl (fun v4132 hv4132 => ?_)
    exact WP_iret dX10_early_30 rfl ⟨⟨rfl, rfl, rfl⟩, v4132, rfl, by
      unfold earlyS
      rw [if_neg (by omega)]
      omega⟩
  · refine WP_iload_n dX10_early_11 rfl ?_
    refine WQ_iconst (0) (0) dX10_early_12 rfl rfl (fun v4133 hv4133 => ?_)
    refine WQ_bipush (60) (60) dX10_early_13 rfl rfl (fun v4134 hv4134 => ?_)
    refine WP_callS3 dX10_early_15 ⟨⟨⟨by decide, by decide⟩, zX10_within⟩, lX10_206, tX10_within⟩ (ex_within hy hr _ _ _  ) (Nat.le_of_ble_eq_true rfl) ?_
    intro r Ia Ja Ra hq
    obtain ⟨⟨ea, eb, ec⟩, v4136, er, p4135⟩ := hq
    rw [ea, eb, ec, er]
    clear ea eb ec er Ia Ja Ra r
    refine WQ_if_eq 28 dX10_early_18 rfl (fun c4136 => ?_) (fun c4136 => ?_)
    · refine WQ_bipush (-2) (-2) dX10_early_28 rfl rfl (fun v4138 hv4138 => ?_)
      exact WP_iret dX10_early_30 rfl ⟨⟨rfl, rfl, rfl⟩, v4138, rfl, by
        unfold earlyS
        rw [if_neg (by omega)]
        omega⟩
    · refine WP_iload_n dX10_early_21 rfl ?_
      refine WP_callS1 dX10_early_22 ⟨⟨⟨by decide, by decide⟩, zX10_isDay⟩, lX10_156, tX10_isDay⟩ (ex_isDay hy hr _  ) (Nat.le_of_ble_eq_true rfl) ?_
      intro r Ia Ja Ra hq
      obtain ⟨⟨ea, eb, ec⟩, v4140, er, p4139⟩ := hq
      rw [ea, eb, ec, er]
      clear ea eb ec er Ia Ja Ra r
      refine WQ_if_ne 31 dX10_early_25 rfl (fun c4140 => ?_) (fun c4140 => ?_)
      · refine WP_iload_n dX10_early_31 rfl ?_
        refine WP_istore (ls' := [(0, _), (1, _), (2, _), (3, _), (4, _)]) dX10_early_32 (by decide) rfl ?_
        refine WP_iload_n dX10_early_34 rfl ?_
        refine WQ_iconst (1) (1) dX10_early_35 rfl rfl (fun v4142 hv4142 => ?_)
        refine WQ_isub dX10_early_36 (by omega) (by omega) (fun v4143 hv4143 => ?_)
        refine WP_istore (ls' := [(0, _), (1, _), (2, _), (3, _), (4, _), (5, _)]) dX10_early_37 (by decide) rfl ?_
        have lp4146 : ∀ (mz : Nat) (i4144 : Int32) (i4145 : Int32), (∃ f : Nat, f ≤ k.toInt.toNat ∧ i4145.toInt = k.toInt - 1 - (f : Int) ∧ i4144.toInt = eneed S d.toInt.toNat c.toInt (k.toInt.toNat - f) f ∧ i4144.toInt ≤ 999) → (i4145.toInt + 1).toNat < mz → WP g mX10_early 39 [(0, .ref (ad g 0)), (1, .int c), (2, .int k), (3, .int d), (4, .int i4144), (5, .int i4145)] [] I J R (fun r I' J' R' => (I' = I ∧ J' = J ∧ R' = R) ∧ ∃ v : Int32, r = some (.int v) ∧ (v.toInt = earlyS S c.toInt k.toInt d.toInt)) := by
          intro mz
          induction mz with
          | zero =>
            intro i4144 i4145  hvlp4146 hmlp4146
            exact absurd hmlp4146 (Nat.not_lt_zero _)
          | succ mz ihlp4146 =>
            intro i4144 i4145  hvlp4146 hmlp4146
            obtain ⟨f, ifk, i5, iE, i9⟩ := hvlp4146
            have hgb := eneed_b hD d.toInt.toNat (c := c.toInt) (by omega) f (k.toInt.toNat - f)
            refine WP_iload dX10_early_39 rfl ?_
            refine WQ_if_lt 78 dX10_early_41 rfl (fun c4146 => ?_) (fun c4146 => ?_)
            · refine WP_iload dX10_early_78 rfl ?_
              exact WP_iret dX10_early_80 rfl ⟨⟨rfl, rfl, rfl⟩, i4144, rfl, by
                obtain rfl : f = k.toInt.toNat := by omega
                rw [Nat.sub_self] at iE hgb
                unfold earlyS
                rw [if_pos (by omega), earlyL_eq hD _ _ (by omega) 1000 0 (by omega), if_pos (by omega)]
                exact iE⟩
            · refine WP_aload_n dX10_early_44 rfl ?_
              refine WP_getr dX10_early_45 fX10_33 rfl (lyx_is hy 0 10 rfl) (rfx hr 0 2 5 (by decide)) ?_
              refine WP_iload dX10_early_48 rfl ?_
              refine WP_iload_n dX10_early_50 rfl ?_
              refine WP_iload dX10_early_51 rfl ?_
              refine WQ_iadd dX10_early_53 (by omega) (by omega) (fun v4148 hv4148 => ?_)
              refine WQ_bipush (7) (7) dX10_early_54 rfl rfl (fun v4149 hv4149 => ?_)
              refine WQ_iremk (7) dX10_early_56 hv4149 (by decide) (by omega) (fun v4150 hv4150 => ?_)
              refine WP_callV2 (k := 0) dX10_early_57 ⟨⟨⟨by decide, by decide⟩, zX0_neededAhead⟩, lX10_293, by decide, rfl, vX0_neededAhead.1, vX0_neededAhead.2⟩ (lyx_is hy 5 0 rfl) (ex_neededAhead hy hr _ _  (dn := (d.toInt.toNat + (k.toInt.toNat - (f + 1))) % 7) hK hD (by omega) (by omega) (by omega)) (Nat.le_of_ble_eq_true rfl) ?_
              intro r Ia Ja Ra hq
              obtain ⟨⟨ea, eb, ec⟩, v4152, er, p4151⟩ := hq
              rw [ea, eb, ec, er]
              clear ea eb ec er Ia Ja Ra r
              have hstep : v4152.toInt = eneed S d.toInt.toNat c.toInt (k.toInt.toNat - (f + 1)) (f + 1) := by
                rw [eneed, show k.toInt.toNat - (f + 1) + 1 = k.toInt.toNat - f by omega, ← iE]
                exact p4151
              refine WP_istore (ls' := [(0, _), (1, _), (2, _), (3, _), (4, _), (5, _)]) dX10_early_60 (by decide) rfl ?_
              refine WP_iload dX10_early_62 rfl ?_
              refine WQ_sipush (999) (999) dX10_early_64 rfl rfl (fun v4153 hv4153 => ?_)
              refine WQ_icmp_le 72 dX10_early_67 rfl (fun c4153 => ?_) (fun c4153 => ?_)
              · refine WP_iinc (ls' := [(0, _), (1, _), (2, _), (3, _), (4, _), (5, _)]) dX10_early_72 rfl (by decide) rfl ?_
                have hv4155 : (i4145 + Int32.ofInt (-1)).toInt = i4145.toInt + (-1) := ia_n rfl (by omega) (by omega)
                generalize i4145 + Int32.ofInt (-1) = v4155 at hv4155 ⊢
                refine WP_goto 39 dX10_early_75 rfl ?_
                refine WP_sub (fc rfl (fc rfl (fc rfl (fc rfl (fc rfl (fc rfl fn)))))) (ihlp4146 v4152 v4155  ?_ ?_)
                · refine ⟨f + 1, by omega, by omega, ?_, by omega⟩
                  exact hstep
                · omega
              · refine WQ_iconst (-1) (-1) dX10_early_70 rfl rfl (fun v4156 hv4156 => ?_)
                exact WP_iret dX10_early_71 rfl ⟨⟨rfl, rfl, rfl⟩, v4156, rfl, by
                  have hlow : 999 < eneed S d.toInt.toNat c.toInt 0 k.toInt.toNat := by
                    have hmono := eneed_up hD d.toInt.toNat (c := c.toInt) (by omega) (k.toInt.toNat - (f + 1)) (f + 1)
                    rw [show k.toInt.toNat - (f + 1) + (f + 1) = k.toInt.toNat by omega] at hmono
                    omega
                  unfold earlyS
                  rw [if_pos (by omega), earlyL_eq hD _ _ (by omega) 1000 0 (by omega), if_neg (by omega)]
                  omega⟩
        refine WP_sub (fc rfl (fc rfl (fc rfl (fc rfl (fc rfl (fc rfl fn)))))) (lp4146 _ c v4143  ?_ (Nat.lt_succ_self _))
        · exact ⟨0, by omega, by omega, rfl, by omega⟩
      · refine WQ_bipush (-2) (-2) dX10_early_28 rfl rfl (fun v4157 hv4157 => ?_)
        exact WP_iret dX10_early_30 rfl ⟨⟨rfl, rfl, rfl⟩, v4157, rfl, by
          unfold earlyS
          rw [if_neg (by omega)]
          omega⟩
theorem ax_lend {g : GG} {I : pI} {J : pJ} {R : pR} (hy : LyX g) (hr : RfX g R) {S : TwS} (c w y k : Int32) (hK : XK g S I) (hD : TBD S) : SP g mX10_lend [.ref (ad g 0), .int c, .int w, .int y, .int k] I J R (fun r _ _ _ => ∃ v : Int32, r = some (.int v) ∧ v.toInt = lendS S c.toInt w.toInt y.toInt k.toInt) := SP_wk (ex_lend hy hr c w y k hK hD) (fun r I9 J9 R9 q => q.2)
theorem ax_early {g : GG} {I : pI} {J : pJ} {R : pR} (hy : LyX g) (hr : RfX g R) {S : TwS} (c k d : Int32) (hK : XK g S I) (hD : TBD S) : SP g mX10_early [.ref (ad g 0), .int c, .int k, .int d] I J R (fun r _ _ _ => ∃ v : Int32, r = some (.int v) ∧ v.toInt = earlyS S c.toInt k.toInt d.toInt) := SP_wk (ex_early hy hr c k d hK hD) (fun r I9 J9 R9 q => q.2)
theorem ax_nighta {g : GG} {I : pI} {J : pJ} {R : pR} (hy : LyX g) (hr : RfX g R) {S : TwS} (c u d : Int32) (hT : R (ad g 5) 0 = some (ad g 6)) (hS : RTW g 6 S I J) (hB : SBn S) (hK : XK g S I) (hD : TBD S) : SP g mX10_night [.ref (ad g 0), .int c, .int u, .int d] I J R (fun r _ _ _ => ∃ v : Int32, r = some (.int v) ∧ v.toInt = nightS S c.toInt u.toInt d.toInt) := SP_wk (ex_nighta hy hr c u d hT hS hB hK hD) (fun r I9 J9 R9 q => q.2)
theorem ax_nightb {g : GG} {I : pI} {J : pJ} {R : pR} (hy : LyX g) (hr : RfX g R) {S : TwS} (c u d : Int32) (hT : R (ad g 5) 0 = some (ad g 27)) (hS : RTW g 27 S I J) (hB : SBn S) (hK : XK g S I) (hD : TBD S) : SP g mX10_night [.ref (ad g 0), .int c, .int u, .int d] I J R (fun r _ _ _ => ∃ v : Int32, r = some (.int v) ∧ v.toInt = nightS S c.toInt u.toInt d.toInt) := SP_wk (ex_nightb hy hr c u d hT hS hB hK hD) (fun r I9 J9 R9 q => q.2)
