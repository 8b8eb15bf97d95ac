theorem WE_zs {g : GG} {d : MD} {pc : Nat} {ls : List (Nat × Value)} {st : List Value} {I : pI} {J : pJ} {R : pR} {Q : Post} {a n : Nat} {i x : Int32} (h : decode (md_c d) pc = .ok (.bastore, 1)) (ha : g_is g a 15) (hn : g_n g a = n) (h0 : 0 ≤ i.toInt) (h1 : i.toInt < n) (kk : ∀ (I2 : pI), I2 = pp I a i.toInt.toNat (vp_nar .boolean x) → WP g d (pc + 1) ls st I2 J R Q) : WP g d pc ls (.int x :: .int i :: .ref a :: st) I J R Q := WP_zast h ha (by rw [hn]; exact vin h0 h1) (by rw [cln h0]; exact kk _ rfl)
theorem narz {x : Int32} (h : x.toInt = 0) : (vp_nar .boolean x).toInt = 0 := by
  obtain rfl : x = 0 := (eq32 x 0).mpr h
  rfl
/-- the town at hand of the reference -/
def tsT : List (Nat × Nat × Nat) := [(8, 2, 1), (9, 3, 1), (10, 4, 1), (11, 5, 1), (20, 6, 7), (24, 7, 7), (25, 8, 7), (26, 9, 7)]
def ttT : List (Nat × Nat × Nat) := [(12, 10, 1), (13, 11, 1), (21, 12, 7), (23, 13, 7)]
def RTT (g : GG) (S : TS) (I : pI) (J : pJ) : Prop :=
  ((I (ad g 0) 10).toInt = S.1 0 1 ∧ (I (ad g 0) 11).toInt = S.1 0 2 ∧ (I (ad g 0) 12).toInt = S.1 0 0 ∧ (I (ad g 0) 13).toInt = S.1 0 3 ∧ (I (ad g 0) 14).toInt = S.1 0 4) ∧
  (∀ q, q < 7 → (I (ad g 6) q).toInt = S.1 1 q) ∧
  (∀ e ∈ tsT, ∀ q : Nat, (q : Int) < (e.2.2 : Int) * S.1 0 1 → (I (ad g e.1) q).toInt = S.1 e.2.1 q) ∧
  (∀ e ∈ ttT, ∀ q : Nat, (q : Int) < (e.2.2 : Int) * S.1 0 2 → (I (ad g e.1) q).toInt = S.1 e.2.1 q) ∧ NMT g S J
def NW0 (S : TS) (q : Nat) : Int := if q < 28 ∨ 32 ≤ q then (if (q : Int) < S.1 0 1 then S.1 4 q else 0) else 1
/-- all that begins anew with a town -/
def STM (g : GG) (S : TS) (I : pI) (J : pJ) : Prop := (∀ q : Nat, (q : Int) < 7 * S.1 0 2 → (I (ad g 22) q).toInt = S.1 12 q) ∧ (∀ q, q < 35 → (I (ad g 38) q).toInt = NW0 S q) ∧ (J (ad g 0) 61).toInt = 0 ∧ (∀ q, q < 3 → (I (ad g 44) q).toInt = 0) ∧ (∀ q, q < 28 → (I (ad g 37) q).toInt = 0) ∧ (∀ q, q < 4 → (I (ad g 46) q).toInt = 0 ∧ (I (ad g 47) q).toInt = 0) ∧ (I (ad g 0) 68).toInt = -1
set_option maxHeartbeats 4000000 in
set_option maxRecDepth 100000 in
theorem em_putFour {g : GG} {I : pI} {J : pJ} {R : pR} (hy : Ly g) (hr : Rf g R) {n : Nat} (four : Int32) (h1 : (I (ad g 0) 1).toInt = (n : Int)) (hn : n + 4 ≤ 900) : SP g mX11_putFour [.ref (ad g 0), .int four] I J R (fun r I' J' R' => R' = R ∧ FC g [0, 1] I I' ∧ FC g [] J J' ∧ FQ g [1] I I' ∧ r = none ∧ ((I' (ad g 0) 1).toInt = (n + 4 : Nat) ∧ I' (ad g 1) = PUT (I (ad g 1)) n four 4)) := by
  refine SP_of ⟨by decide, rfl⟩ (Nat.le_of_ble_eq_true rfl) ?_
  have fI0 : FC g [0, 1] I I := FC_rf
  have fJ0 : FC g [] J J := FC_rf
  have fQ0 : FQ g [1] I I := FQ_rf
  obtain ⟨w3020, ew3020⟩ : ∃ w : Int32, I (ad g 0) 1 = w := ⟨_, rfl⟩
  try simp only [ew3020] at h1
  refine WQ_bipush (24) (24) dX11_putFour_0 rfl rfl (fun v3021 hv3021 => ?_)
  refine WP_istore_n (ls' := [(0, _), (1, _), (2, _)]) dX11_putFour_2 (by decide) rfl ?_
  have lp3026 : ∀ (mz : Nat) (i3022 : Int32) (I3023 : pI), FC g [0, 1] I I3023 → FQ g [1] I I3023 → (∃ k : Nat, k ≤ 4 ∧ i3022.toInt = 24 - 8 * (k : Int) ∧ (I3023 (ad g 0) 1).toInt = (n : Int) + k ∧ I3023 (ad g 1) = PUT (I (ad g 1)) n four k) → (i3022.toInt + 9).toNat < mz → WP g mX11_putFour 3 [(0, .ref (ad g 0)), (1, .int four), (2, .int i3022)] [] I3023 J R (fun r I' J' R' => R' = R ∧ FC g [0, 1] I I' ∧ FC g [] J J' ∧ FQ g [1] I I' ∧ r = none ∧ ((I' (ad g 0) 1).toInt = (n + 4 : Nat) ∧ I' (ad g 1) = PUT (I (ad g 1)) n four 4)) := by
    intro mz
    induction mz with
    | zero =>
      intro i3022 I3023 fI3024 fQ3025 hvlp3026 hmlp3026
      exact absurd hmlp3026 (Nat.not_lt_zero _)
    | succ mz ihlp3026 =>
      intro i3022 I3023 fI3024 fQ3025 hvlp3026 hmlp3026
      obtain ⟨w3027, ew3027⟩ : ∃ w : Int32, I3023 (ad g 0) 1 = w := ⟨_, rfl⟩
      try simp only [ew3027, ew3020] at hvlp3026 hmlp3026
      obtain ⟨k, ik, i2, i1, iP⟩ := hvlp3026
      refine WP_iload_n dX11_putFour_3 rfl ?_
      refine WQ_if_lt 36 dX11_putFour_4 rfl (fun c3027 => ?_) (fun c3027 => ?_)
      · exact WP_vret dX11_putFour_36 rfl ⟨rfl, fI3024, fJ0, fQ3025, rfl, by
          try simp only [ew3027, ew3020]
          obtain rfl : k = 4 := by omega
          exact ⟨by omega, iP⟩⟩
      · refine WP_aload_n dX11_putFour_7 rfl ?_
        refine WP_getr dX11_putFour_8 fX11_16 rfl (ly_is hy 0 11 rfl) (rf hr 0 0 1 (by decide)) ?_
        refine WP_aload_n dX11_putFour_11 rfl ?_
        refine WQ_getim dX11_putFour_12 fX11_75 rfl (ly_is hy 0 11 rfl) ew3027 ?_
        refine WP_iload_n dX11_putFour_15 rfl ?_
        refine WP_iload_n dX11_putFour_16 rfl ?_
        refine WP_ishr dX11_putFour_17 ?_
        obtain ⟨v3029, xv3029⟩ : ∃ v : Int32, v = four >>> (i3022 &&& 31) := ⟨_, rfl⟩
        rw [← xv3029]
        refine WP_i2b dX11_putFour_18 ?_
        obtain ⟨v3030, xv3030⟩ : ∃ v : Int32, v = v3029.toInt8.toInt32 := ⟨_, rfl⟩
        rw [← xv3030]
        refine WE_bs dX11_putFour_19 (ly_is hy 1 12 rfl) (ly_n hy 1 900 rfl) (by omega) (by omega) (fun I3031 eI3031 => ?_)
        have e3032 : I3031 (ad g 0) 1 = w3027 := by rw [eI3031, pp_ne _ _ (Or.inl (ly_ne hy (by decide) (by decide) (by decide)))]; exact ew3027
        have fI3033 : FC g [0, 1] I I3031 := by rw [eI3031]; exact FC_pp fI3024 (by decide)
        have fQ3034 : FQ g [1] I I3031 := by rw [eI3031]; exact FQ_ppn (ly_ne hy (by decide) (by decide) (by decide)) fQ3025
        refine WP_aload_n dX11_putFour_20 rfl ?_
        refine WP_dup dX11_putFour_21 rfl ?_
        refine WQ_getim dX11_putFour_22 fX11_75 rfl (ly_is hy 0 11 rfl) e3032 ?_
        refine WQ_iconst (1) (1) dX11_putFour_25 rfl rfl (fun v3035 hv3035 => ?_)
        refine WQ_iadd dX11_putFour_26 (by omega) (by omega) (fun v3036 hv3036 => ?_)
        refine WQ_puti dX11_putFour_27 fX11_75 rfl rfl (ly_is hy 0 11 rfl) (fun I3037 eI3037 => ?_)
        have e3038 : I3037 (ad g 0) 1 = v3036 := by rw [eI3037, pp_self]
        have fI3039 : FC g [0, 1] I I3037 := by rw [eI3037]; exact FC_pp fI3033 (by decide)
        have fQ3040 : FQ g [1] I I3037 := by rw [eI3037]; exact FQ_pp0 fQ3034 (by decide)
        refine WP_iinc (ls' := [(0, _), (1, _), (2, _)]) dX11_putFour_30 rfl (by decide) rfl ?_
        have hv3041 : (i3022 + Int32.ofInt (-8)).toInt = i3022.toInt + (-8) := ia_n rfl (by omega) (by omega)
        generalize i3022 + Int32.ofInt (-8) = v3041 at hv3041 ⊢
        refine WP_goto 3 dX11_putFour_33 rfl ?_
        refine WP_sub (fc rfl (fc rfl (fc rfl fn))) (ihlp3026 v3041 I3037 fI3039 fQ3040 ?_ ?_)
        · try simp only [e3038, ew3020]
          refine ⟨k + 1, by omega, by omega, by omega, ?_⟩
          rw [eI3037, pp_off _ _ (ly_ne hy (by decide) (by decide) (by decide)), eI3031, show w3027.toInt.toNat = n + k by omega, pp_fun, iP]
          exact PUT_s (by4_of (by omega) (by omega) xv3029 xv3030)
        · try simp only [e3038, ew3020]
          omega
  refine WP_sub (fc rfl (fc rfl (fc rfl fn))) (lp3026 _ v3021 I fI0 fQ0 ?_ (Nat.lt_succ_self _))
  · try simp only [ew3020]
    exact ⟨0, by omega, by omega, by omega, PUT_0.symm⟩
set_option maxHeartbeats 4000000 in
set_option maxRecDepth 100000 in
theorem em_feed {g : GG} {I : pI} {J : pJ} {R : pR} (hy : Ly g) (hr : Rf g R) {n : Nat} (a : Int32) (b : Int32) (c : Int32) (d : Int32) (e : Int32) (h1 : (I (ad g 0) 1).toInt = (n : Int)) (hn : n ≤ 900) : SP g mX11_feed [.ref (ad g 0), .int a, .int b, .int c, .int d, .int e] I J R (fun r I' J' R' => R' = R ∧ FC g [0, 1] I I' ∧ FC g [] J J' ∧ FQ g [1] I I' ∧ ∃ v : Int32, r = some (.int v) ∧ ((880 < n ∧ v.toInt = -3 ∧ I' (ad g 1) = I (ad g 1)) ∨ (n ≤ 880 ∧ v.toInt = (n : Int) + 20 ∧ I' (ad g 1) = PUT5 (I (ad g 1)) n a b c d e))) := by
  refine SP_of ⟨by decide, rfl⟩ (Nat.le_of_ble_eq_true rfl) ?_
  have fI0 : FC g [0, 1] I I := FC_rf
  have fJ0 : FC g [] J J := FC_rf
  have fQ0 : FQ g [1] I I := FQ_rf
  have h1x := h1
  obtain ⟨w3042, ew3042⟩ : ∃ w : Int32, I (ad g 0) 1 = w := ⟨_, rfl⟩
  try simp only [ew3042] at h1
  refine WP_aload_n dX11_feed_0 rfl ?_
  refine WQ_getim dX11_feed_1 fX11_75 rfl (ly_is hy 0 11 rfl) ew3042 ?_
  refine WQ_bipush (20) (20) dX11_feed_4 rfl rfl (fun v3043 hv3043 => ?_)
  refine WQ_iadd dX11_feed_6 (by omega) (by omega) (fun v3044 hv3044 => ?_)
  refine WQ_sipush (900) (900) dX11_feed_7 rfl rfl (fun v3045 hv3045 => ?_)
  refine WQ_icmp_le 16 dX11_feed_10 rfl (fun c3045 => ?_) (fun c3045 => ?_)
  · refine WP_aload_n dX11_feed_16 rfl ?_
    refine WP_iload_n dX11_feed_17 rfl ?_
    refine WP_callV1 (k := 11) dX11_feed_18 ⟨⟨⟨by decide, by decide⟩, zX11_putFour⟩, lX11_319, by decide, rfl, vX11_putFour.1, vX11_putFour.2⟩ (ly_is hy 0 11 rfl) (em_putFour hy hr _  (n := n) h1x (by omega)) (Nat.le_of_ble_eq_true rfl) ?_
    intro r I3048 J3049 Ra hq
    obtain ⟨ec, g3050, g3051, g3052, er, p3047⟩ := hq
    rw [ec, er]
    clear ec er Ra r
    have fI3053 : FC g [0, 1] I I3048 := FC_tr fI0 (FC_mono g3050 (by decide))
    have fJ3054 : FC g [] J J3049 := FC_tr fJ0 (FC_mono g3051 (by decide))
    have fQ3055 : FQ g [1] I I3048 := FQ_tr fQ0 (FQ_mono g3052 (by decide))
    obtain ⟨w3056, ew3056⟩ : ∃ w : Int32, I3048 (ad g 0) 1 = w := ⟨_, rfl⟩
    try simp only [ew3056, ew3042] at p3047
    obtain ⟨a1, b1⟩ := p3047
    refine WP_aload_n dX11_feed_21 rfl ?_
    refine WP_iload_n dX11_feed_22 rfl ?_
    refine WP_callV1 (k := 11) dX11_feed_23 ⟨⟨⟨by decide, by decide⟩, zX11_putFour⟩, lX11_319, by decide, rfl, vX11_putFour.1, vX11_putFour.2⟩ (ly_is hy 0 11 rfl) (em_putFour hy hr _  (n := n + 4) a1 (by omega)) (Nat.le_of_ble_eq_true rfl) ?_
    intro r I3058 J3059 Ra hq
    obtain ⟨ec, g3060, g3061, g3062, er, p3057⟩ := hq
    rw [ec, er]
    clear ec er Ra r
    have fI3063 : FC g [0, 1] I I3058 := FC_tr fI3053 (FC_mono g3060 (by decide))
    have fJ3064 : FC g [] J J3059 := FC_tr fJ3054 (FC_mono g3061 (by decide))
    have fQ3065 : FQ g [1] I I3058 := FQ_tr fQ3055 (FQ_mono g3062 (by decide))
    obtain ⟨w3066, ew3066⟩ : ∃ w : Int32, I3058 (ad g 0) 1 = w := ⟨_, rfl⟩
    try simp only [ew3066, ew3042] at p3057
    obtain ⟨a2, b2⟩ := p3057
    refine WP_aload_n dX11_feed_26 rfl ?_
    refine WP_iload_n dX11_feed_27 rfl ?_
    refine WP_callV1 (k := 11) dX11_feed_28 ⟨⟨⟨by decide, by decide⟩, zX11_putFour⟩, lX11_319, by decide, rfl, vX11_putFour.1, vX11_putFour.2⟩ (ly_is hy 0 11 rfl) (em_putFour hy hr _  (n := n + 4 + 4) a2 (by omega)) (Nat.le_of_ble_eq_true rfl) ?_
    intro r I3068 J3069 Ra hq
    obtain ⟨ec, g3070, g3071, g3072, er, p3067⟩ := hq
    rw [ec, er]
    clear ec er Ra r
    have fI3073 : FC g [0, 1] I I3068 := FC_tr fI3063 (FC_mono g3070 (by decide))
    have fJ3074 : FC g [] J J3069 := FC_tr fJ3064 (FC_mono g3071 (by decide))
    have fQ3075 : FQ g [1] I I3068 := FQ_tr fQ3065 (FQ_mono g3072 (by decide))
    obtain ⟨w3076, ew3076⟩ : ∃ w : Int32, I3068 (ad g 0) 1 = w := ⟨_, rfl⟩
    try simp only [ew3076, ew3042] at p3067
    obtain ⟨a3, b3⟩ := p3067
    refine WP_aload_n dX11_feed_31 rfl ?_
    refine WP_iload dX11_feed_32 rfl ?_
    refine WP_callV1 (k := 11) dX11_feed_34 ⟨⟨⟨by decide, by decide⟩, zX11_putFour⟩, lX11_319, by decide, rfl, vX11_putFour.1, vX11_putFour.2⟩ (ly_is hy 0 11 rfl) (em_putFour hy hr _  (n := n + 4 + 4 + 4) a3 (by omega)) (Nat.le_of_ble_eq_true rfl) ?_
    intro r I3078 J3079 Ra hq
    obtain ⟨ec, g3080, g3081, g3082, er, p3077⟩ := hq
    rw [ec, er]
    clear ec er Ra r
    have fI3083 : FC g [0, 1] I I3078 := FC_tr fI3073 (FC_mono g3080 (by decide))
    have fJ3084 : FC g [] J J3079 := FC_tr fJ3074 (FC_mono g3081 (by decide))
    have fQ3085 : FQ g [1] I I3078 := FQ_tr fQ3075 (FQ_mono g3082 (by decide))
    obtain ⟨w3086, ew3086⟩ : ∃ w : Int32, I3078 (ad g 0) 1 = w := ⟨_, rfl⟩
    try simp only [ew3086, ew3042] at p3077
    obtain ⟨a4, b4⟩ := p3077
    refine WP_aload_n dX11_feed_37 rfl ?_
    refine WP_iload dX11_feed_38 rfl ?_
    refine WP_callV1 (k := 11) dX11_feed_40 ⟨⟨⟨by decide, by decide⟩, zX11_putFour⟩, lX11_319, by decide, rfl, vX11_putFour.1, vX11_putFour.2⟩ (ly_is hy 0 11 rfl) (em_putFour hy hr _  (n := n + 4 + 4 + 4 + 4) a4 (by omega)) (Nat.le_of_ble_eq_true rfl) ?_
    intro r I3088 J3089 Ra hq
    obtain ⟨ec, g3090, g3091, g3092, er, p3087⟩ := hq
    rw [ec, er]
    clear ec er Ra r
    have fI3093 : FC g [0, 1] I I3088 := FC_tr fI3083 (FC_mono g3090 (by decide))
    have fJ3094 : FC g [] J J3089 := FC_tr fJ3084 (FC_mono g3091 (by decide))
    have fQ3095 : FQ g [1] I I3088 := FQ_tr fQ3085 (FQ_mono g3092 (by decide))
    obtain ⟨w3096, ew3096⟩ : ∃ w : Int32, I3088 (ad g 0) 1 = w := ⟨_, rfl⟩
    try simp only [ew3096, ew3042] at p3087
    obtain ⟨a5, b5⟩ := p3087
    refine WP_aload_n dX11_feed_43 rfl ?_
    refine WQ_getim dX11_feed_44 fX11_75 rfl (ly_is hy 0 11 rfl) ew3096 ?_
    exact WP_iret dX11_feed_47 rfl ⟨rfl, fI3093, fJ3094, fQ3095, w3096, rfl, by
      try simp only [ew3096, ew3042]
      refine Or.inr ⟨by omega, by omega, ?_⟩
      rw [b5, b4, b3, b2, b1]
      rfl⟩
  · refine WQ_bipush (-3) (-3) dX11_feed_13 rfl rfl (fun v3097 hv3097 => ?_)
    exact WP_iret dX11_feed_15 rfl ⟨rfl, fI0, fJ0, fQ0, v3097, rfl, by
      try simp only [ew3042]
      exact Or.inl ⟨by omega, by omega, rfl⟩⟩
set_option maxHeartbeats 4000000 in
set_option maxRecDepth 100000 in
theorem em_copy6 {g : GG} {I : pI} {J : pJ} {R : pR} (hy : Ly g) (hr : Rf g R)    : SP g mX11_copy [.ref (ad g 6), .ref (ad g 7)] I J R (fun r I' J' R' => R' = R ∧ FC g [6] I I' ∧ FC g [] J J' ∧ FQ g [] I I' ∧ r = none ∧ (∀ q, q < 7 → I' (ad g 6) q = I (ad g 7) q)) := by
  refine SP_of ⟨by decide, rfl⟩ (Nat.le_of_ble_eq_true rfl) ?_
  have fI0 : FC g [6] I I := FC_rf
  have fJ0 : FC g [] J J := FC_rf
  have fQ0 : FQ g [] I I := FQ_rf
  refine WQ_iconst (0) (0) dX11_copy_0 rfl rfl (fun v3098 hv3098 => ?_)
  refine WP_istore_n (ls' := [(0, _), (1, _), (2, _)]) dX11_copy_1 (by decide) rfl ?_
  have lp3103 : ∀ (mz : Nat) (i3099 : Int32) (I3100 : pI), FC g [6] I I3100 → FQ g [] I I3100 → (∃ k : Nat, i3099.toInt = (k : Int) ∧ k ≤ 7 ∧ ∀ q, q < k → I3100 (ad g 6) q = I (ad g 7) q) → (8 - i3099.toInt.toNat) < mz → WP g mX11_copy 2 [(0, .ref (ad g 6)), (1, .ref (ad g 7)), (2, .int i3099)] [] I3100 J R (fun r I' J' R' => R' = R ∧ FC g [6] I I' ∧ FC g [] J J' ∧ FQ g [] I I' ∧ r = none ∧ (∀ q, q < 7 → I' (ad g 6) q = I (ad g 7) q)) := by
    intro mz
    induction mz with
    | zero =>
      intro i3099 I3100 fI3101 fQ3102 hvlp3103 hmlp3103
      exact absurd hmlp3103 (Nat.not_lt_zero _)
    | succ mz ihlp3103 =>
      intro i3099 I3100 fI3101 fQ3102 hvlp3103 hmlp3103
      obtain ⟨k, ik, ik4, iA⟩ := hvlp3103
      refine WP_iload_n dX11_copy_2 rfl ?_
      refine WP_aload_n dX11_copy_3 rfl ?_
      refine WP_alen dX11_copy_4 (ly_is hy 6 13 rfl) (by decide) ?_
      rw [(ly_n hy 6 7 rfl)]
      obtain ⟨v3104, hv3104, ev3104⟩ : ∃ v : Int32, v.toInt = 7 ∧ nI 7 = v := ⟨_, nI_toInt (by decide), rfl⟩
      rw [ev3104]; clear ev3104
      refine WQ_icmp_ge 20 dX11_copy_5 rfl (fun c3104 => ?_) (fun c3104 => ?_)
      · exact WP_vret dX11_copy_20 rfl ⟨rfl, fI3101, fJ0, fQ3102, rfl, by
          intro q9 hq9
          exact iA q9 (by omega)⟩
      · refine WP_aload_n dX11_copy_8 rfl ?_
        refine WP_iload_n dX11_copy_9 rfl ?_
        refine WP_aload_n dX11_copy_10 rfl ?_
        refine WP_iload_n dX11_copy_11 rfl ?_
        have fB := fI3101
        refine WE_ia dX11_copy_12 (ly_is hy 7 13 rfl) (ly_n hy 7 7 rfl) (by omega) (by omega) (fun v3106 ev3106 => ?_)
        refine WE_is dX11_copy_13 (ly_is hy 6 13 rfl) (ly_n hy 6 7 rfl) (by omega) (by omega) (fun I3107 eI3107 => ?_)
        have e3108 : I3107 (ad g 7) i3099.toInt.toNat = v3106 := by rw [eI3107, pp_ne _ _ (Or.inl (ly_ne hy (by decide) (by decide) (by decide)))]; exact ev3106
        have fI3109 : FC g [6] I I3107 := by rw [eI3107]; exact FC_pp fI3101 (by decide)
        have fQ3110 : FQ g [] I I3107 := by rw [eI3107]; exact FQ_ppn (ly_ne hy (by decide) (by decide) (by decide)) fQ3102
        refine WP_iinc (ls' := [(0, _), (1, _), (2, _)]) dX11_copy_14 rfl (by decide) rfl ?_
        have hv3111 : (i3099 + Int32.ofInt (1)).toInt = i3099.toInt + (1) := ia_n rfl (by omega) (by omega)
        generalize i3099 + Int32.ofInt (1) = v3111 at hv3111 ⊢
        refine WP_goto 2 dX11_copy_17 rfl ?_
        refine WP_sub (fc rfl (fc rfl (fc rfl fn))) (ihlp3103 v3111 I3107 fI3109 fQ3110 ?_ ?_)
        · refine ⟨k + 1, by omega, by omega, fun q hq => ?_⟩
          rw [eI3107, show i3099.toInt.toNat = k by omega, pp_at]
          split
          · rename_i e9
            rw [e9, ← ev3106, show i3099.toInt.toNat = k by omega, FC_at hy fB 7 (by decide) (by decide)]
          · exact iA q (by omega)
        · omega
  refine WP_sub (fc rfl (fc rfl (fc rfl fn))) (lp3103 _ v3098 I fI0 fQ0 ?_ (Nat.lt_succ_self _))
  · exact ⟨0, by omega, by omega, fun q h => absurd h (Nat.not_lt_zero _)⟩
set_option maxHeartbeats 4000000 in
set_option maxRecDepth 100000 in
theorem em_copy8 {g : GG} {I : pI} {J : pJ} {R : pR} (hy : Ly g) (hr : Rf g R)    : SP g mX11_copy [.ref (ad g 8), .ref (ad g 14)] I J R (fun r I' J' R' => R' = R ∧ FC g [8] I I' ∧ FC g [] J J' ∧ FQ g [] I I' ∧ r = none ∧ (∀ q, q < 4 → I' (ad g 8) q = I (ad g 14) q)) := by
  refine SP_of ⟨by decide, rfl⟩ (Nat.le_of_ble_eq_true rfl) ?_
  have fI0 : FC g [8] I I := FC_rf
  have fJ0 : FC g [] J J := FC_rf
  have fQ0 : FQ g [] I I := FQ_rf
  refine WQ_iconst (0) (0) dX11_copy_0 rfl rfl (fun v3112 hv3112 => ?_)
  refine WP_istore_n (ls' := [(0, _), (1, _), (2, _)]) dX11_copy_1 (by decide) rfl ?_
  have lp3117 : ∀ (mz : Nat) (i3113 : Int32) (I3114 : pI), FC g [8] I I3114 → FQ g [] I I3114 → (∃ k : Nat, i3113.toInt = (k : Int) ∧ k ≤ 4 ∧ ∀ q, q < k → I3114 (ad g 8) q = I (ad g 14) q) → (5 - i3113.toInt.toNat) < mz → WP g mX11_copy 2 [(0, .ref (ad g 8)), (1, .ref (ad g 14)), (2, .int i3113)] [] I3114 J R (fun r I' J' R' => R' = R ∧ FC g [8] I I' ∧ FC g [] J J' ∧ FQ g [] I I' ∧ r = none ∧ (∀ q, q < 4 → I' (ad g 8) q = I (ad g 14) q)) := by
    intro mz
    induction mz with
    | zero =>
      intro i3113 I3114 fI3115 fQ3116 hvlp3117 hmlp3117
      exact absurd hmlp3117 (Nat.not_lt_zero _)
    | succ mz ihlp3117 =>
      intro i3113 I3114 fI3115 fQ3116 hvlp3117 hmlp3117
      obtain ⟨k, ik, ik4, iA⟩ := hvlp3117
      refine WP_iload_n dX11_copy_2 rfl ?_
      refine WP_aload_n dX11_copy_3 rfl ?_
      refine WP_alen dX11_copy_4 (ly_is hy 8 13 rfl) (by decide) ?_
      rw [(ly_n hy 8 4 rfl)]
      obtain ⟨v3118, hv3118, ev3118⟩ : ∃ v : Int32, v.toInt = 4 ∧ nI 4 = v := ⟨_, nI_toInt (by decide), rfl⟩
      rw [ev3118]; clear ev3118
      refine WQ_icmp_ge 20 dX11_copy_5 rfl (fun c3118 => ?_) (fun c3118 => ?_)
      · exact WP_vret dX11_copy_20 rfl ⟨rfl, fI3115, fJ0, fQ3116, rfl, by
          intro q9 hq9
          exact iA q9 (by omega)⟩
      · refine WP_aload_n dX11_copy_8 rfl ?_
        refine WP_iload_n dX11_copy_9 rfl ?_
        refine WP_aload_n dX11_copy_10 rfl ?_
        refine WP_iload_n dX11_copy_11 rfl ?_
        have fB := fI3115
        refine WE_ia dX11_copy_12 (ly_is hy 14 13 rfl) (ly_n hy 14 4 rfl) (by omega) (by omega) (fun v3120 ev3120 => ?_)
        refine WE_is dX11_copy_13 (ly_is hy 8 13 rfl) (ly_n hy 8 4 rfl) (by omega) (by omega) (fun I3121 eI3121 => ?_)
        have e3122 : I3121 (ad g 14) i3113.toInt.toNat = v3120 := by rw [eI3121, pp_ne _ _ (Or.inl (ly_ne hy (by decide) (by decide) (by decide)))]; exact ev3120
        have fI3123 : FC g [8] I I3121 := by rw [eI3121]; exact FC_pp fI3115 (by decide)
        have fQ3124 : FQ g [] I I3121 := by rw [eI3121]; exact FQ_ppn (ly_ne hy (by decide) (by decide) (by decide)) fQ3116
        refine WP_iinc (ls' := [(0, _), (1, _), (2, _)]) dX11_copy_14 rfl (by decide) rfl ?_
        have hv3125 : (i3113 + Int32.ofInt (1)).toInt = i3113.toInt + (1) := ia_n rfl (by omega) (by omega)
        generalize i3113 + Int32.ofInt (1) = v3125 at hv3125 ⊢
        refine WP_goto 2 dX11_copy_17 rfl ?_
        refine WP_sub (fc rfl (fc rfl (fc rfl fn))) (ihlp3117 v3125 I3121 fI3123 fQ3124 ?_ ?_)
        · refine ⟨k + 1, by omega, by omega, fun q hq => ?_⟩
          rw [eI3121, show i3113.toInt.toNat = k by omega, pp_at]
          split
          · rename_i e9
            rw [e9, ← ev3120, show i3113.toInt.toNat = k by omega, FC_at hy fB 14 (by decide) (by decide)]
          · exact iA q (by omega)
        · omega
  refine WP_sub (fc rfl (fc rfl (fc rfl fn))) (lp3117 _ v3112 I fI0 fQ0 ?_ (Nat.lt_succ_self _))
  · exact ⟨0, by omega, by omega, fun q h => absurd h (Nat.not_lt_zero _)⟩
set_option maxHeartbeats 4000000 in
set_option maxRecDepth 100000 in
theorem em_copy9 {g : GG} {I : pI} {J : pJ} {R : pR} (hy : Ly g) (hr : Rf g R)    : SP g mX11_copy [.ref (ad g 9), .ref (ad g 15)] I J R (fun r I' J' R' => R' = R ∧ FC g [9] I I' ∧ FC g [] J J' ∧ FQ g [] I I' ∧ r = none ∧ (∀ q, q < 4 → I' (ad g 9) q = I (ad g 15) q)) := by
  refine SP_of ⟨by decide, rfl⟩ (Nat.le_of_ble_eq_true rfl) ?_
  have fI0 : FC g [9] I I := FC_rf
  have fJ0 : FC g [] J J := FC_rf
  have fQ0 : FQ g [] I I := FQ_rf
  refine WQ_iconst (0) (0) dX11_copy_0 rfl rfl (fun v3126 hv3126 => ?_)
  refine WP_istore_n (ls' := [(0, _), (1, _), (2, _)]) dX11_copy_1 (by decide) rfl ?_
  have lp3131 : ∀ (mz : Nat) (i3127 : Int32) (I3128 : pI), FC g [9] I I3128 → FQ g [] I I3128 → (∃ k : Nat, i3127.toInt = (k : Int) ∧ k ≤ 4 ∧ ∀ q, q < k → I3128 (ad g 9) q = I (ad g 15) q) → (5 - i3127.toInt.toNat) < mz → WP g mX11_copy 2 [(0, .ref (ad g 9)), (1, .ref (ad g 15)), (2, .int i3127)] [] I3128 J R (fun r I' J' R' => R' = R ∧ FC g [9] I I' ∧ FC g [] J J' ∧ FQ g [] I I' ∧ r = none ∧ (∀ q, q < 4 → I' (ad g 9) q = I (ad g 15) q)) := by
    intro mz
    induction mz with
    | zero =>
      intro i3127 I3128 fI3129 fQ3130 hvlp3131 hmlp3131
      exact absurd hmlp3131 (Nat.not_lt_zero _)
    | succ mz ihlp3131 =>
      intro i3127 I3128 fI3129 fQ3130 hvlp3131 hmlp3131
      obtain ⟨k, ik, ik4, iA⟩ := hvlp3131
      refine WP_iload_n dX11_copy_2 rfl ?_
      refine WP_aload_n dX11_copy_3 rfl ?_
      refine WP_alen dX11_copy_4 (ly_is hy 9 13 rfl) (by decide) ?_
      rw [(ly_n hy 9 4 rfl)]
      obtain ⟨v3132, hv3132, ev3132⟩ : ∃ v : Int32, v.toInt = 4 ∧ nI 4 = v := ⟨_, nI_toInt (by decide), rfl⟩
      rw [ev3132]; clear ev3132
      refine WQ_icmp_ge 20 dX11_copy_5 rfl (fun c3132 => ?_) (fun c3132 => ?_)
      · exact WP_vret dX11_copy_20 rfl ⟨rfl, fI3129, fJ0, fQ3130, rfl, by
          intro q9 hq9
          exact iA q9 (by omega)⟩
      · refine WP_aload_n dX11_copy_8 rfl ?_
        refine WP_iload_n dX11_copy_9 rfl ?_
        refine WP_aload_n dX11_copy_10 rfl ?_
        refine WP_iload_n dX11_copy_11 rfl ?_
        have fB := fI3129
        refine WE_ia dX11_copy_12 (ly_is hy 15 13 rfl) (ly_n hy 15 4 rfl) (by omega) (by omega) (fun v3134 ev3134 => ?_)
        refine WE_is dX11_copy_13 (ly_is hy 9 13 rfl) (ly_n hy 9 4 rfl) (by omega) (by omega) (fun I3135 eI3135 => ?_)
        have e3136 : I3135 (ad g 15) i3127.toInt.toNat = v3134 := by rw [eI3135, pp_ne _ _ (Or.inl (ly_ne hy (by decide) (by decide) (by decide)))]; exact ev3134
        have fI3137 : FC g [9] I I3135 := by rw [eI3135]; exact FC_pp fI3129 (by decide)
        have fQ3138 : FQ g [] I I3135 := by rw [eI3135]; exact FQ_ppn (ly_ne hy (by decide) (by decide) (by decide)) fQ3130
        refine WP_iinc (ls' := [(0, _), (1, _), (2, _)]) dX11_copy_14 rfl (by decide) rfl ?_
        have hv3139 : (i3127 + Int32.ofInt (1)).toInt = i3127.toInt + (1) := ia_n rfl (by omega) (by omega)
        generalize i3127 + Int32.ofInt (1) = v3139 at hv3139 ⊢
        refine WP_goto 2 dX11_copy_17 rfl ?_
        refine WP_sub (fc rfl (fc rfl (fc rfl fn))) (ihlp3131 v3139 I3135 fI3137 fQ3138 ?_ ?_)
        · refine ⟨k + 1, by omega, by omega, fun q hq => ?_⟩
          rw [eI3135, show i3127.toInt.toNat = k by omega, pp_at]
          split
          · rename_i e9
            rw [e9, ← ev3134, show i3127.toInt.toNat = k by omega, FC_at hy fB 15 (by decide) (by decide)]
          · exact iA q (by omega)
        · omega
  refine WP_sub (fc rfl (fc rfl (fc rfl fn))) (lp3131 _ v3126 I fI0 fQ0 ?_ (Nat.lt_succ_self _))
  · exact ⟨0, by omega, by omega, fun q h => absurd h (Nat.not_lt_zero _)⟩
set_option maxHeartbeats 4000000 in
set_option maxRecDepth 100000 in
theorem em_copy10 {g : GG} {I : pI} {J : pJ} {R : pR} (hy : Ly g) (hr : Rf g R)    : SP g mX11_copy [.ref (ad g 10), .ref (ad g 16)] I J R (fun r I' J' R' => R' = R ∧ FC g [10] I I' ∧ FC g [] J J' ∧ FQ g [] I I' ∧ r = none ∧ (∀ q, q < 4 → I' (ad g 10) q = I (ad g 16) q)) := by
  refine SP_of ⟨by decide, rfl⟩ (Nat.le_of_ble_eq_true rfl) ?_
  have fI0 : FC g [10] I I := FC_rf
  have fJ0 : FC g [] J J := FC_rf
  have fQ0 : FQ g [] I I := FQ_rf
  refine WQ_iconst (0) (0) dX11_copy_0 rfl rfl (fun v3140 hv3140 => ?_)
  refine WP_istore_n (ls' := [(0, _), (1, _), (2, _)]) dX11_copy_1 (by decide) rfl ?_
  have lp3145 : ∀ (mz : Nat) (i3141 : Int32) (I3142 : pI), FC g [10] I I3142 → FQ g [] I I3142 → (∃ k : Nat, i3141.toInt = (k : Int) ∧ k ≤ 4 ∧ ∀ q, q < k → I3142 (ad g 10) q = I (ad g 16) q) → (5 - i3141.toInt.toNat) < mz → WP g mX11_copy 2 [(0, .ref (ad g 10)), (1, .ref (ad g 16)), (2, .int i3141)] [] I3142 J R (fun r I' J' R' => R' = R ∧ FC g [10] I I' ∧ FC g [] J J' ∧ FQ g [] I I' ∧ r = none ∧ (∀ q, q < 4 → I' (ad g 10) q = I (ad g 16) q)) := by
    intro mz
    induction mz with
    | zero =>
      intro i3141 I3142 fI3143 fQ3144 hvlp3145 hmlp3145
      exact absurd hmlp3145 (Nat.not_lt_zero _)
    | succ mz ihlp3145 =>
      intro i3141 I3142 fI3143 fQ3144 hvlp3145 hmlp3145
      obtain ⟨k, ik, ik4, iA⟩ := hvlp3145
      refine WP_iload_n dX11_copy_2 rfl ?_
      refine WP_aload_n dX11_copy_3 rfl ?_
      refine WP_alen dX11_copy_4 (ly_is hy 10 13 rfl) (by decide) ?_
      rw [(ly_n hy 10 4 rfl)]
      obtain ⟨v3146, hv3146, ev3146⟩ : ∃ v : Int32, v.toInt = 4 ∧ nI 4 = v := ⟨_, nI_toInt (by decide), rfl⟩
      rw [ev3146]; clear ev3146
      refine WQ_icmp_ge 20 dX11_copy_5 rfl (fun c3146 => ?_) (fun c3146 => ?_)
      · exact WP_vret dX11_copy_20 rfl ⟨rfl, fI3143, fJ0, fQ3144, rfl, by
          intro q9 hq9
          exact iA q9 (by omega)⟩
      · refine WP_aload_n dX11_copy_8 rfl ?_
        refine WP_iload_n dX11_copy_9 rfl ?_
        refine WP_aload_n dX11_copy_10 rfl ?_
        refine WP_iload_n dX11_copy_11 rfl ?_
        have fB := fI3143
        refine WE_ia dX11_copy_12 (ly_is hy 16 13 rfl) (ly_n hy 16 4 rfl) (by omega) (by omega) (fun v3148 ev3148 => ?_)
        refine WE_is dX11_copy_13 (ly_is hy 10 13 rfl) (ly_n hy 10 4 rfl) (by omega) (by omega) (fun I3149 eI3149 => ?_)
        have e3150 : I3149 (ad g 16) i3141.toInt.toNat = v3148 := by rw [eI3149, pp_ne _ _ (Or.inl (ly_ne hy (by decide) (by decide) (by decide)))]; exact ev3148
        have fI3151 : FC g [10] I I3149 := by rw [eI3149]; exact FC_pp fI3143 (by decide)
        have fQ3152 : FQ g [] I I3149 := by rw [eI3149]; exact FQ_ppn (ly_ne hy (by decide) (by decide) (by decide)) fQ3144
        refine WP_iinc (ls' := [(0, _), (1, _), (2, _)]) dX11_copy_14 rfl (by decide) rfl ?_
        have hv3153 : (i3141 + Int32.ofInt (1)).toInt = i3141.toInt + (1) := ia_n rfl (by omega) (by omega)
        generalize i3141 + Int32.ofInt (1) = v3153 at hv3153 ⊢
        refine WP_goto 2 dX11_copy_17 rfl ?_
        refine WP_sub (fc rfl (fc rfl (fc rfl fn))) (ihlp3145 v3153 I3149 fI3151 fQ3152 ?_ ?_)
        · refine ⟨k + 1, by omega, by omega, fun q hq => ?_⟩
          rw [eI3149, show i3141.toInt.toNat = k by omega, pp_at]
          split
          · rename_i e9
            rw [e9, ← ev3148, show i3141.toInt.toNat = k by omega, FC_at hy fB 16 (by decide) (by decide)]
          · exact iA q (by omega)
        · omega
  refine WP_sub (fc rfl (fc rfl (fc rfl fn))) (lp3145 _ v3140 I fI0 fQ0 ?_ (Nat.lt_succ_self _))
  · exact ⟨0, by omega, by omega, fun q h => absurd h (Nat.not_lt_zero _)⟩
set_option maxHeartbeats 4000000 in
set_option maxRecDepth 100000 in
theorem em_copy11 {g : GG} {I : pI} {J : pJ} {R : pR} (hy : Ly g) (hr : Rf g R)    : SP g mX11_copy [.ref (ad g 11), .ref (ad g 17)] I J R (fun r I' J' R' => R' = R ∧ FC g [11] I I' ∧ FC g [] J J' ∧ FQ g [] I I' ∧ r = none ∧ (∀ q, q < 4 → I' (ad g 11) q = I (ad g 17) q)) := by
  refine SP_of ⟨by decide, rfl⟩ (Nat.le_of_ble_eq_true rfl) ?_
  have fI0 : FC g [11] I I := FC_rf
  have fJ0 : FC g [] J J := FC_rf
  have fQ0 : FQ g [] I I := FQ_rf
  refine WQ_iconst (0) (0) dX11_copy_0 rfl rfl (fun v3154 hv3154 => ?_)
  refine WP_istore_n (ls' := [(0, _), (1, _), (2, _)]) dX11_copy_1 (by decide) rfl ?_
  have lp3159 : ∀ (mz : Nat) (i3155 : Int32) (I3156 : pI), FC g [11] I I3156 → FQ g [] I I3156 → (∃ k : Nat, i3155.toInt = (k : Int) ∧ k ≤ 4 ∧ ∀ q, q < k → I3156 (ad g 11) q = I (ad g 17) q) → (5 - i3155.toInt.toNat) < mz → WP g mX11_copy 2 [(0, .ref (ad g 11)), (1, .ref (ad g 17)), (2, .int i3155)] [] I3156 J R (fun r I' J' R' => R' = R ∧ FC g [11] I I' ∧ FC g [] J J' ∧ FQ g [] I I' ∧ r = none ∧ (∀ q, q < 4 → I' (ad g 11) q = I (ad g 17) q)) := by
    intro mz
    induction mz with
    | zero =>
      intro i3155 I3156 fI3157 fQ3158 hvlp3159 hmlp3159
      exact absurd hmlp3159 (Nat.not_lt_zero _)
    | succ mz ihlp3159 =>
      intro i3155 I3156 fI3157 fQ3158 hvlp3159 hmlp3159
      obtain ⟨k, ik, ik4, iA⟩ := hvlp3159
      refine WP_iload_n dX11_copy_2 rfl ?_
      refine WP_aload_n dX11_copy_3 rfl ?_
      refine WP_alen dX11_copy_4 (ly_is hy 11 13 rfl) (by decide) ?_
      rw [(ly_n hy 11 4 rfl)]
      obtain ⟨v3160, hv3160, ev3160⟩ : ∃ v : Int32, v.toInt = 4 ∧ nI 4 = v := ⟨_, nI_toInt (by decide), rfl⟩
      rw [ev3160]; clear ev3160
      refine WQ_icmp_ge 20 dX11_copy_5 rfl (fun c3160 => ?_) (fun c3160 => ?_)
      · exact WP_vret dX11_copy_20 rfl ⟨rfl, fI3157, fJ0, fQ3158, rfl, by
          intro q9 hq9
          exact iA q9 (by omega)⟩
      · refine WP_aload_n dX11_copy_8 rfl ?_
        refine WP_iload_n dX11_copy_9 rfl ?_
        refine WP_aload_n dX11_copy_10 rfl ?_
        refine WP_iload_n dX11_copy_11 rfl ?_
        have fB := fI3157
        refine WE_ia dX11_copy_12 (ly_is hy 17 13 rfl) (ly_n hy 17 4 rfl) (by omega) (by omega) (fun v3162 ev3162 => ?_)
        refine WE_is dX11_copy_13 (ly_is hy 11 13 rfl) (ly_n hy 11 4 rfl) (by omega) (by omega) (fun I3163 eI3163 => ?_)
        have e3164 : I3163 (ad g 17) i3155.toInt.toNat = v3162 := by rw [eI3163, pp_ne _ _ (Or.inl (ly_ne hy (by decide) (by decide) (by decide)))]; exact ev3162
        have fI3165 : FC g [11] I I3163 := by rw [eI3163]; exact FC_pp fI3157 (by decide)
        have fQ3166 : FQ g [] I I3163 := by rw [eI3163]; exact FQ_ppn (ly_ne hy (by decide) (by decide) (by decide)) fQ3158
        refine WP_iinc (ls' := [(0, _), (1, _), (2, _)]) dX11_copy_14 rfl (by decide) rfl ?_
        have hv3167 : (i3155 + Int32.ofInt (1)).toInt = i3155.toInt + (1) := ia_n rfl (by omega) (by omega)
        generalize i3155 + Int32.ofInt (1) = v3167 at hv3167 ⊢
        refine WP_goto 2 dX11_copy_17 rfl ?_
        refine WP_sub (fc rfl (fc rfl (fc rfl fn))) (ihlp3159 v3167 I3163 fI3165 fQ3166 ?_ ?_)
        · refine ⟨k + 1, by omega, by omega, fun q hq => ?_⟩
          rw [eI3163, show i3155.toInt.toNat = k by omega, pp_at]
          split
          · rename_i e9
            rw [e9, ← ev3162, show i3155.toInt.toNat = k by omega, FC_at hy fB 17 (by decide) (by decide)]
          · exact iA q (by omega)
        · omega
  refine WP_sub (fc rfl (fc rfl (fc rfl fn))) (lp3159 _ v3154 I fI0 fQ0 ?_ (Nat.lt_succ_self _))
  · exact ⟨0, by omega, by omega, fun q h => absurd h (Nat.not_lt_zero _)⟩
set_option maxHeartbeats 4000000 in
set_option maxRecDepth 100000 in
theorem em_copy12 {g : GG} {I : pI} {J : pJ} {R : pR} (hy : Ly g) (hr : Rf g R)    : SP g mX11_copy [.ref (ad g 12), .ref (ad g 18)] I J R (fun r I' J' R' => R' = R ∧ FC g [12] I I' ∧ FC g [] J J' ∧ FQ g [] I I' ∧ r = none ∧ (∀ q, q < 3 → I' (ad g 12) q = I (ad g 18) q)) := by
  refine SP_of ⟨by decide, rfl⟩ (Nat.le_of_ble_eq_true rfl) ?_
  have fI0 : FC g [12] I I := FC_rf
  have fJ0 : FC g [] J J := FC_rf
  have fQ0 : FQ g [] I I := FQ_rf
  refine WQ_iconst (0) (0) dX11_copy_0 rfl rfl (fun v3168 hv3168 => ?_)
  refine WP_istore_n (ls' := [(0, _), (1, _), (2, _)]) dX11_copy_1 (by decide) rfl ?_
  have lp3173 : ∀ (mz : Nat) (i3169 : Int32) (I3170 : pI), FC g [12] I I3170 → FQ g [] I I3170 → (∃ k : Nat, i3169.toInt = (k : Int) ∧ k ≤ 3 ∧ ∀ q, q < k → I3170 (ad g 12) q = I (ad g 18) q) → (4 - i3169.toInt.toNat) < mz → WP g mX11_copy 2 [(0, .ref (ad g 12)), (1, .ref (ad g 18)), (2, .int i3169)] [] I3170 J R (fun r I' J' R' => R' = R ∧ FC g [12] I I' ∧ FC g [] J J' ∧ FQ g [] I I' ∧ r = none ∧ (∀ q, q < 3 → I' (ad g 12) q = I (ad g 18) q)) := by
    intro mz
    induction mz with
    | zero =>
      intro i3169 I3170 fI3171 fQ3172 hvlp3173 hmlp3173
      exact absurd hmlp3173 (Nat.not_lt_zero _)
    | succ mz ihlp3173 =>
      intro i3169 I3170 fI3171 fQ3172 hvlp3173 hmlp3173
      obtain ⟨k, ik, ik4, iA⟩ := hvlp3173
      refine WP_iload_n dX11_copy_2 rfl ?_
      refine WP_aload_n dX11_copy_3 rfl ?_
      refine WP_alen dX11_copy_4 (ly_is hy 12 13 rfl) (by decide) ?_
      rw [(ly_n hy 12 3 rfl)]
      obtain ⟨v3174, hv3174, ev3174⟩ : ∃ v : Int32, v.toInt = 3 ∧ nI 3 = v := ⟨_, nI_toInt (by decide), rfl⟩
      rw [ev3174]; clear ev3174
      refine WQ_icmp_ge 20 dX11_copy_5 rfl (fun c3174 => ?_) (fun c3174 => ?_)
      · exact WP_vret dX11_copy_20 rfl ⟨rfl, fI3171, fJ0, fQ3172, rfl, by
          intro q9 hq9
          exact iA q9 (by omega)⟩
      · refine WP_aload_n dX11_copy_8 rfl ?_
        refine WP_iload_n dX11_copy_9 rfl ?_
        refine WP_aload_n dX11_copy_10 rfl ?_
        refine WP_iload_n dX11_copy_11 rfl ?_
        have fB := fI3171
        refine WE_ia dX11_copy_12 (ly_is hy 18 13 rfl) (ly_n hy 18 3 rfl) (by omega) (by omega) (fun v3176 ev3176 => ?_)
        refine WE_is dX11_copy_13 (ly_is hy 12 13 rfl) (ly_n hy 12 3 rfl) (by omega) (by omega) (fun I3177 eI3177 => ?_)
        have e3178 : I3177 (ad g 18) i3169.toInt.toNat = v3176 := by rw [eI3177, pp_ne _ _ (Or.inl (ly_ne hy (by decide) (by decide) (by decide)))]; exact ev3176
        have fI3179 : FC g [12] I I3177 := by rw [eI3177]; exact FC_pp fI3171 (by decide)
        have fQ3180 : FQ g [] I I3177 := by rw [eI3177]; exact FQ_ppn (ly_ne hy (by decide) (by decide) (by decide)) fQ3172
        refine WP_iinc (ls' := [(0, _), (1, _), (2, _)]) dX11_copy_14 rfl (by decide) rfl ?_
        have hv3181 : (i3169 + Int32.ofInt (1)).toInt = i3169.toInt + (1) := ia_n rfl (by omega) (by omega)
        generalize i3169 + Int32.ofInt (1) = v3181 at hv3181 ⊢
        refine WP_goto 2 dX11_copy_17 rfl ?_
        refine WP_sub (fc rfl (fc rfl (fc rfl fn))) (ihlp3173 v3181 I3177 fI3179 fQ3180 ?_ ?_)
        · refine ⟨k + 1, by omega, by omega, fun q hq => ?_⟩
          rw [eI3177, show i3169.toInt.toNat = k by omega, pp_at]
          split
          · rename_i e9
            rw [e9, ← ev3176, show i3169.toInt.toNat = k by omega, FC_at hy fB 18 (by decide) (by decide)]
          · exact iA q (by omega)
        · omega
  refine WP_sub (fc rfl (fc rfl (fc rfl fn))) (lp3173 _ v3168 I fI0 fQ0 ?_ (Nat.lt_succ_self _))
  · exact ⟨0, by omega, by omega, fun q h => absurd h (Nat.not_lt_zero _)⟩
set_option maxHeartbeats 4000000 in
set_option maxRecDepth 100000 in
theorem em_copy13 {g : GG} {I : pI} {J : pJ} {R : pR} (hy : Ly g) (hr : Rf g R)    : SP g mX11_copy [.ref (ad g 13), .ref (ad g 19)] I J R (fun r I' J' R' => R' = R ∧ FC g [13] I I' ∧ FC g [] J J' ∧ FQ g [] I I' ∧ r = none ∧ (∀ q, q < 3 → I' (ad g 13) q = I (ad g 19) q)) := by
  refine SP_of ⟨by decide, rfl⟩ (Nat.le_of_ble_eq_true rfl) ?_
  have fI0 : FC g [13] I I := FC_rf
  have fJ0 : FC g [] J J := FC_rf
  have fQ0 : FQ g [] I I := FQ_rf
  refine WQ_iconst (0) (0) dX11_copy_0 rfl rfl (fun v3182 hv3182 => ?_)
  refine WP_istore_n (ls' := [(0, _), (1, _), (2, _)]) dX11_copy_1 (by decide) rfl ?_
  have lp3187 : ∀ (mz : Nat) (i3183 : Int32) (I3184 : pI), FC g [13] I I3184 → FQ g [] I I3184 → (∃ k : Nat, i3183.toInt = (k : Int) ∧ k ≤ 3 ∧ ∀ q, q < k → I3184 (ad g 13) q = I (ad g 19) q) → (4 - i3183.toInt.toNat) < mz → WP g mX11_copy 2 [(0, .ref (ad g 13)), (1, .ref (ad g 19)), (2, .int i3183)] [] I3184 J R (fun r I' J' R' => R' = R ∧ FC g [13] I I' ∧ FC g [] J J' ∧ FQ g [] I I' ∧ r = none ∧ (∀ q, q < 3 → I' (ad g 13) q = I (ad g 19) q)) := by
    intro mz
    induction mz with
    | zero =>
      intro i3183 I3184 fI3185 fQ3186 hvlp3187 hmlp3187
      exact absurd hmlp3187 (Nat.not_lt_zero _)
    | succ mz ihlp3187 =>
      intro i3183 I3184 fI3185 fQ3186 hvlp3187 hmlp3187
      obtain ⟨k, ik, ik4, iA⟩ := hvlp3187
      refine WP_iload_n dX11_copy_2 rfl ?_
      refine WP_aload_n dX11_copy_3 rfl ?_
      refine WP_alen dX11_copy_4 (ly_is hy 13 13 rfl) (by decide) ?_
      rw [(ly_n hy 13 3 rfl)]
      obtain ⟨v3188, hv3188, ev3188⟩ : ∃ v : Int32, v.toInt = 3 ∧ nI 3 = v := ⟨_, nI_toInt (by decide), rfl⟩
      rw [ev3188]; clear ev3188
      refine WQ_icmp_ge 20 dX11_copy_5 rfl (fun c3188 => ?_) (fun c3188 => ?_)
      · exact WP_vret dX11_copy_20 rfl ⟨rfl, fI3185, fJ0, fQ3186, rfl, by
          intro q9 hq9
          exact iA q9 (by omega)⟩
      · refine WP_aload_n dX11_copy_8 rfl ?_
        refine WP_iload_n dX11_copy_9 rfl ?_
        refine WP_aload_n dX11_copy_10 rfl ?_
        refine WP_iload_n dX11_copy_11 rfl ?_
        have fB := fI3185
        refine WE_ia dX11_copy_12 (ly_is hy 19 13 rfl) (ly_n hy 19 3 rfl) (by omega) (by omega) (fun v3190 ev3190 => ?_)
        refine WE_is dX11_copy_13 (ly_is hy 13 13 rfl) (ly_n hy 13 3 rfl) (by omega) (by omega) (fun I3191 eI3191 => ?_)
        have e3192 : I3191 (ad g 19) i3183.toInt.toNat = v3190 := by rw [eI3191, pp_ne _ _ (Or.inl (ly_ne hy (by decide) (by decide) (by decide)))]; exact ev3190
        have fI3193 : FC g [13] I I3191 := by rw [eI3191]; exact FC_pp fI3185 (by decide)
        have fQ3194 : FQ g [] I I3191 := by rw [eI3191]; exact FQ_ppn (ly_ne hy (by decide) (by decide) (by decide)) fQ3186
        refine WP_iinc (ls' := [(0, _), (1, _), (2, _)]) dX11_copy_14 rfl (by decide) rfl ?_
        have hv3195 : (i3183 + Int32.ofInt (1)).toInt = i3183.toInt + (1) := ia_n rfl (by omega) (by omega)
        generalize i3183 + Int32.ofInt (1) = v3195 at hv3195 ⊢
        refine WP_goto 2 dX11_copy_17 rfl ?_
        refine WP_sub (fc rfl (fc rfl (fc rfl fn))) (ihlp3187 v3195 I3191 fI3193 fQ3194 ?_ ?_)
        · refine ⟨k + 1, by omega, by omega, fun q hq => ?_⟩
          rw [eI3191, show i3183.toInt.toNat = k by omega, pp_at]
          split
          · rename_i e9
            rw [e9, ← ev3190, show i3183.toInt.toNat = k by omega, FC_at hy fB 19 (by decide) (by decide)]
          · exact iA q (by omega)
        · omega
  refine WP_sub (fc rfl (fc rfl (fc rfl fn))) (lp3187 _ v3182 I fI0 fQ0 ?_ (Nat.lt_succ_self _))
  · exact ⟨0, by omega, by omega, fun q h => absurd h (Nat.not_lt_zero _)⟩
set_option maxHeartbeats 4000000 in
set_option maxRecDepth 100000 in
theorem em_copy20 {g : GG} {I : pI} {J : pJ} {R : pR} (hy : Ly g) (hr : Rf g R)    : SP g mX11_copy [.ref (ad g 20), .ref (ad g 27)] I J R (fun r I' J' R' => R' = R ∧ FC g [20] I I' ∧ FC g [] J J' ∧ FQ g [] I I' ∧ r = none ∧ (∀ q, q < 28 → I' (ad g 20) q = I (ad g 27) q)) := by
  refine SP_of ⟨by decide, rfl⟩ (Nat.le_of_ble_eq_true rfl) ?_
  have fI0 : FC g [20] I I := FC_rf
  have fJ0 : FC g [] J J := FC_rf
  have fQ0 : FQ g [] I I := FQ_rf
  refine WQ_iconst (0) (0) dX11_copy_0 rfl rfl (fun v3196 hv3196 => ?_)
  refine WP_istore_n (ls' := [(0, _), (1, _), (2, _)]) dX11_copy_1 (by decide) rfl ?_
  have lp3201 : ∀ (mz : Nat) (i3197 : Int32) (I3198 : pI), FC g [20] I I3198 → FQ g [] I I3198 → (∃ k : Nat, i3197.toInt = (k : Int) ∧ k ≤ 28 ∧ ∀ q, q < k → I3198 (ad g 20) q = I (ad g 27) q) → (29 - i3197.toInt.toNat) < mz → WP g mX11_copy 2 [(0, .ref (ad g 20)), (1, .ref (ad g 27)), (2, .int i3197)] [] I3198 J R (fun r I' J' R' => R' = R ∧ FC g [20] I I' ∧ FC g [] J J' ∧ FQ g [] I I' ∧ r = none ∧ (∀ q, q < 28 → I' (ad g 20) q = I (ad g 27) q)) := by
    intro mz
    induction mz with
    | zero =>
      intro i3197 I3198 fI3199 fQ3200 hvlp3201 hmlp3201
      exact absurd hmlp3201 (Nat.not_lt_zero _)
    | succ mz ihlp3201 =>
      intro i3197 I3198 fI3199 fQ3200 hvlp3201 hmlp3201
      obtain ⟨k, ik, ik4, iA⟩ := hvlp3201
      refine WP_iload_n dX11_copy_2 rfl ?_
      refine WP_aload_n dX11_copy_3 rfl ?_
      refine WP_alen dX11_copy_4 (ly_is hy 20 13 rfl) (by decide) ?_
      rw [(ly_n hy 20 28 rfl)]
      obtain ⟨v3202, hv3202, ev3202⟩ : ∃ v : Int32, v.toInt = 28 ∧ nI 28 = v := ⟨_, nI_toInt (by decide), rfl⟩
      rw [ev3202]; clear ev3202
      refine WQ_icmp_ge 20 dX11_copy_5 rfl (fun c3202 => ?_) (fun c3202 => ?_)
      · exact WP_vret dX11_copy_20 rfl ⟨rfl, fI3199, fJ0, fQ3200, rfl, by
          intro q9 hq9
          exact iA q9 (by omega)⟩
      · refine WP_aload_n dX11_copy_8 rfl ?_
        refine WP_iload_n dX11_copy_9 rfl ?_
        refine WP_aload_n dX11_copy_10 rfl ?_
        refine WP_iload_n dX11_copy_11 rfl ?_
        have fB := fI3199
        refine WE_ia dX11_copy_12 (ly_is hy 27 13 rfl) (ly_n hy 27 28 rfl) (by omega) (by omega) (fun v3204 ev3204 => ?_)
        refine WE_is dX11_copy_13 (ly_is hy 20 13 rfl) (ly_n hy 20 28 rfl) (by omega) (by omega) (fun I3205 eI3205 => ?_)
        have e3206 : I3205 (ad g 27) i3197.toInt.toNat = v3204 := by rw [eI3205, pp_ne _ _ (Or.inl (ly_ne hy (by decide) (by decide) (by decide)))]; exact ev3204
        have fI3207 : FC g [20] I I3205 := by rw [eI3205]; exact FC_pp fI3199 (by decide)
        have fQ3208 : FQ g [] I I3205 := by rw [eI3205]; exact FQ_ppn (ly_ne hy (by decide) (by decide) (by decide)) fQ3200
        refine WP_iinc (ls' := [(0, _), (1, _), (2, _)]) dX11_copy_14 rfl (by decide) rfl ?_
        have hv3209 : (i3197 + Int32.ofInt (1)).toInt = i3197.toInt + (1) := ia_n rfl (by omega) (by omega)
        generalize i3197 + Int32.ofInt (1) = v3209 at hv3209 ⊢
        refine WP_goto 2 dX11_copy_17 rfl ?_
        refine WP_sub (fc rfl (fc rfl (fc rfl fn))) (ihlp3201 v3209 I3205 fI3207 fQ3208 ?_ ?_)
        · refine ⟨k + 1, by omega, by omega, fun q hq => ?_⟩
          rw [eI3205, show i3197.toInt.toNat = k by omega, pp_at]
          split
          · rename_i e9
            rw [e9, ← ev3204, show i3197.toInt.toNat = k by omega, FC_at hy fB 27 (by decide) (by decide)]
          · exact iA q (by omega)
        · omega
  refine WP_sub (fc rfl (fc rfl (fc rfl fn))) (lp3201 _ v3196 I fI0 fQ0 ?_ (Nat.lt_succ_self _))
  · exact ⟨0, by omega, by omega, fun q h => absurd h (Nat.not_lt_zero _)⟩
set_option maxHeartbeats 4000000 in
set_option maxRecDepth 100000 in
theorem em_copy21 {g : GG} {I : pI} {J : pJ} {R : pR} (hy : Ly g) (hr : Rf g R)    : SP g mX11_copy [.ref (ad g 21), .ref (ad g 28)] I J R (fun r I' J' R' => R' = R ∧ FC g [21] I I' ∧ FC g [] J J' ∧ FQ g [] I I' ∧ r = none ∧ (∀ q, q < 21 → I' (ad g 21) q = I (ad g 28) q)) := by
  refine SP_of ⟨by decide, rfl⟩ (Nat.le_of_ble_eq_true rfl) ?_
  have fI0 : FC g [21] I I := FC_rf
  have fJ0 : FC g [] J J := FC_rf
  have fQ0 : FQ g [] I I := FQ_rf
  refine WQ_iconst (0) (0) dX11_copy_0 rfl rfl (fun v3210 hv3210 => ?_)
  refine WP_istore_n (ls' := [(0, _), (1, _), (2, _)]) dX11_copy_1 (by decide) rfl ?_
  have lp3215 : ∀ (mz : Nat) (i3211 : Int32) (I3212 : pI), FC g [21] I I3212 → FQ g [] I I3212 → (∃ k : Nat, i3211.toInt = (k : Int) ∧ k ≤ 21 ∧ ∀ q, q < k → I3212 (ad g 21) q = I (ad g 28) q) → (22 - i3211.toInt.toNat) < mz → WP g mX11_copy 2 [(0, .ref (ad g 21)), (1, .ref (ad g 28)), (2, .int i3211)] [] I3212 J R (fun r I' J' R' => R' = R ∧ FC g [21] I I' ∧ FC g [] J J' ∧ FQ g [] I I' ∧ r = none ∧ (∀ q, q < 21 → I' (ad g 21) q = I (ad g 28) q)) := by
    intro mz
    induction mz with
    | zero =>
      intro i3211 I3212 fI3213 fQ3214 hvlp3215 hmlp3215
      exact absurd hmlp3215 (Nat.not_lt_zero _)
    | succ mz ihlp3215 =>
      intro i3211 I3212 fI3213 fQ3214 hvlp3215 hmlp3215
      obtain ⟨k, ik, ik4, iA⟩ := hvlp3215
      refine WP_iload_n dX11_copy_2 rfl ?_
      refine WP_aload_n dX11_copy_3 rfl ?_
      refine WP_alen dX11_copy_4 (ly_is hy 21 13 rfl) (by decide) ?_
      rw [(ly_n hy 21 21 rfl)]
      obtain ⟨v3216, hv3216, ev3216⟩ : ∃ v : Int32, v.toInt = 21 ∧ nI 21 = v := ⟨_, nI_toInt (by decide), rfl⟩
      rw [ev3216]; clear ev3216
      refine WQ_icmp_ge 20 dX11_copy_5 rfl (fun c3216 => ?_) (fun c3216 => ?_)
      · exact WP_vret dX11_copy_20 rfl ⟨rfl, fI3213, fJ0, fQ3214, rfl, by
          intro q9 hq9
          exact iA q9 (by omega)⟩
      · refine WP_aload_n dX11_copy_8 rfl ?_
        refine WP_iload_n dX11_copy_9 rfl ?_
        refine WP_aload_n dX11_copy_10 rfl ?_
        refine WP_iload_n dX11_copy_11 rfl ?_
        have fB := fI3213
        refine WE_ia dX11_copy_12 (ly_is hy 28 13 rfl) (ly_n hy 28 21 rfl) (by omega) (by omega) (fun v3218 ev3218 => ?_)
        refine WE_is dX11_copy_13 (ly_is hy 21 13 rfl) (ly_n hy 21 21 rfl) (by omega) (by omega) (fun I3219 eI3219 => ?_)
        have e3220 : I3219 (ad g 28) i3211.toInt.toNat = v3218 := by rw [eI3219, pp_ne _ _ (Or.inl (ly_ne hy (by decide) (by decide) (by decide)))]; exact ev3218
        have fI3221 : FC g [21] I I3219 := by rw [eI3219]; exact FC_pp fI3213 (by decide)
        have fQ3222 : FQ g [] I I3219 := by rw [eI3219]; exact FQ_ppn (ly_ne hy (by decide) (by decide) (by decide)) fQ3214
        refine WP_iinc (ls' := [(0, _), (1, _), (2, _)]) dX11_copy_14 rfl (by decide) rfl ?_
        have hv3223 : (i3211 + Int32.ofInt (1)).toInt = i3211.toInt + (1) := ia_n rfl (by omega) (by omega)
        generalize i3211 + Int32.ofInt (1) = v3223 at hv3223 ⊢
        refine WP_goto 2 dX11_copy_17 rfl ?_
        refine WP_sub (fc rfl (fc rfl (fc rfl fn))) (ihlp3215 v3223 I3219 fI3221 fQ3222 ?_ ?_)
        · refine ⟨k + 1, by omega, by omega, fun q hq => ?_⟩
          rw [eI3219, show i3211.toInt.toNat = k by omega, pp_at]
          split
          · rename_i e9
            rw [e9, ← ev3218, show i3211.toInt.toNat = k by omega, FC_at hy fB 28 (by decide) (by decide)]
          · exact iA q (by omega)
        · omega
  refine WP_sub (fc rfl (fc rfl (fc rfl fn))) (lp3215 _ v3210 I fI0 fQ0 ?_ (Nat.lt_succ_self _))
  · exact ⟨0, by omega, by omega, fun q h => absurd h (Nat.not_lt_zero _)⟩
set_option maxHeartbeats 4000000 in
set_option maxRecDepth 100000 in
theorem em_copy22 {g : GG} {I : pI} {J : pJ} {R : pR} (hy : Ly g) (hr : Rf g R)    : SP g mX11_copy [.ref (ad g 22), .ref (ad g 28)] I J R (fun r I' J' R' => R' = R ∧ FC g [22] I I' ∧ FC g [] J J' ∧ FQ g [] I I' ∧ r = none ∧ (∀ q, q < 21 → I' (ad g 22) q = I (ad g 28) q)) := by
  refine SP_of ⟨by decide, rfl⟩ (Nat.le_of_ble_eq_true rfl) ?_
  have fI0 : FC g [22] I I := FC_rf
  have fJ0 : FC g [] J J := FC_rf
  have fQ0 : FQ g [] I I := FQ_rf
  refine WQ_iconst (0) (0) dX11_copy_0 rfl rfl (fun v3224 hv3224 => ?_)
  refine WP_istore_n (ls' := [(0, _), (1, _), (2, _)]) dX11_copy_1 (by decide) rfl ?_
  have lp3229 : ∀ (mz : Nat) (i3225 : Int32) (I3226 : pI), FC g [22] I I3226 → FQ g [] I I3226 → (∃ k : Nat, i3225.toInt = (k : Int) ∧ k ≤ 21 ∧ ∀ q, q < k → I3226 (ad g 22) q = I (ad g 28) q) → (22 - i3225.toInt.toNat) < mz → WP g mX11_copy 2 [(0, .ref (ad g 22)), (1, .ref (ad g 28)), (2, .int i3225)] [] I3226 J R (fun r I' J' R' => R' = R ∧ FC g [22] I I' ∧ FC g [] J J' ∧ FQ g [] I I' ∧ r = none ∧ (∀ q, q < 21 → I' (ad g 22) q = I (ad g 28) q)) := by
    intro mz
    induction mz with
    | zero =>
      intro i3225 I3226 fI3227 fQ3228 hvlp3229 hmlp3229
      exact absurd hmlp3229 (Nat.not_lt_zero _)
    | succ mz ihlp3229 =>
      intro i3225 I3226 fI3227 fQ3228 hvlp3229 hmlp3229
      obtain ⟨k, ik, ik4, iA⟩ := hvlp3229
      refine WP_iload_n dX11_copy_2 rfl ?_
      refine WP_aload_n dX11_copy_3 rfl ?_
      refine WP_alen dX11_copy_4 (ly_is hy 22 13 rfl) (by decide) ?_
      rw [(ly_n hy 22 21 rfl)]
      obtain ⟨v3230, hv3230, ev3230⟩ : ∃ v : Int32, v.toInt = 21 ∧ nI 21 = v := ⟨_, nI_toInt (by decide), rfl⟩
      rw [ev3230]; clear ev3230
      refine WQ_icmp_ge 20 dX11_copy_5 rfl (fun c3230 => ?_) (fun c3230 => ?_)
      · exact WP_vret dX11_copy_20 rfl ⟨rfl, fI3227, fJ0, fQ3228, rfl, by
          intro q9 hq9
          exact iA q9 (by omega)⟩
      · refine WP_aload_n dX11_copy_8 rfl ?_
        refine WP_iload_n dX11_copy_9 rfl ?_
        refine WP_aload_n dX11_copy_10 rfl ?_
        refine WP_iload_n dX11_copy_11 rfl ?_
        have fB := fI3227
        refine WE_ia dX11_copy_12 (ly_is hy 28 13 rfl) (ly_n hy 28 21 rfl) (by omega) (by omega) (fun v3232 ev3232 => ?_)
        refine WE_is dX11_copy_13 (ly_is hy 22 13 rfl) (ly_n hy 22 21 rfl) (by omega) (by omega) (fun I3233 eI3233 => ?_)
        have e3234 : I3233 (ad g 28) i3225.toInt.toNat = v3232 := by rw [eI3233, pp_ne _ _ (Or.inl (ly_ne hy (by decide) (by decide) (by decide)))]; exact ev3232
        have fI3235 : FC g [22] I I3233 := by rw [eI3233]; exact FC_pp fI3227 (by decide)
        have fQ3236 : FQ g [] I I3233 := by rw [eI3233]; exact FQ_ppn (ly_ne hy (by decide) (by decide) (by decide)) fQ3228
        refine WP_iinc (ls' := [(0, _), (1, _), (2, _)]) dX11_copy_14 rfl (by decide) rfl ?_
        have hv3237 : (i3225 + Int32.ofInt (1)).toInt = i3225.toInt + (1) := ia_n rfl (by omega) (by omega)
        generalize i3225 + Int32.ofInt (1) = v3237 at hv3237 ⊢
        refine WP_goto 2 dX11_copy_17 rfl ?_
        refine WP_sub (fc rfl (fc rfl (fc rfl fn))) (ihlp3229 v3237 I3233 fI3235 fQ3236 ?_ ?_)
        · refine ⟨k + 1, by omega, by omega, fun q hq => ?_⟩
          rw [eI3233, show i3225.toInt.toNat = k by omega, pp_at]
          split
          · rename_i e9
            rw [e9, ← ev3232, show i3225.toInt.toNat = k by omega, FC_at hy fB 28 (by decide) (by decide)]
          · exact iA q (by omega)
        · omega
  refine WP_sub (fc rfl (fc rfl (fc rfl fn))) (lp3229 _ v3224 I fI0 fQ0 ?_ (Nat.lt_succ_self _))
  · exact ⟨0, by omega, by omega, fun q h => absurd h (Nat.not_lt_zero _)⟩
set_option maxHeartbeats 4000000 in
set_option maxRecDepth 100000 in
theorem em_copy23 {g : GG} {I : pI} {J : pJ} {R : pR} (hy : Ly g) (hr : Rf g R)    : SP g mX11_copy [.ref (ad g 23), .ref (ad g 29)] I J R (fun r I' J' R' => R' = R ∧ FC g [23] I I' ∧ FC g [] J J' ∧ FQ g [] I I' ∧ r = none ∧ (∀ q, q < 21 → I' (ad g 23) q = I (ad g 29) q)) := by
  refine SP_of ⟨by decide, rfl⟩ (Nat.le_of_ble_eq_true rfl) ?_
  have fI0 : FC g [23] I I := FC_rf
  have fJ0 : FC g [] J J := FC_rf
  have fQ0 : FQ g [] I I := FQ_rf
  refine WQ_iconst (0) (0) dX11_copy_0 rfl rfl (fun v3238 hv3238 => ?_)
  refine WP_istore_n (ls' := [(0, _), (1, _), (2, _)]) dX11_copy_1 (by decide) rfl ?_
  have lp3243 : ∀ (mz : Nat) (i3239 : Int32) (I3240 : pI), FC g [23] I I3240 → FQ g [] I I3240 → (∃ k : Nat, i3239.toInt = (k : Int) ∧ k ≤ 21 ∧ ∀ q, q < k → I3240 (ad g 23) q = I (ad g 29) q) → (22 - i3239.toInt.toNat) < mz → WP g mX11_copy 2 [(0, .ref (ad g 23)), (1, .ref (ad g 29)), (2, .int i3239)] [] I3240 J R (fun r I' J' R' => R' = R ∧ FC g [23] I I' ∧ FC g [] J J' ∧ FQ g [] I I' ∧ r = none ∧ (∀ q, q < 21 → I' (ad g 23) q = I (ad g 29) q)) := by
    intro mz
    induction mz with
    | zero =>
      intro i3239 I3240 fI3241 fQ3242 hvlp3243 hmlp3243
      exact absurd hmlp3243 (Nat.not_lt_zero _)
    | succ mz ihlp3243 =>
      intro i3239 I3240 fI3241 fQ3242 hvlp3243 hmlp3243
      obtain ⟨k, ik, ik4, iA⟩ := hvlp3243
      refine WP_iload_n dX11_copy_2 rfl ?_
      refine WP_aload_n dX11_copy_3 rfl ?_
      refine WP_alen dX11_copy_4 (ly_is hy 23 13 rfl) (by decide) ?_
      rw [(ly_n hy 23 21 rfl)]
      obtain ⟨v3244, hv3244, ev3244⟩ : ∃ v : Int32, v.toInt = 21 ∧ nI 21 = v := ⟨_, nI_toInt (by decide), rfl⟩
      rw [ev3244]; clear ev3244
      refine WQ_icmp_ge 20 dX11_copy_5 rfl (fun c3244 => ?_) (fun c3244 => ?_)
      · exact WP_vret dX11_copy_20 rfl ⟨rfl, fI3241, fJ0, fQ3242, rfl, by
          intro q9 hq9
          exact iA q9 (by omega)⟩
      · refine WP_aload_n dX11_copy_8 rfl ?_
        refine WP_iload_n dX11_copy_9 rfl ?_
        refine WP_aload_n dX11_copy_10 rfl ?_
        refine WP_iload_n dX11_copy_11 rfl ?_
        have fB := fI3241
        refine WE_ia dX11_copy_12 (ly_is hy 29 13 rfl) (ly_n hy 29 21 rfl) (by omega) (by omega) (fun v3246 ev3246 => ?_)
        refine WE_is dX11_copy_13 (ly_is hy 23 13 rfl) (ly_n hy 23 21 rfl) (by omega) (by omega) (fun I3247 eI3247 => ?_)
        have e3248 : I3247 (ad g 29) i3239.toInt.toNat = v3246 := by rw [eI3247, pp_ne _ _ (Or.inl (ly_ne hy (by decide) (by decide) (by decide)))]; exact ev3246
        have fI3249 : FC g [23] I I3247 := by rw [eI3247]; exact FC_pp fI3241 (by decide)
        have fQ3250 : FQ g [] I I3247 := by rw [eI3247]; exact FQ_ppn (ly_ne hy (by decide) (by decide) (by decide)) fQ3242
        refine WP_iinc (ls' := [(0, _), (1, _), (2, _)]) dX11_copy_14 rfl (by decide) rfl ?_
        have hv3251 : (i3239 + Int32.ofInt (1)).toInt = i3239.toInt + (1) := ia_n rfl (by omega) (by omega)
        generalize i3239 + Int32.ofInt (1) = v3251 at hv3251 ⊢
        refine WP_goto 2 dX11_copy_17 rfl ?_
        refine WP_sub (fc rfl (fc rfl (fc rfl fn))) (ihlp3243 v3251 I3247 fI3249 fQ3250 ?_ ?_)
        · refine ⟨k + 1, by omega, by omega, fun q hq => ?_⟩
          rw [eI3247, show i3239.toInt.toNat = k by omega, pp_at]
          split
          · rename_i e9
            rw [e9, ← ev3246, show i3239.toInt.toNat = k by omega, FC_at hy fB 29 (by decide) (by decide)]
          · exact iA q (by omega)
        · omega
  refine WP_sub (fc rfl (fc rfl (fc rfl fn))) (lp3243 _ v3238 I fI0 fQ0 ?_ (Nat.lt_succ_self _))
  · exact ⟨0, by omega, by omega, fun q h => absurd h (Nat.not_lt_zero _)⟩
set_option maxHeartbeats 4000000 in
set_option maxRecDepth 100000 in
theorem em_copy24 {g : GG} {I : pI} {J : pJ} {R : pR} (hy : Ly g) (hr : Rf g R)    : SP g mX11_copy [.ref (ad g 24), .ref (ad g 30)] I J R (fun r I' J' R' => R' = R ∧ FC g [24] I I' ∧ FC g [] J J' ∧ FQ g [] I I' ∧ r = none ∧ (∀ q, q < 28 → I' (ad g 24) q = I (ad g 30) q)) := by
  refine SP_of ⟨by decide, rfl⟩ (Nat.le_of_ble_eq_true rfl) ?_
  have fI0 : FC g [24] I I := FC_rf
  have fJ0 : FC g [] J J := FC_rf
  have fQ0 : FQ g [] I I := FQ_rf
  refine WQ_iconst (0) (0) dX11_copy_0 rfl rfl (fun v3252 hv3252 => ?_)
  refine WP_istore_n (ls' := [(0, _), (1, _), (2, _)]) dX11_copy_1 (by decide) rfl ?_
  have lp3257 : ∀ (mz : Nat) (i3253 : Int32) (I3254 : pI), FC g [24] I I3254 → FQ g [] I I3254 → (∃ k : Nat, i3253.toInt = (k : Int) ∧ k ≤ 28 ∧ ∀ q, q < k → I3254 (ad g 24) q = I (ad g 30) q) → (29 - i3253.toInt.toNat) < mz → WP g mX11_copy 2 [(0, .ref (ad g 24)), (1, .ref (ad g 30)), (2, .int i3253)] [] I3254 J R (fun r I' J' R' => R' = R ∧ FC g [24] I I' ∧ FC g [] J J' ∧ FQ g [] I I' ∧ r = none ∧ (∀ q, q < 28 → I' (ad g 24) q = I (ad g 30) q)) := by
    intro mz
    induction mz with
    | zero =>
      intro i3253 I3254 fI3255 fQ3256 hvlp3257 hmlp3257
      exact absurd hmlp3257 (Nat.not_lt_zero _)
    | succ mz ihlp3257 =>
      intro i3253 I3254 fI3255 fQ3256 hvlp3257 hmlp3257
      obtain ⟨k, ik, ik4, iA⟩ := hvlp3257
      refine WP_iload_n dX11_copy_2 rfl ?_
      refine WP_aload_n dX11_copy_3 rfl ?_
      refine WP_alen dX11_copy_4 (ly_is hy 24 13 rfl) (by decide) ?_
      rw [(ly_n hy 24 28 rfl)]
      obtain ⟨v3258, hv3258, ev3258⟩ : ∃ v : Int32, v.toInt = 28 ∧ nI 28 = v := ⟨_, nI_toInt (by decide), rfl⟩
      rw [ev3258]; clear ev3258
      refine WQ_icmp_ge 20 dX11_copy_5 rfl (fun c3258 => ?_) (fun c3258 => ?_)
      · exact WP_vret dX11_copy_20 rfl ⟨rfl, fI3255, fJ0, fQ3256, rfl, by
          intro q9 hq9
          exact iA q9 (by omega)⟩
      · refine WP_aload_n dX11_copy_8 rfl ?_
        refine WP_iload_n dX11_copy_9 rfl ?_
        refine WP_aload_n dX11_copy_10 rfl ?_
        refine WP_iload_n dX11_copy_11 rfl ?_
        have fB := fI3255
        refine WE_ia dX11_copy_12 (ly_is hy 30 13 rfl) (ly_n hy 30 28 rfl) (by omega) (by omega) (fun v3260 ev3260 => ?_)
        refine WE_is dX11_copy_13 (ly_is hy 24 13 rfl) (ly_n hy 24 28 rfl) (by omega) (by omega) (fun I3261 eI3261 => ?_)
        have e3262 : I3261 (ad g 30) i3253.toInt.toNat = v3260 := by rw [eI3261, pp_ne _ _ (Or.inl (ly_ne hy (by decide) (by decide) (by decide)))]; exact ev3260
        have fI3263 : FC g [24] I I3261 := by rw [eI3261]; exact FC_pp fI3255 (by decide)
        have fQ3264 : FQ g [] I I3261 := by rw [eI3261]; exact FQ_ppn (ly_ne hy (by decide) (by decide) (by decide)) fQ3256
        refine WP_iinc (ls' := [(0, _), (1, _), (2, _)]) dX11_copy_14 rfl (by decide) rfl ?_
        have hv3265 : (i3253 + Int32.ofInt (1)).toInt = i3253.toInt + (1) := ia_n rfl (by omega) (by omega)
        generalize i3253 + Int32.ofInt (1) = v3265 at hv3265 ⊢
        refine WP_goto 2 dX11_copy_17 rfl ?_
        refine WP_sub (fc rfl (fc rfl (fc rfl fn))) (ihlp3257 v3265 I3261 fI3263 fQ3264 ?_ ?_)
        · refine ⟨k + 1, by omega, by omega, fun q hq => ?_⟩
          rw [eI3261, show i3253.toInt.toNat = k by omega, pp_at]
          split
          · rename_i e9
            rw [e9, ← ev3260, show i3253.toInt.toNat = k by omega, FC_at hy fB 30 (by decide) (by decide)]
          · exact iA q (by omega)
        · omega
  refine WP_sub (fc rfl (fc rfl (fc rfl fn))) (lp3257 _ v3252 I fI0 fQ0 ?_ (Nat.lt_succ_self _))
  · exact ⟨0, by omega, by omega, fun q h => absurd h (Nat.not_lt_zero _)⟩
set_option maxHeartbeats 4000000 in
set_option maxRecDepth 100000 in
theorem em_copy25 {g : GG} {I : pI} {J : pJ} {R : pR} (hy : Ly g) (hr : Rf g R)    : SP g mX11_copy [.ref (ad g 25), .ref (ad g 31)] I J R (fun r I' J' R' => R' = R ∧ FC g [25] I I' ∧ FC g [] J J' ∧ FQ g [] I I' ∧ r = none ∧ (∀ q, q < 28 → I' (ad g 25) q = I (ad g 31) q)) := by
  refine SP_of ⟨by decide, rfl⟩ (Nat.le_of_ble_eq_true rfl) ?_
  have fI0 : FC g [25] I I := FC_rf
  have fJ0 : FC g [] J J := FC_rf
  have fQ0 : FQ g [] I I := FQ_rf
  refine WQ_iconst (0) (0) dX11_copy_0 rfl rfl (fun v3266 hv3266 => ?_)
  refine WP_istore_n (ls' := [(0, _), (1, _), (2, _)]) dX11_copy_1 (by decide) rfl ?_
  have lp3271 : ∀ (mz : Nat) (i3267 : Int32) (I3268 : pI), FC g [25] I I3268 → FQ g [] I I3268 → (∃ k : Nat, i3267.toInt = (k : Int) ∧ k ≤ 28 ∧ ∀ q, q < k → I3268 (ad g 25) q = I (ad g 31) q) → (29 - i3267.toInt.toNat) < mz → WP g mX11_copy 2 [(0, .ref (ad g 25)), (1, .ref (ad g 31)), (2, .int i3267)] [] I3268 J R (fun r I' J' R' => R' = R ∧ FC g [25] I I' ∧ FC g [] J J' ∧ FQ g [] I I' ∧ r = none ∧ (∀ q, q < 28 → I' (ad g 25) q = I (ad g 31) q)) := by
    intro mz
    induction mz with
    | zero =>
      intro i3267 I3268 fI3269 fQ3270 hvlp3271 hmlp3271
      exact absurd hmlp3271 (Nat.not_lt_zero _)
    | succ mz ihlp3271 =>
      intro i3267 I3268 fI3269 fQ3270 hvlp3271 hmlp3271
      obtain ⟨k, ik, ik4, iA⟩ := hvlp3271
      refine WP_iload_n dX11_copy_2 rfl ?_
      refine WP_aload_n dX11_copy_3 rfl ?_
      refine WP_alen dX11_copy_4 (ly_is hy 25 13 rfl) (by decide) ?_
      rw [(ly_n hy 25 28 rfl)]
      obtain ⟨v3272, hv3272, ev3272⟩ : ∃ v : Int32, v.toInt = 28 ∧ nI 28 = v := ⟨_, nI_toInt (by decide), rfl⟩
      rw [ev3272]; clear ev3272
      refine WQ_icmp_ge 20 dX11_copy_5 rfl (fun c3272 => ?_) (fun c3272 => ?_)
      · exact WP_vret dX11_copy_20 rfl ⟨rfl, fI3269, fJ0, fQ3270, rfl, by
          intro q9 hq9
          exact iA q9 (by omega)⟩
      · refine WP_aload_n dX11_copy_8 rfl ?_
        refine WP_iload_n dX11_copy_9 rfl ?_
        refine WP_aload_n dX11_copy_10 rfl ?_
        refine WP_iload_n dX11_copy_11 rfl ?_
        have fB := fI3269
        refine WE_ia dX11_copy_12 (ly_is hy 31 13 rfl) (ly_n hy 31 28 rfl) (by omega) (by omega) (fun v3274 ev3274 => ?_)
        refine WE_is dX11_copy_13 (ly_is hy 25 13 rfl) (ly_n hy 25 28 rfl) (by omega) (by omega) (fun I3275 eI3275 => ?_)
        have e3276 : I3275 (ad g 31) i3267.toInt.toNat = v3274 := by rw [eI3275, pp_ne _ _ (Or.inl (ly_ne hy (by decide) (by decide) (by decide)))]; exact ev3274
        have fI3277 : FC g [25] I I3275 := by rw [eI3275]; exact FC_pp fI3269 (by decide)
        have fQ3278 : FQ g [] I I3275 := by rw [eI3275]; exact FQ_ppn (ly_ne hy (by decide) (by decide) (by decide)) fQ3270
        refine WP_iinc (ls' := [(0, _), (1, _), (2, _)]) dX11_copy_14 rfl (by decide) rfl ?_
        have hv3279 : (i3267 + Int32.ofInt (1)).toInt = i3267.toInt + (1) := ia_n rfl (by omega) (by omega)
        generalize i3267 + Int32.ofInt (1) = v3279 at hv3279 ⊢
        refine WP_goto 2 dX11_copy_17 rfl ?_
        refine WP_sub (fc rfl (fc rfl (fc rfl fn))) (ihlp3271 v3279 I3275 fI3277 fQ3278 ?_ ?_)
        · refine ⟨k + 1, by omega, by omega, fun q hq => ?_⟩
          rw [eI3275, show i3267.toInt.toNat = k by omega, pp_at]
          split
          · rename_i e9
            rw [e9, ← ev3274, show i3267.toInt.toNat = k by omega, FC_at hy fB 31 (by decide) (by decide)]
          · exact iA q (by omega)
        · omega
  refine WP_sub (fc rfl (fc rfl (fc rfl fn))) (lp3271 _ v3266 I fI0 fQ0 ?_ (Nat.lt_succ_self _))
  · exact ⟨0, by omega, by omega, fun q h => absurd h (Nat.not_lt_zero _)⟩
set_option maxHeartbeats 4000000 in
set_option maxRecDepth 100000 in
theorem em_copy26 {g : GG} {I : pI} {J : pJ} {R : pR} (hy : Ly g) (hr : Rf g R)    : SP g mX11_copy [.ref (ad g 26), .ref (ad g 32)] I J R (fun r I' J' R' => R' = R ∧ FC g [26] I I' ∧ FC g [] J J' ∧ FQ g [] I I' ∧ r = none ∧ (∀ q, q < 28 → I' (ad g 26) q = I (ad g 32) q)) := by
  refine SP_of ⟨by decide, rfl⟩ (Nat.le_of_ble_eq_true rfl) ?_
  have fI0 : FC g [26] I I := FC_rf
  have fJ0 : FC g [] J J := FC_rf
  have fQ0 : FQ g [] I I := FQ_rf
  refine WQ_iconst (0) (0) dX11_copy_0 rfl rfl (fun v3280 hv3280 => ?_)
  refine WP_istore_n (ls' := [(0, _), (1, _), (2, _)]) dX11_copy_1 (by decide) rfl ?_
  have lp3285 : ∀ (mz : Nat) (i3281 : Int32) (I3282 : pI), FC g [26] I I3282 → FQ g [] I I3282 → (∃ k : Nat, i3281.toInt = (k : Int) ∧ k ≤ 28 ∧ ∀ q, q < k → I3282 (ad g 26) q = I (ad g 32) q) → (29 - i3281.toInt.toNat) < mz → WP g mX11_copy 2 [(0, .ref (ad g 26)), (1, .ref (ad g 32)), (2, .int i3281)] [] I3282 J R (fun r I' J' R' => R' = R ∧ FC g [26] I I' ∧ FC g [] J J' ∧ FQ g [] I I' ∧ r = none ∧ (∀ q, q < 28 → I' (ad g 26) q = I (ad g 32) q)) := by
    intro mz
    induction mz with
    | zero =>
      intro i3281 I3282 fI3283 fQ3284 hvlp3285 hmlp3285
      exact absurd hmlp3285 (Nat.not_lt_zero _)
    | succ mz ihlp3285 =>
      intro i3281 I3282 fI3283 fQ3284 hvlp3285 hmlp3285
      obtain ⟨k, ik, ik4, iA⟩ := hvlp3285
      refine WP_iload_n dX11_copy_2 rfl ?_
      refine WP_aload_n dX11_copy_3 rfl ?_
      refine WP_alen dX11_copy_4 (ly_is hy 26 13 rfl) (by decide) ?_
      rw [(ly_n hy 26 28 rfl)]
      obtain ⟨v3286, hv3286, ev3286⟩ : ∃ v : Int32, v.toInt = 28 ∧ nI 28 = v := ⟨_, nI_toInt (by decide), rfl⟩
      rw [ev3286]; clear ev3286
      refine WQ_icmp_ge 20 dX11_copy_5 rfl (fun c3286 => ?_) (fun c3286 => ?_)
      · exact WP_vret dX11_copy_20 rfl ⟨rfl, fI3283, fJ0, fQ3284, rfl, by
          intro q9 hq9
          exact iA q9 (by omega)⟩
      · refine WP_aload_n dX11_copy_8 rfl ?_
        refine WP_iload_n dX11_copy_9 rfl ?_
        refine WP_aload_n dX11_copy_10 rfl ?_
        refine WP_iload_n dX11_copy_11 rfl ?_
        have fB := fI3283
        refine WE_ia dX11_copy_12 (ly_is hy 32 13 rfl) (ly_n hy 32 28 rfl) (by omega) (by omega) (fun v3288 ev3288 => ?_)
        refine WE_is dX11_copy_13 (ly_is hy 26 13 rfl) (ly_n hy 26 28 rfl) (by omega) (by omega) (fun I3289 eI3289 => ?_)
        have e3290 : I3289 (ad g 32) i3281.toInt.toNat = v3288 := by rw [eI3289, pp_ne _ _ (Or.inl (ly_ne hy (by decide) (by decide) (by decide)))]; exact ev3288
        have fI3291 : FC g [26] I I3289 := by rw [eI3289]; exact FC_pp fI3283 (by decide)
        have fQ3292 : FQ g [] I I3289 := by rw [eI3289]; exact FQ_ppn (ly_ne hy (by decide) (by decide) (by decide)) fQ3284
        refine WP_iinc (ls' := [(0, _), (1, _), (2, _)]) dX11_copy_14 rfl (by decide) rfl ?_
        have hv3293 : (i3281 + Int32.ofInt (1)).toInt = i3281.toInt + (1) := ia_n rfl (by omega) (by omega)
        generalize i3281 + Int32.ofInt (1) = v3293 at hv3293 ⊢
        refine WP_goto 2 dX11_copy_17 rfl ?_
        refine WP_sub (fc rfl (fc rfl (fc rfl fn))) (ihlp3285 v3293 I3289 fI3291 fQ3292 ?_ ?_)
        · refine ⟨k + 1, by omega, by omega, fun q hq => ?_⟩
          rw [eI3289, show i3281.toInt.toNat = k by omega, pp_at]
          split
          · rename_i e9
            rw [e9, ← ev3288, show i3281.toInt.toNat = k by omega, FC_at hy fB 32 (by decide) (by decide)]
          · exact iA q (by omega)
        · omega
  refine WP_sub (fc rfl (fc rfl (fc rfl fn))) (lp3285 _ v3280 I fI0 fQ0 ?_ (Nat.lt_succ_self _))
  · exact ⟨0, by omega, by omega, fun q h => absurd h (Nat.not_lt_zero _)⟩
set_option maxHeartbeats 4000000 in
set_option maxRecDepth 100000 in
theorem em_begin38 {g : GG} {I : pI} {J : pJ} {R : pR} (hy : Ly g) (hr : Rf g R) {mm : Int}  (hs : (I (ad g 0) 10).toInt = mm) (hm : 0 ≤ mm ∧ mm ≤ 4) : SP g mX11_begin [.ref (ad g 0), .ref (ad g 38)] I J R (fun r I' J' R' => R' = R ∧ FC g [38] I I' ∧ FC g [] J J' ∧ FQ g [] I I' ∧ r = none ∧ ((∀ q : Nat, q < 35 → (q < 28 ∨ 32 ≤ q) → (I' (ad g 38) q).toInt = if (q : Int) < mm then (I (ad g 10) q).toInt else 0) ∧ (∀ q, 28 ≤ q → q < 32 → I' (ad g 38) q = I (ad g 38) q))) := by
  refine SP_of ⟨by decide, rfl⟩ (Nat.le_of_ble_eq_true rfl) ?_
  have fI0 : FC g [38] I I := FC_rf
  have fJ0 : FC g [] J J := FC_rf
  have fQ0 : FQ g [] I I := FQ_rf
  obtain ⟨w3294, ew3294⟩ : ∃ w : Int32, I (ad g 0) 10 = w := ⟨_, rfl⟩
  try simp only [ew3294] at hs
  refine WQ_iconst (0) (0) dX11_begin_0 rfl rfl (fun v3295 hv3295 => ?_)
  refine WP_istore_n (ls' := [(0, _), (1, _), (2, _)]) dX11_begin_1 (by decide) rfl ?_
  have lp3300 : ∀ (mz : Nat) (i3296 : Int32) (I3297 : pI), FC g [38] I I3297 → FQ g [] I I3297 → (∃ k : Nat, i3296.toInt = (k : Int) ∧ k ≤ 35 ∧ (∀ q, q < k → (q < 28 ∨ 32 ≤ q) → (I3297 (ad g 38) q).toInt = 0) ∧ (∀ q, 28 ≤ q → q < 32 → I3297 (ad g 38) q = I (ad g 38) q)) → (36 - i3296.toInt.toNat) < mz → WP g mX11_begin 2 [(0, .ref (ad g 0)), (1, .ref (ad g 38)), (2, .int i3296)] [] I3297 J R (fun r I' J' R' => R' = R ∧ FC g [38] I I' ∧ FC g [] J J' ∧ FQ g [] I I' ∧ r = none ∧ ((∀ q : Nat, q < 35 → (q < 28 ∨ 32 ≤ q) → (I' (ad g 38) q).toInt = if (q : Int) < mm then (I (ad g 10) q).toInt else 0) ∧ (∀ q, 28 ≤ q → q < 32 → I' (ad g 38) q = I (ad g 38) q))) := by
    intro mz
    induction mz with
    | zero =>
      intro i3296 I3297 fI3298 fQ3299 hvlp3300 hmlp3300
      exact absurd hmlp3300 (Nat.not_lt_zero _)
    | succ mz ihlp3300 =>
      intro i3296 I3297 fI3298 fQ3299 hvlp3300 hmlp3300
      obtain ⟨w3301, ew3301⟩ : ∃ w : Int32, I3297 (ad g 0) 10 = w := ⟨_, rfl⟩
      try simp only [ew3301, ew3294] at hvlp3300 hmlp3300
      obtain ⟨k, ik, ik4, iA, iB⟩ := hvlp3300
      refine WP_iload_n dX11_begin_2 rfl ?_
      refine WQ_bipush (35) (35) dX11_begin_3 rfl rfl (fun v3302 hv3302 => ?_)
      refine WQ_icmp_ge 30 dX11_begin_5 rfl (fun c3302 => ?_) (fun c3302 => ?_)
      · refine WQ_iconst (0) (0) dX11_begin_30 rfl rfl (fun v3304 hv3304 => ?_)
        refine WP_istore_n (ls' := [(0, _), (1, _), (2, _)]) dX11_begin_31 (by decide) rfl ?_
        have lp3309 : ∀ (mz : Nat) (i3305 : Int32) (I3306 : pI), FC g [38] I I3306 → FQ g [] I I3306 → (∃ k : Nat, i3305.toInt = (k : Int) ∧ (k : Int) ≤ mm ∧ (∀ q, q < 35 → (q < 28 ∨ 32 ≤ q) → (I3306 (ad g 38) q).toInt = if q < k then (I (ad g 10) q).toInt else 0) ∧ (∀ q, 28 ≤ q → q < 32 → I3306 (ad g 38) q = I (ad g 38) q)) → (5 - i3305.toInt.toNat) < mz → WP g mX11_begin 32 [(0, .ref (ad g 0)), (1, .ref (ad g 38)), (2, .int i3305)] [] I3306 J R (fun r I' J' R' => R' = R ∧ FC g [38] I I' ∧ FC g [] J J' ∧ FQ g [] I I' ∧ r = none ∧ ((∀ q : Nat, q < 35 → (q < 28 ∨ 32 ≤ q) → (I' (ad g 38) q).toInt = if (q : Int) < mm then (I (ad g 10) q).toInt else 0) ∧ (∀ q, 28 ≤ q → q < 32 → I' (ad g 38) q = I (ad g 38) q))) := by
          intro mz
          induction mz with
          | zero =>
            intro i3305 I3306 fI3307 fQ3308 hvlp3309 hmlp3309
            exact absurd hmlp3309 (Nat.not_lt_zero _)
          | succ mz ihlp3309 =>
            intro i3305 I3306 fI3307 fQ3308 hvlp3309 hmlp3309
            obtain ⟨w3310, ew3310⟩ : ∃ w : Int32, I3306 (ad g 0) 10 = w := ⟨_, rfl⟩
            try simp only [ew3310, ew3294] at hvlp3309 hmlp3309
            obtain ⟨k, ik, ik4, jA, jB⟩ := hvlp3309
            refine WP_iload_n dX11_begin_32 rfl ?_
            refine WP_aload_n dX11_begin_33 rfl ?_
            refine WQ_getim dX11_begin_34 fX11_329 rfl (ly_is hy 0 11 rfl) ew3310 ?_
            refine WQ_icmp_ge 57 dX11_begin_37 rfl (fun c3310 => ?_) (fun c3310 => ?_)
            · exact WP_vret dX11_begin_57 rfl ⟨rfl, fI3307, fJ0, fQ3308, rfl, by
                try simp only [ew3310, ew3294]
                refine ⟨fun q hq h9 => ?_, jB⟩
                rw [jA q hq h9]
                by_cases e8 : q < k
                · rw [if_pos e8, if_pos (by omega)]
                · rw [if_neg e8, if_neg (by omega)]⟩
            · refine WP_aload_n dX11_begin_40 rfl ?_
              refine WQ_iconst (0) (0) dX11_begin_41 rfl rfl (fun v3312 hv3312 => ?_)
              refine WP_iload_n dX11_begin_42 rfl ?_
              refine WQ_iadd dX11_begin_43 (by omega) (by omega) (fun v3313 hv3313 => ?_)
              refine WP_aload_n dX11_begin_44 rfl ?_
              refine WP_getr dX11_begin_45 fX11_241 rfl (ly_is hy 0 11 rfl) (rf hr 0 28 10 (by decide)) ?_
              refine WP_iload_n dX11_begin_48 rfl ?_
              have fB := fI3307
              refine WE_ia dX11_begin_49 (ly_is hy 10 13 rfl) (ly_n hy 10 4 rfl) (by omega) (by omega) (fun v3314 ev3314 => ?_)
              refine WE_is dX11_begin_50 (ly_is hy 38 13 rfl) (ly_n hy 38 35 rfl) (by omega) (by omega) (fun I3315 eI3315 => ?_)
              have e3316 : I3315 (ad g 0) 10 = w3310 := by rw [eI3315, pp_ne _ _ (Or.inl (ly_ne hy (by decide) (by decide) (by decide)))]; exact ew3310
              have e3317 : I3315 (ad g 10) i3305.toInt.toNat = v3314 := by rw [eI3315, pp_ne _ _ (Or.inl (ly_ne hy (by decide) (by decide) (by decide)))]; exact ev3314
              have fI3318 : FC g [38] I I3315 := by rw [eI3315]; exact FC_pp fI3307 (by decide)
              have fQ3319 : FQ g [] I I3315 := by rw [eI3315]; exact FQ_ppn (ly_ne hy (by decide) (by decide) (by decide)) fQ3308
              refine WP_iinc (ls' := [(0, _), (1, _), (2, _)]) dX11_begin_51 rfl (by decide) rfl ?_
              have hv3320 : (i3305 + Int32.ofInt (1)).toInt = i3305.toInt + (1) := ia_n rfl (by omega) (by omega)
              generalize i3305 + Int32.ofInt (1) = v3320 at hv3320 ⊢
              refine WP_goto 32 dX11_begin_54 rfl ?_
              refine WP_sub (fc rfl (fc rfl (fc rfl fn))) (ihlp3309 v3320 I3315 fI3318 fQ3319 ?_ ?_)
              · try simp only [e3316, ew3294]
                refine ⟨k + 1, by omega, by omega, fun q hq h9 => ?_, fun q h8 h9 => ?_⟩
                · rw [eI3315, show v3313.toInt.toNat = k by omega, pp_at]
                  split
                  · rename_i e9
                    rw [e9, if_pos (by omega), ← ev3314, show i3305.toInt.toNat = k by omega, FC_at hy fB 10 (by decide) (by decide)]
                  · rename_i e9
                    rw [jA q hq h9]
                    by_cases e8 : q < k
                    · rw [if_pos e8, if_pos (by omega)]
                    · rw [if_neg e8, if_neg (by omega)]
                · rw [eI3315, show v3313.toInt.toNat = k by omega, pp_at, if_neg (by omega)]; exact jB q h8 h9
              · try simp only [e3316, ew3294]
                omega
        refine WP_sub (fc rfl (fc rfl (fc rfl fn))) (lp3309 _ v3304 I3297 fI3298 fQ3299 ?_ (Nat.lt_succ_self _))
        · try simp only [ew3301, ew3294]
          refine ⟨0, by omega, by omega, fun q hq h9 => ?_, iB⟩
          rw [if_neg (Nat.not_lt_zero _)]
          exact iA q (by omega) h9
      · refine WP_iload_n dX11_begin_8 rfl ?_
        refine WQ_bipush (28) (28) dX11_begin_9 rfl rfl (fun v3321 hv3321 => ?_)
        refine WQ_icmp_lt 20 dX11_begin_11 rfl (fun c3321 => ?_) (fun c3321 => ?_)
        · refine WP_aload_n dX11_begin_20 rfl ?_
          refine WP_iload_n dX11_begin_21 rfl ?_
          refine WQ_iconst (0) (0) dX11_begin_22 rfl rfl (fun v3323 hv3323 => ?_)
          refine WE_is dX11_begin_23 (ly_is hy 38 13 rfl) (ly_n hy 38 35 rfl) (by omega) (by omega) (fun I3324 eI3324 => ?_)
          have e3325 : I3324 (ad g 0) 10 = w3301 := by rw [eI3324, pp_ne _ _ (Or.inl (ly_ne hy (by decide) (by decide) (by decide)))]; exact ew3301
          have fI3326 : FC g [38] I I3324 := by rw [eI3324]; exact FC_pp fI3298 (by decide)
          have fQ3327 : FQ g [] I I3324 := by rw [eI3324]; exact FQ_ppn (ly_ne hy (by decide) (by decide) (by decide)) fQ3299
          refine WP_iinc (ls' := [(0, _), (1, _), (2, _)]) dX11_begin_24 rfl (by decide) rfl ?_
          have hv3328 : (i3296 + Int32.ofInt (1)).toInt = i3296.toInt + (1) := ia_n rfl (by omega) (by omega)
          generalize i3296 + Int32.ofInt (1) = v3328 at hv3328 ⊢
          refine WP_goto 2 dX11_begin_27 rfl ?_
          refine WP_sub (fc rfl (fc rfl (fc rfl fn))) (ihlp3300 v3328 I3324 fI3326 fQ3327 ?_ ?_)
          · try simp only [e3325, ew3294]
            refine ⟨k + 1, by omega, by omega, fun q hq h9 => ?_, fun q h8 h9 => ?_⟩
            · rw [eI3324, show i3296.toInt.toNat = k by omega, pp_at]
              split
              · omega
              · exact iA q (by omega) h9
            · rw [eI3324, show i3296.toInt.toNat = k by omega, pp_at, if_neg (by omega)]; exact iB q h8 h9
          · try simp only [e3325, ew3294]
            omega
        · refine WP_iload_n dX11_begin_14 rfl ?_
          refine WQ_bipush (32) (32) dX11_begin_15 rfl rfl (fun v3329 hv3329 => ?_)
          refine WQ_icmp_lt 24 dX11_begin_17 rfl (fun c3329 => ?_) (fun c3329 => ?_)
          · refine WP_iinc (ls' := [(0, _), (1, _), (2, _)]) dX11_begin_24 rfl (by decide) rfl ?_
            have hv3331 : (i3296 + Int32.ofInt (1)).toInt = i3296.toInt + (1) := ia_n rfl (by omega) (by omega)
            generalize i3296 + Int32.ofInt (1) = v3331 at hv3331 ⊢
            refine WP_goto 2 dX11_begin_27 rfl ?_
            refine WP_sub (fc rfl (fc rfl (fc rfl fn))) (ihlp3300 v3331 I3297 fI3298 fQ3299 ?_ ?_)
            · try simp only [ew3301, ew3294]
              refine ⟨k + 1, by omega, by omega, fun q hq h9 => iA q (by omega) h9, iB⟩
            · try simp only [ew3301, ew3294]
              omega
          · refine WP_aload_n dX11_begin_20 rfl ?_
            refine WP_iload_n dX11_begin_21 rfl ?_
            refine WQ_iconst (0) (0) dX11_begin_22 rfl rfl (fun v3332 hv3332 => ?_)
            refine WE_is dX11_begin_23 (ly_is hy 38 13 rfl) (ly_n hy 38 35 rfl) (by omega) (by omega) (fun I3333 eI3333 => ?_)
            have e3334 : I3333 (ad g 0) 10 = w3301 := by rw [eI3333, pp_ne _ _ (Or.inl (ly_ne hy (by decide) (by decide) (by decide)))]; exact ew3301
            have fI3335 : FC g [38] I I3333 := by rw [eI3333]; exact FC_pp fI3298 (by decide)
            have fQ3336 : FQ g [] I I3333 := by rw [eI3333]; exact FQ_ppn (ly_ne hy (by decide) (by decide) (by decide)) fQ3299
            refine WP_iinc (ls' := [(0, _), (1, _), (2, _)]) dX11_begin_24 rfl (by decide) rfl ?_
            have hv3337 : (i3296 + Int32.ofInt (1)).toInt = i3296.toInt + (1) := ia_n rfl (by omega) (by omega)
            generalize i3296 + Int32.ofInt (1) = v3337 at hv3337 ⊢
            refine WP_goto 2 dX11_begin_27 rfl ?_
            refine WP_sub (fc rfl (fc rfl (fc rfl fn))) (ihlp3300 v3337 I3333 fI3335 fQ3336 ?_ ?_)
            · try simp only [e3334, ew3294]
              refine ⟨k + 1, by omega, by omega, fun q hq h9 => ?_, fun q h8 h9 => ?_⟩
              · rw [eI3333, show i3296.toInt.toNat = k by omega, pp_at]
                split
                · omega
                · exact iA q (by omega) h9
              · rw [eI3333, show i3296.toInt.toNat = k by omega, pp_at, if_neg (by omega)]; exact iB q h8 h9
            · try simp only [e3334, ew3294]
              omega
  refine WP_sub (fc rfl (fc rfl (fc rfl fn))) (lp3300 _ v3295 I fI0 fQ0 ?_ (Nat.lt_succ_self _))
  · try simp only [ew3294]
    exact ⟨0, by omega, by omega, fun q h => absurd h (Nat.not_lt_zero _), fun q _ _ => rfl⟩
set_option maxHeartbeats 4000000 in
set_option maxRecDepth 100000 in
theorem em_begin39 {g : GG} {I : pI} {J : pJ} {R : pR} (hy : Ly g) (hr : Rf g R) {mm : Int}  (hs : (I (ad g 0) 10).toInt = mm) (hm : 0 ≤ mm ∧ mm ≤ 4) : SP g mX11_begin [.ref (ad g 0), .ref (ad g 39)] I J R (fun r I' J' R' => R' = R ∧ FC g [39] I I' ∧ FC g [] J J' ∧ FQ g [] I I' ∧ r = none ∧ ((∀ q : Nat, q < 35 → (q < 28 ∨ 32 ≤ q) → (I' (ad g 39) q).toInt = if (q : Int) < mm then (I (ad g 10) q).toInt else 0) ∧ (∀ q, 28 ≤ q → q < 32 → I' (ad g 39) q = I (ad g 39) q))) := by
  refine SP_of ⟨by decide, rfl⟩ (Nat.le_of_ble_eq_true rfl) ?_
  have fI0 : FC g [39] I I := FC_rf
  have fJ0 : FC g [] J J := FC_rf
  have fQ0 : FQ g [] I I := FQ_rf
  obtain ⟨w3338, ew3338⟩ : ∃ w : Int32, I (ad g 0) 10 = w := ⟨_, rfl⟩
  try simp only [ew3338] at hs
  refine WQ_iconst (0) (0) dX11_begin_0 rfl rfl (fun v3339 hv3339 => ?_)
  refine WP_istore_n (ls' := [(0, _), (1, _), (2, _)]) dX11_begin_1 (by decide) rfl ?_
  have lp3344 : ∀ (mz : Nat) (i3340 : Int32) (I3341 : pI), FC g [39] I I3341 → FQ g [] I I3341 → (∃ k : Nat, i3340.toInt = (k : Int) ∧ k ≤ 35 ∧ (∀ q, q < k → (q < 28 ∨ 32 ≤ q) → (I3341 (ad g 39) q).toInt = 0) ∧ (∀ q, 28 ≤ q → q < 32 → I3341 (ad g 39) q = I (ad g 39) q)) → (36 - i3340.toInt.toNat) < mz → WP g mX11_begin 2 [(0, .ref (ad g 0)), (1, .ref (ad g 39)), (2, .int i3340)] [] I3341 J R (fun r I' J' R' => R' = R ∧ FC g [39] I I' ∧ FC g [] J J' ∧ FQ g [] I I' ∧ r = none ∧ ((∀ q : Nat, q < 35 → (q < 28 ∨ 32 ≤ q) → (I' (ad g 39) q).toInt = if (q : Int) < mm then (I (ad g 10) q).toInt else 0) ∧ (∀ q, 28 ≤ q → q < 32 → I' (ad g 39) q = I (ad g 39) q))) := by
    intro mz
    induction mz with
    | zero =>
      intro i3340 I3341 fI3342 fQ3343 hvlp3344 hmlp3344
      exact absurd hmlp3344 (Nat.not_lt_zero _)
    | succ mz ihlp3344 =>
      intro i3340 I3341 fI3342 fQ3343 hvlp3344 hmlp3344
      obtain ⟨w3345, ew3345⟩ : ∃ w : Int32, I3341 (ad g 0) 10 = w := ⟨_, rfl⟩
      try simp only [ew3345, ew3338] at hvlp3344 hmlp3344
      obtain ⟨k, ik, ik4, iA, iB⟩ := hvlp3344
      refine WP_iload_n dX11_begin_2 rfl ?_
      refine WQ_bipush (35) (35) dX11_begin_3 rfl rfl (fun v3346 hv3346 => ?_)
      refine WQ_icmp_ge 30 dX11_begin_5 rfl (fun c3346 => ?_) (fun c3346 => ?_)
      · refine WQ_iconst (0) (0) dX11_begin_30 rfl rfl (fun v3348 hv3348 => ?_)
        refine WP_istore_n (ls' := [(0, _), (1, _), (2, _)]) dX11_begin_31 (by decide) rfl ?_
        have lp3353 : ∀ (mz : Nat) (i3349 : Int32) (I3350 : pI), FC g [39] I I3350 → FQ g [] I I3350 → (∃ k : Nat, i3349.toInt = (k : Int) ∧ (k : Int) ≤ mm ∧ (∀ q, q < 35 → (q < 28 ∨ 32 ≤ q) → (I3350 (ad g 39) q).toInt = if q < k then (I (ad g 10) q).toInt else 0) ∧ (∀ q, 28 ≤ q → q < 32 → I3350 (ad g 39) q = I (ad g 39) q)) → (5 - i3349.toInt.toNat) < mz → WP g mX11_begin 32 [(0, .ref (ad g 0)), (1, .ref (ad g 39)), (2, .int i3349)] [] I3350 J R (fun r I' J' R' => R' = R ∧ FC g [39] I I' ∧ FC g [] J J' ∧ FQ g [] I I' ∧ r = none ∧ ((∀ q : Nat, q < 35 → (q < 28 ∨ 32 ≤ q) → (I' (ad g 39) q).toInt = if (q : Int) < mm then (I (ad g 10) q).toInt else 0) ∧ (∀ q, 28 ≤ q → q < 32 → I' (ad g 39) q = I (ad g 39) q))) := by
          intro mz
          induction mz with
          | zero =>
            intro i3349 I3350 fI3351 fQ3352 hvlp3353 hmlp3353
            exact absurd hmlp3353 (Nat.not_lt_zero _)
          | succ mz ihlp3353 =>
            intro i3349 I3350 fI3351 fQ3352 hvlp3353 hmlp3353
            obtain ⟨w3354, ew3354⟩ : ∃ w : Int32, I3350 (ad g 0) 10 = w := ⟨_, rfl⟩
            try simp only [ew3354, ew3338] at hvlp3353 hmlp3353
            obtain ⟨k, ik, ik4, jA, jB⟩ := hvlp3353
            refine WP_iload_n dX11_begin_32 rfl ?_
            refine WP_aload_n dX11_begin_33 rfl ?_
            refine WQ_getim dX11_begin_34 fX11_329 rfl (ly_is hy 0 11 rfl) ew3354 ?_
            refine WQ_icmp_ge 57 dX11_begin_37 rfl (fun c3354 => ?_) (fun c3354 => ?_)
            · exact WP_vret dX11_begin_57 rfl ⟨rfl, fI3351, fJ0, fQ3352, rfl, by
                try simp only [ew3354, ew3338]
                refine ⟨fun q hq h9 => ?_, jB⟩
                rw [jA q hq h9]
                by_cases e8 : q < k
                · rw [if_pos e8, if_pos (by omega)]
                · rw [if_neg e8, if_neg (by omega)]⟩
            · refine WP_aload_n dX11_begin_40 rfl ?_
              refine WQ_iconst (0) (0) dX11_begin_41 rfl rfl (fun v3356 hv3356 => ?_)
              refine WP_iload_n dX11_begin_42 rfl ?_
              refine WQ_iadd dX11_begin_43 (by omega) (by omega) (fun v3357 hv3357 => ?_)
              refine WP_aload_n dX11_begin_44 rfl ?_
              refine WP_getr dX11_begin_45 fX11_241 rfl (ly_is hy 0 11 rfl) (rf hr 0 28 10 (by decide)) ?_
              refine WP_iload_n dX11_begin_48 rfl ?_
              have fB := fI3351
              refine WE_ia dX11_begin_49 (ly_is hy 10 13 rfl) (ly_n hy 10 4 rfl) (by omega) (by omega) (fun v3358 ev3358 => ?_)
              refine WE_is dX11_begin_50 (ly_is hy 39 13 rfl) (ly_n hy 39 35 rfl) (by omega) (by omega) (fun I3359 eI3359 => ?_)
              have e3360 : I3359 (ad g 0) 10 = w3354 := by rw [eI3359, pp_ne _ _ (Or.inl (ly_ne hy (by decide) (by decide) (by decide)))]; exact ew3354
              have e3361 : I3359 (ad g 10) i3349.toInt.toNat = v3358 := by rw [eI3359, pp_ne _ _ (Or.inl (ly_ne hy (by decide) (by decide) (by decide)))]; exact ev3358
              have fI3362 : FC g [39] I I3359 := by rw [eI3359]; exact FC_pp fI3351 (by decide)
              have fQ3363 : FQ g [] I I3359 := by rw [eI3359]; exact FQ_ppn (ly_ne hy (by decide) (by decide) (by decide)) fQ3352
              refine WP_iinc (ls' := [(0, _), (1, _), (2, _)]) dX11_begin_51 rfl (by decide) rfl ?_
              have hv3364 : (i3349 + Int32.ofInt (1)).toInt = i3349.toInt + (1) := ia_n rfl (by omega) (by omega)
              generalize i3349 + Int32.ofInt (1) = v3364 at hv3364 ⊢
              refine WP_goto 32 dX11_begin_54 rfl ?_
              refine WP_sub (fc rfl (fc rfl (fc rfl fn))) (ihlp3353 v3364 I3359 fI3362 fQ3363 ?_ ?_)
              · try simp only [e3360, ew3338]
                refine ⟨k + 1, by omega, by omega, fun q hq h9 => ?_, fun q h8 h9 => ?_⟩
                · rw [eI3359, show v3357.toInt.toNat = k by omega, pp_at]
                  split
                  · rename_i e9
                    rw [e9, if_pos (by omega), ← ev3358, show i3349.toInt.toNat = k by omega, FC_at hy fB 10 (by decide) (by decide)]
                  · rename_i e9
                    rw [jA q hq h9]
                    by_cases e8 : q < k
                    · rw [if_pos e8, if_pos (by omega)]
                    · rw [if_neg e8, if_neg (by omega)]
                · rw [eI3359, show v3357.toInt.toNat = k by omega, pp_at, if_neg (by omega)]; exact jB q h8 h9
              · try simp only [e3360, ew3338]
                omega
        refine WP_sub (fc rfl (fc rfl (fc rfl fn))) (lp3353 _ v3348 I3341 fI3342 fQ3343 ?_ (Nat.lt_succ_self _))
        · try simp only [ew3345, ew3338]
          refine ⟨0, by omega, by omega, fun q hq h9 => ?_, iB⟩
          rw [if_neg (Nat.not_lt_zero _)]
          exact iA q (by omega) h9
      · refine WP_iload_n dX11_begin_8 rfl ?_
        refine WQ_bipush (28) (28) dX11_begin_9 rfl rfl (fun v3365 hv3365 => ?_)
        refine WQ_icmp_lt 20 dX11_begin_11 rfl (fun c3365 => ?_) (fun c3365 => ?_)
        · refine WP_aload_n dX11_begin_20 rfl ?_
          refine WP_iload_n dX11_begin_21 rfl ?_
          refine WQ_iconst (0) (0) dX11_begin_22 rfl rfl (fun v3367 hv3367 => ?_)
          refine WE_is dX11_begin_23 (ly_is hy 39 13 rfl) (ly_n hy 39 35 rfl) (by omega) (by omega) (fun I3368 eI3368 => ?_)
          have e3369 : I3368 (ad g 0) 10 = w3345 := by rw [eI3368, pp_ne _ _ (Or.inl (ly_ne hy (by decide) (by decide) (by decide)))]; exact ew3345
          have fI3370 : FC g [39] I I3368 := by rw [eI3368]; exact FC_pp fI3342 (by decide)
          have fQ3371 : FQ g [] I I3368 := by rw [eI3368]; exact FQ_ppn (ly_ne hy (by decide) (by decide) (by decide)) fQ3343
          refine WP_iinc (ls' := [(0, _), (1, _), (2, _)]) dX11_begin_24 rfl (by decide) rfl ?_
          have hv3372 : (i3340 + Int32.ofInt (1)).toInt = i3340.toInt + (1) := ia_n rfl (by omega) (by omega)
          generalize i3340 + Int32.ofInt (1) = v3372 at hv3372 ⊢
          refine WP_goto 2 dX11_begin_27 rfl ?_
          refine WP_sub (fc rfl (fc rfl (fc rfl fn))) (ihlp3344 v3372 I3368 fI3370 fQ3371 ?_ ?_)
          · try simp only [e3369, ew3338]
            refine ⟨k + 1, by omega, by omega, fun q hq h9 => ?_, fun q h8 h9 => ?_⟩
            · rw [eI3368, show i3340.toInt.toNat = k by omega, pp_at]
              split
              · omega
              · exact iA q (by omega) h9
            · rw [eI3368, show i3340.toInt.toNat = k by omega, pp_at, if_neg (by omega)]; exact iB q h8 h9
          · try simp only [e3369, ew3338]
            omega
        · refine WP_iload_n dX11_begin_14 rfl ?_
          refine WQ_bipush (32) (32) dX11_begin_15 rfl rfl (fun v3373 hv3373 => ?_)
          refine WQ_icmp_lt 24 dX11_begin_17 rfl (fun c3373 => ?_) (fun c3373 => ?_)
          · refine WP_iinc (ls' := [(0, _), (1, _), (2, _)]) dX11_begin_24 rfl (by decide) rfl ?_
            have hv3375 : (i3340 + Int32.ofInt (1)).toInt = i3340.toInt + (1) := ia_n rfl (by omega) (by omega)
            generalize i3340 + Int32.ofInt (1) = v3375 at hv3375 ⊢
            refine WP_goto 2 dX11_begin_27 rfl ?_
            refine WP_sub (fc rfl (fc rfl (fc rfl fn))) (ihlp3344 v3375 I3341 fI3342 fQ3343 ?_ ?_)
            · try simp only [ew3345, ew3338]
              refine ⟨k + 1, by omega, by omega, fun q hq h9 => iA q (by omega) h9, iB⟩
            · try simp only [ew3345, ew3338]
              omega
          · refine WP_aload_n dX11_begin_20 rfl ?_
            refine WP_iload_n dX11_begin_21 rfl ?_
            refine WQ_iconst (0) (0) dX11_begin_22 rfl rfl (fun v3376 hv3376 => ?_)
            refine WE_is dX11_begin_23 (ly_is hy 39 13 rfl) (ly_n hy 39 35 rfl) (by omega) (by omega) (fun I3377 eI3377 => ?_)
            have e3378 : I3377 (ad g 0) 10 = w3345 := by rw [eI3377, pp_ne _ _ (Or.inl (ly_ne hy (by decide) (by decide) (by decide)))]; exact ew3345
            have fI3379 : FC g [39] I I3377 := by rw [eI3377]; exact FC_pp fI3342 (by decide)
            have fQ3380 : FQ g [] I I3377 := by rw [eI3377]; exact FQ_ppn (ly_ne hy (by decide) (by decide) (by decide)) fQ3343
            refine WP_iinc (ls' := [(0, _), (1, _), (2, _)]) dX11_begin_24 rfl (by decide) rfl ?_
            have hv3381 : (i3340 + Int32.ofInt (1)).toInt = i3340.toInt + (1) := ia_n rfl (by omega) (by omega)
            generalize i3340 + Int32.ofInt (1) = v3381 at hv3381 ⊢
            refine WP_goto 2 dX11_begin_27 rfl ?_
            refine WP_sub (fc rfl (fc rfl (fc rfl fn))) (ihlp3344 v3381 I3377 fI3379 fQ3380 ?_ ?_)
            · try simp only [e3378, ew3338]
              refine ⟨k + 1, by omega, by omega, fun q hq h9 => ?_, fun q h8 h9 => ?_⟩
              · rw [eI3377, show i3340.toInt.toNat = k by omega, pp_at]
                split
                · omega
                · exact iA q (by omega) h9
              · rw [eI3377, show i3340.toInt.toNat = k by omega, pp_at, if_neg (by omega)]; exact iB q h8 h9
            · try simp only [e3378, ew3338]
              omega
  refine WP_sub (fc rfl (fc rfl (fc rfl fn))) (lp3344 _ v3339 I fI0 fQ0 ?_ (Nat.lt_succ_self _))
  · try simp only [ew3338]
    exact ⟨0, by omega, by omega, fun q h => absurd h (Nat.not_lt_zero _), fun q _ _ => rfl⟩
set_option maxHeartbeats 4000000 in
set_option maxRecDepth 100000 in
theorem em_forgetWeeks {g : GG} {I : pI} {J : pJ} {R : pR} (hy : Ly g) (hr : Rf g R)    : SP g mX11_forgetWeeks [.ref (ad g 0)] I J R (fun r I' J' R' => R' = R ∧ FC g [37] I I' ∧ FC g [] J J' ∧ FQ g [] I I' ∧ r = none ∧ (∀ q, q < 28 → (I' (ad g 37) q).toInt = 0)) := by
  refine SP_of ⟨by decide, rfl⟩ (Nat.le_of_ble_eq_true rfl) ?_
  have fI0 : FC g [37] I I := FC_rf
  have fJ0 : FC g [] J J := FC_rf
  have fQ0 : FQ g [] I I := FQ_rf
  refine WQ_iconst (0) (0) dX11_forgetWeeks_0 rfl rfl (fun v3382 hv3382 => ?_)
  refine WP_istore_n (ls' := [(0, _), (1, _)]) dX11_forgetWeeks_1 (by decide) rfl ?_
  have lp3387 : ∀ (mz : Nat) (i3383 : Int32) (I3384 : pI), FC g [37] I I3384 → FQ g [] I I3384 → (∃ k : Nat, i3383.toInt = (k : Int) ∧ k ≤ 28 ∧ ∀ q, q < k → (I3384 (ad g 37) q).toInt = 0) → (29 - i3383.toInt.toNat) < mz → WP g mX11_forgetWeeks 2 [(0, .ref (ad g 0)), (1, .int i3383)] [] I3384 J R (fun r I' J' R' => R' = R ∧ FC g [37] I I' ∧ FC g [] J J' ∧ FQ g [] I I' ∧ r = none ∧ (∀ q, q < 28 → (I' (ad g 37) q).toInt = 0)) := by
    intro mz
    induction mz with
    | zero =>
      intro i3383 I3384 fI3385 fQ3386 hvlp3387 hmlp3387
      exact absurd hmlp3387 (Nat.not_lt_zero _)
    | succ mz ihlp3387 =>
      intro i3383 I3384 fI3385 fQ3386 hvlp3387 hmlp3387
      obtain ⟨k, ik, ik4, iA⟩ := hvlp3387
      refine WP_iload_n dX11_forgetWeeks_2 rfl ?_
      refine WQ_bipush (28) (28) dX11_forgetWeeks_3 rfl rfl (fun v3388 hv3388 => ?_)
      refine WQ_icmp_ge 21 dX11_forgetWeeks_5 rfl (fun c3388 => ?_) (fun c3388 => ?_)
      · exact WP_vret dX11_forgetWeeks_21 rfl ⟨rfl, fI3385, fJ0, fQ3386, rfl, by
          intro q9 hq9
          exact iA q9 (by omega)⟩
      · refine WP_aload_n dX11_forgetWeeks_8 rfl ?_
        refine WP_getr dX11_forgetWeeks_9 fX11_279 rfl (ly_is hy 0 11 rfl) (rf hr 0 58 37 (by decide)) ?_
        refine WP_iload_n dX11_forgetWeeks_12 rfl ?_
        refine WQ_iconst (0) (0) dX11_forgetWeeks_13 rfl rfl (fun v3390 hv3390 => ?_)
        refine WE_zs dX11_forgetWeeks_14 (ly_is hy 37 15 rfl) (ly_n hy 37 28 rfl) (by omega) (by omega) (fun I3391 eI3391 => ?_)
        have fI3392 : FC g [37] I I3391 := by rw [eI3391]; exact FC_pp fI3385 (by decide)
        have fQ3393 : FQ g [] I I3391 := by rw [eI3391]; exact FQ_ppn (ly_ne hy (by decide) (by decide) (by decide)) fQ3386
        refine WP_iinc (ls' := [(0, _), (1, _)]) dX11_forgetWeeks_15 rfl (by decide) rfl ?_
        have hv3394 : (i3383 + Int32.ofInt (1)).toInt = i3383.toInt + (1) := ia_n rfl (by omega) (by omega)
        generalize i3383 + Int32.ofInt (1) = v3394 at hv3394 ⊢
        refine WP_goto 2 dX11_forgetWeeks_18 rfl ?_
        refine WP_sub (fc rfl (fc rfl fn)) (ihlp3387 v3394 I3391 fI3392 fQ3393 ?_ ?_)
        · refine ⟨k + 1, by omega, by omega, fun q hq => ?_⟩
          rw [eI3391, show i3383.toInt.toNat = k by omega, pp_at]
          split
          · exact narz (by omega)
          · exact iA q (by omega)
        · omega
  refine WP_sub (fc rfl (fc rfl fn)) (lp3387 _ v3382 I fI0 fQ0 ?_ (Nat.lt_succ_self _))
  · exact ⟨0, by omega, by omega, fun q h => absurd h (Nat.not_lt_zero _)⟩
set_option maxHeartbeats 4000000 in
set_option maxRecDepth 100000 in
theorem em_town {g : GG} {I : pI} {J : pJ} {R : pR} (hy : Ly g) (hr : Rf g R) {aK aV : Nat → Nat} {fo : Option Nat} (hz : HZ g aK aV fo) {B : Nat → Int} {n : Nat} (j : Nat → Nat → Int)  (h1 : (I (ad g 0) 1).toInt = (n : Int)) (hbt : ∀ q, q < 900 → (I (ad g 1) q).toInt = B q) (hn : n ≤ 900) (hB : ∀ q, -128 ≤ B q ∧ B q ≤ 127) : SP g mX11_town [.ref (ad g 0)] I J R (fun r I' J' R' => R' = R ∧ FC g [0, 6, 7, 8, 9, 10, 11, 12, 13, 14, 15, 16, 17, 18, 19, 20, 21, 22, 23, 24, 25, 26, 27, 28, 29, 30, 31, 32, 33, 34, 37, 38, 44, 46, 47] I I' ∧ FC g [0, 2, 3, 4, 5] J J' ∧ FQ g [1, 2, 3, 4, 5, 6, 7, 8, 9, 10, 11, 12, 13, 14, 15, 16, 17, 18, 19, 51, 68] I I' ∧ ∃ v : Int32, r = some (.int v) ∧ ((v.toInt = -1 ∧ ERR g (town B n j) I' ∧ FC g [0, 7, 14, 15, 16, 17, 18, 19, 27, 28, 29, 30, 31, 32, 33, 34] I I' ∧ FC g [4, 5] J J' ∧ FQ g [1, 2, 3, 4, 5, 6, 7, 8, 9, 15, 16, 17, 18, 19, 51] I I') ∨ (∃ S2 : TS, town B n j = .ok S2 ∧ v.toInt = S2.1 0 0 ∧ RTT g S2 I' J' ∧ STM g S2 I' J'))) := by
  refine SP_of ⟨by decide, rfl⟩ (Nat.le_of_ble_eq_true rfl) ?_
  have fI0 : FC g [0, 6, 7, 8, 9, 10, 11, 12, 13, 14, 15, 16, 17, 18, 19, 20, 21, 22, 23, 24, 25, 26, 27, 28, 29, 30, 31, 32, 33, 34, 37, 38, 44, 46, 47] I I := FC_rf
  have fJ0 : FC g [0, 2, 3, 4, 5] J J := FC_rf
  have fQ0 : FQ g [1, 2, 3, 4, 5, 6, 7, 8, 9, 10, 11, 12, 13, 14, 15, 16, 17, 18, 19, 51, 68] I I := FQ_rf
  obtain ⟨w3395, ew3395⟩ : ∃ w : Int32, I (ad g 0) 1 = w := ⟨_, rfl⟩
  obtain ⟨w3396, ew3396⟩ : ∃ w : Int32, I (ad g 0) 8 = w := ⟨_, rfl⟩
  obtain ⟨w3397, ew3397⟩ : ∃ w : Int32, I (ad g 0) 9 = w := ⟨_, rfl⟩
  refine WP_aload_n dX11_town_0 rfl ?_
  refine WP_callV0 (k := 11) dX11_town_1 ⟨⟨⟨by decide, by decide⟩, zX11_open⟩, lX11_323, by decide, rfl, vX11_open.1, vX11_open.2⟩ (ly_is hy 0 11 rfl) (em_open hy hr   h1 hbt hn hB) (Nat.le_of_ble_eq_true rfl) ?_
  intro r I3399 J3400 Ra hq
  obtain ⟨ec, g3401, g3402, g3403, er, p3398⟩ := hq
  rw [ec, er]
  clear ec er Ra r
  have fI3404 : FC g [0, 6, 7, 8, 9, 10, 11, 12, 13, 14, 15, 16, 17, 18, 19, 20, 21, 22, 23, 24, 25, 26, 27, 28, 29, 30, 31, 32, 33, 34, 37, 38, 44, 46, 47] I I3399 := FC_tr fI0 (FC_mono g3401 (by decide))
  have fJ3405 : FC g [0, 2, 3, 4, 5] J J3400 := FC_tr fJ0 (FC_mono g3402 (by decide))
  have fQ3406 : FQ g [1, 2, 3, 4, 5, 6, 7, 8, 9, 10, 11, 12, 13, 14, 15, 16, 17, 18, 19, 51, 68] I I3399 := FQ_tr fQ0 (FQ_mono g3403 (by decide))
  obtain ⟨w3407, ew3407⟩ : ∃ w : Int32, I3399 (ad g 0) 1 = w := ⟨_, rfl⟩
  obtain ⟨w3408, ew3408⟩ : ∃ w : Int32, I3399 (ad g 0) 8 = w := ⟨_, rfl⟩
  obtain ⟨w3409, ew3409⟩ : ∃ w : Int32, I3399 (ad g 0) 9 = w := ⟨_, rfl⟩
  try simp only [ew3407, ew3408, ew3409, ew3395, ew3396, ew3397] at p3398
  obtain ⟨hT1, hC1, ht1, hf8, hf9⟩ := p3398
  refine WP_aload_n dX11_town_4 rfl ?_
  refine WP_callV0 (k := 11) dX11_town_5 ⟨⟨⟨by decide, by decide⟩, zX11_readTown⟩, lX11_326, by decide, rfl, vX11_readTown.1, vX11_readTown.2⟩ (ly_is hy 0 11 rfl) (em_readTown hy hr hz   j hT1 hC1 hn hB (Nat.zero_le _) rfl) (Nat.le_of_ble_eq_true rfl) ?_
  intro r I3412 J3413 Ra hq
  obtain ⟨ec, g3414, g3415, g3416, v3411, er, p3410⟩ := hq
  rw [ec, er]
  clear ec er Ra r
  have e3417 : I3412 (ad g 0) 1 = w3407 := by rw [g3416 1 (by decide)]; exact ew3407
  have fI3418 : FC g [0, 6, 7, 8, 9, 10, 11, 12, 13, 14, 15, 16, 17, 18, 19, 20, 21, 22, 23, 24, 25, 26, 27, 28, 29, 30, 31, 32, 33, 34, 37, 38, 44, 46, 47] I I3412 := FC_tr fI3404 (FC_mono g3414 (by decide))
  have fJ3419 : FC g [0, 2, 3, 4, 5] J J3413 := FC_tr fJ3405 (FC_mono g3415 (by decide))
  have fQ3420 : FQ g [1, 2, 3, 4, 5, 6, 7, 8, 9, 10, 11, 12, 13, 14, 15, 16, 17, 18, 19, 51, 68] I I3412 := FQ_tr fQ3406 (FQ_mono g3416 (by decide))
  obtain ⟨w3421, ew3421⟩ : ∃ w : Int32, I3412 (ad g 0) 8 = w := ⟨_, rfl⟩
  obtain ⟨w3422, ew3422⟩ : ∃ w : Int32, I3412 (ad g 0) 9 = w := ⟨_, rfl⟩
  try simp only [e3417, ew3421, ew3422, ew3395, ew3396, ew3397] at p3410
  refine WQ_if_ne 13 dX11_town_8 rfl (fun c3422 => ?_) (fun c3422 => ?_)
  · obtain ⟨S2, hok, hR, hPI, hPJ, hSB, h19, hNF⟩ := (Or.resolve_left p3410 (by rintro ⟨z, -⟩; omega)).2
    have hg := town_all hok
    have hR1 := hR.1
    have hbb := hSB
    unfold SB at hbb
    obtain ⟨hb1, hb2, hb3, hb6⟩ := hbb
    have hst : S2.2 36 0 = true → S2.1 0 4 ≠ -1 := fun z => by have z2 := hPJ z; omega
    have hst2 := hPI.2.2.2.2.2.2.2.2.2
    refine WP_aload_n dX11_town_13 rfl ?_
    refine WP_aload_n dX11_town_14 rfl ?_
    obtain ⟨w3424, ew3424⟩ : ∃ w : Int32, I3412 (ad g 0) 15 = w := ⟨_, rfl⟩
    refine WQ_getim dX11_town_15 fX11_88 rfl (ly_is hy 0 11 rfl) ew3424 ?_
    refine WQ_puti dX11_town_18 fX11_329 rfl rfl (ly_is hy 0 11 rfl) (fun I3425 eI3425 => ?_)
    have e3426 : I3425 (ad g 0) 1 = w3407 := by rw [eI3425, pp_ne _ _ (Or.inr (by decide))]; exact e3417
    have e3427 : I3425 (ad g 0) 8 = w3421 := by rw [eI3425, pp_ne _ _ (Or.inr (by decide))]; exact ew3421
    have e3428 : I3425 (ad g 0) 9 = w3422 := by rw [eI3425, pp_ne _ _ (Or.inr (by decide))]; exact ew3422
    have e3429 : I3425 (ad g 0) 15 = w3424 := by rw [eI3425, pp_ne _ _ (Or.inr (by decide))]; exact ew3424
    have e3430 : I3425 (ad g 0) 10 = w3424 := by rw [eI3425, pp_self]
    have fI3431 : FC g [0, 6, 7, 8, 9, 10, 11, 12, 13, 14, 15, 16, 17, 18, 19, 20, 21, 22, 23, 24, 25, 26, 27, 28, 29, 30, 31, 32, 33, 34, 37, 38, 44, 46, 47] I I3425 := by rw [eI3425]; exact FC_pp fI3418 (by decide)
    have fQ3432 : FQ g [1, 2, 3, 4, 5, 6, 7, 8, 9, 10, 11, 12, 13, 14, 15, 16, 17, 18, 19, 51, 68] I I3425 := by rw [eI3425]; exact FQ_pp0 fQ3420 (by decide)
    refine WP_aload_n dX11_town_21 rfl ?_
    refine WP_aload_n dX11_town_22 rfl ?_
    obtain ⟨w3433, ew3433⟩ : ∃ w : Int32, I3425 (ad g 0) 16 = w := ⟨_, rfl⟩
    refine WQ_getim dX11_town_23 fX11_126 rfl (ly_is hy 0 11 rfl) ew3433 ?_
    refine WQ_puti dX11_town_26 fX11_332 rfl rfl (ly_is hy 0 11 rfl) (fun I3434 eI3434 => ?_)
    have e3435 : I3434 (ad g 0) 1 = w3407 := by rw [eI3434, pp_ne _ _ (Or.inr (by decide))]; exact e3426
    have e3436 : I3434 (ad g 0) 8 = w3421 := by rw [eI3434, pp_ne _ _ (Or.inr (by decide))]; exact e3427
    have e3437 : I3434 (ad g 0) 9 = w3422 := by rw [eI3434, pp_ne _ _ (Or.inr (by decide))]; exact e3428
    have e3438 : I3434 (ad g 0) 15 = w3424 := by rw [eI3434, pp_ne _ _ (Or.inr (by decide))]; exact e3429
    have e3439 : I3434 (ad g 0) 10 = w3424 := by rw [eI3434, pp_ne _ _ (Or.inr (by decide))]; exact e3430
    have e3440 : I3434 (ad g 0) 16 = w3433 := by rw [eI3434, pp_ne _ _ (Or.inr (by decide))]; exact ew3433
    have e3441 : I3434 (ad g 0) 11 = w3433 := by rw [eI3434, pp_self]
    have fI3442 : FC g [0, 6, 7, 8, 9, 10, 11, 12, 13, 14, 15, 16, 17, 18, 19, 20, 21, 22, 23, 24, 25, 26, 27, 28, 29, 30, 31, 32, 33, 34, 37, 38, 44, 46, 47] I I3434 := by rw [eI3434]; exact FC_pp fI3431 (by decide)
    have fQ3443 : FQ g [1, 2, 3, 4, 5, 6, 7, 8, 9, 10, 11, 12, 13, 14, 15, 16, 17, 18, 19, 51, 68] I I3434 := by rw [eI3434]; exact FQ_pp0 fQ3432 (by decide)
    refine WP_aload_n dX11_town_29 rfl ?_
    refine WP_aload_n dX11_town_30 rfl ?_
    obtain ⟨w3444, ew3444⟩ : ∃ w : Int32, I3434 (ad g 0) 17 = w := ⟨_, rfl⟩
    refine WQ_getim dX11_town_31 fX11_158 rfl (ly_is hy 0 11 rfl) ew3444 ?_
    refine WQ_puti dX11_town_34 fX11_221 rfl rfl (ly_is hy 0 11 rfl) (fun I3445 eI3445 => ?_)
    have e3446 : I3445 (ad g 0) 1 = w3407 := by rw [eI3445, pp_ne _ _ (Or.inr (by decide))]; exact e3435
    have e3447 : I3445 (ad g 0) 8 = w3421 := by rw [eI3445, pp_ne _ _ (Or.inr (by decide))]; exact e3436
    have e3448 : I3445 (ad g 0) 9 = w3422 := by rw [eI3445, pp_ne _ _ (Or.inr (by decide))]; exact e3437
    have e3449 : I3445 (ad g 0) 15 = w3424 := by rw [eI3445, pp_ne _ _ (Or.inr (by decide))]; exact e3438
    have e3450 : I3445 (ad g 0) 10 = w3424 := by rw [eI3445, pp_ne _ _ (Or.inr (by decide))]; exact e3439
    have e3451 : I3445 (ad g 0) 16 = w3433 := by rw [eI3445, pp_ne _ _ (Or.inr (by decide))]; exact e3440
    have e3452 : I3445 (ad g 0) 11 = w3433 := by rw [eI3445, pp_ne _ _ (Or.inr (by decide))]; exact e3441
    have e3453 : I3445 (ad g 0) 17 = w3444 := by rw [eI3445, pp_ne _ _ (Or.inr (by decide))]; exact ew3444
    have e3454 : I3445 (ad g 0) 13 = w3444 := by rw [eI3445, pp_self]
    have fI3455 : FC g [0, 6, 7, 8, 9, 10, 11, 12, 13, 14, 15, 16, 17, 18, 19, 20, 21, 22, 23, 24, 25, 26, 27, 28, 29, 30, 31, 32, 33, 34, 37, 38, 44, 46, 47] I I3445 := by rw [eI3445]; exact FC_pp fI3442 (by decide)
    have fQ3456 : FQ g [1, 2, 3, 4, 5, 6, 7, 8, 9, 10, 11, 12, 13, 14, 15, 16, 17, 18, 19, 51, 68] I I3445 := by rw [eI3445]; exact FQ_pp0 fQ3443 (by decide)
    refine WP_aload_n dX11_town_37 rfl ?_
    refine WP_aload_n dX11_town_38 rfl ?_
    obtain ⟨w3457, ew3457⟩ : ∃ w : Int32, I3445 (ad g 0) 18 = w := ⟨_, rfl⟩
    refine WQ_getim dX11_town_39 fX11_161 rfl (ly_is hy 0 11 rfl) ew3457 ?_
    refine WQ_iconst (-1) (-1) dX11_town_42 rfl rfl (fun v3458 hv3458 => ?_)
    refine WQ_icmp_eq 53 dX11_town_43 rfl (fun c3458 => ?_) (fun c3458 => ?_)
    · have hs36 : S2.2 36 0 = false := by
        cases h36 : S2.2 36 0 with
        | false => rfl
        | true =>
          have z := hR1.2.2.2
          rw [h36, if_pos rfl] at z
          have z2 := hst h36
          omega
      have h18 := hst2 hs36
      refine WP_aload_n dX11_town_53 rfl ?_
      refine WQ_getim dX11_town_54 fX11_332 rfl (ly_is hy 0 11 rfl) e3452 ?_
      refine WQ_if_le 64 dX11_town_57 rfl (fun c3459 => ?_) (fun c3459 => ?_)
      · refine WQ_iconst (-1) (-1) dX11_town_64 rfl rfl (fun v3461 hv3461 => ?_)
        refine WQ_puti dX11_town_65 fX11_224 rfl rfl (ly_is hy 0 11 rfl) (fun I3462 eI3462 => ?_)
        have e3463 : I3462 (ad g 0) 1 = w3407 := by rw [eI3462, pp_ne _ _ (Or.inr (by decide))]; exact e3446
        have e3464 : I3462 (ad g 0) 8 = w3421 := by rw [eI3462, pp_ne _ _ (Or.inr (by decide))]; exact e3447
        have e3465 : I3462 (ad g 0) 9 = w3422 := by rw [eI3462, pp_ne _ _ (Or.inr (by decide))]; exact e3448
        have e3466 : I3462 (ad g 0) 15 = w3424 := by rw [eI3462, pp_ne _ _ (Or.inr (by decide))]; exact e3449
        have e3467 : I3462 (ad g 0) 10 = w3424 := by rw [eI3462, pp_ne _ _ (Or.inr (by decide))]; exact e3450
        have e3468 : I3462 (ad g 0) 16 = w3433 := by rw [eI3462, pp_ne _ _ (Or.inr (by decide))]; exact e3451
        have e3469 : I3462 (ad g 0) 11 = w3433 := by rw [eI3462, pp_ne _ _ (Or.inr (by decide))]; exact e3452
        have e3470 : I3462 (ad g 0) 17 = w3444 := by rw [eI3462, pp_ne _ _ (Or.inr (by decide))]; exact e3453
        have e3471 : I3462 (ad g 0) 13 = w3444 := by rw [eI3462, pp_ne _ _ (Or.inr (by decide))]; exact e3454
        have e3472 : I3462 (ad g 0) 18 = w3457 := by rw [eI3462, pp_ne _ _ (Or.inr (by decide))]; exact ew3457
        have e3473 : I3462 (ad g 0) 14 = v3461 := by rw [eI3462, pp_self]
        have fI3474 : FC g [0, 6, 7, 8, 9, 10, 11, 12, 13, 14, 15, 16, 17, 18, 19, 20, 21, 22, 23, 24, 25, 26, 27, 28, 29, 30, 31, 32, 33, 34, 37, 38, 44, 46, 47] I I3462 := by rw [eI3462]; exact FC_pp fI3455 (by decide)
        have fQ3475 : FQ g [1, 2, 3, 4, 5, 6, 7, 8, 9, 10, 11, 12, 13, 14, 15, 16, 17, 18, 19, 51, 68] I I3462 := by rw [eI3462]; exact FQ_pp0 fQ3456 (by decide)
        refine WP_aload_n dX11_town_68 rfl ?_
        refine WP_aload_n dX11_town_69 rfl ?_
        obtain ⟨w3476, ew3476⟩ : ∃ w : Int32, I3462 (ad g 0) 19 = w := ⟨_, rfl⟩
        refine WQ_getim dX11_town_70 fX11_207 rfl (ly_is hy 0 11 rfl) ew3476 ?_
        refine WQ_puti dX11_town_73 fX11_335 rfl rfl (ly_is hy 0 11 rfl) (fun I3477 eI3477 => ?_)
        have e3478 : I3477 (ad g 0) 1 = w3407 := by rw [eI3477, pp_ne _ _ (Or.inr (by decide))]; exact e3463
        have e3479 : I3477 (ad g 0) 8 = w3421 := by rw [eI3477, pp_ne _ _ (Or.inr (by decide))]; exact e3464
        have e3480 : I3477 (ad g 0) 9 = w3422 := by rw [eI3477, pp_ne _ _ (Or.inr (by decide))]; exact e3465
        have e3481 : I3477 (ad g 0) 15 = w3424 := by rw [eI3477, pp_ne _ _ (Or.inr (by decide))]; exact e3466
        have e3482 : I3477 (ad g 0) 10 = w3424 := by rw [eI3477, pp_ne _ _ (Or.inr (by decide))]; exact e3467
        have e3483 : I3477 (ad g 0) 16 = w3433 := by rw [eI3477, pp_ne _ _ (Or.inr (by decide))]; exact e3468
        have e3484 : I3477 (ad g 0) 11 = w3433 := by rw [eI3477, pp_ne _ _ (Or.inr (by decide))]; exact e3469
        have e3485 : I3477 (ad g 0) 17 = w3444 := by rw [eI3477, pp_ne _ _ (Or.inr (by decide))]; exact e3470
        have e3486 : I3477 (ad g 0) 13 = w3444 := by rw [eI3477, pp_ne _ _ (Or.inr (by decide))]; exact e3471
        have e3487 : I3477 (ad g 0) 18 = w3457 := by rw [eI3477, pp_ne _ _ (Or.inr (by decide))]; exact e3472
        have e3488 : I3477 (ad g 0) 14 = v3461 := by rw [eI3477, pp_ne _ _ (Or.inr (by decide))]; exact e3473
        have e3489 : I3477 (ad g 0) 19 = w3476 := by rw [eI3477, pp_ne _ _ (Or.inr (by decide))]; exact ew3476
        have e3490 : I3477 (ad g 0) 12 = w3476 := by rw [eI3477, pp_self]
        have fI3491 : FC g [0, 6, 7, 8, 9, 10, 11, 12, 13, 14, 15, 16, 17, 18, 19, 20, 21, 22, 23, 24, 25, 26, 27, 28, 29, 30, 31, 32, 33, 34, 37, 38, 44, 46, 47] I I3477 := by rw [eI3477]; exact FC_pp fI3474 (by decide)
        have fQ3492 : FQ g [1, 2, 3, 4, 5, 6, 7, 8, 9, 10, 11, 12, 13, 14, 15, 16, 17, 18, 19, 51, 68] I I3477 := by rw [eI3477]; exact FQ_pp0 fQ3475 (by decide)
        refine WQ_iconst (0) (0) dX11_town_76 rfl rfl (fun v3493 hv3493 => ?_)
        refine WP_istore_n (ls' := [(0, _), (1, _)]) dX11_town_77 (by decide) rfl ?_
        have lp3497 : ∀ (mz : Nat) (i3494 : Int32) (J3495 : pJ), FC g [0, 2, 3, 4, 5] J J3495 → (∃ k : Nat, i3494.toInt = (k : Int) ∧ (k : Int) ≤ S2.1 0 1 ∧ (∀ q, q < k → J3495 (ad g 2) q = J3413 (ad g 4) q) ∧ FC g [2] J3413 J3495) → (5 - i3494.toInt.toNat) < mz → WP g mX11_town 78 [(0, .ref (ad g 0)), (1, .int i3494)] [] I3477 J3495 R (fun r I' J' R' => R' = R ∧ FC g [0, 6, 7, 8, 9, 10, 11, 12, 13, 14, 15, 16, 17, 18, 19, 20, 21, 22, 23, 24, 25, 26, 27, 28, 29, 30, 31, 32, 33, 34, 37, 38, 44, 46, 47] I I' ∧ FC g [0, 2, 3, 4, 5] J J' ∧ FQ g [1, 2, 3, 4, 5, 6, 7, 8, 9, 10, 11, 12, 13, 14, 15, 16, 17, 18, 19, 51, 68] I I' ∧ ∃ v : Int32, r = some (.int v) ∧ ((v.toInt = -1 ∧ ERR g (town B n j) I' ∧ FC g [0, 7, 14, 15, 16, 17, 18, 19, 27, 28, 29, 30, 31, 32, 33, 34] I I' ∧ FC g [4, 5] J J' ∧ FQ g [1, 2, 3, 4, 5, 6, 7, 8, 9, 15, 16, 17, 18, 19, 51] I I') ∨ (∃ S2 : TS, town B n j = .ok S2 ∧ v.toInt = S2.1 0 0 ∧ RTT g S2 I' J' ∧ STM g S2 I' J'))) := by
          intro mz
          induction mz with
          | zero =>
            intro i3494 J3495 fJ3496 hvlp3497 hmlp3497
            exact absurd hmlp3497 (Nat.not_lt_zero _)
          | succ mz ihlp3497 =>
            intro i3494 J3495 fJ3496 hvlp3497 hmlp3497
            try simp only [e3478, e3479, e3480, ew3395, ew3396, ew3397] at hvlp3497 hmlp3497
            obtain ⟨k, ik, ik4, jA, jF⟩ := hvlp3497
            refine WP_iload_n dX11_town_78 rfl ?_
            refine WP_aload_n dX11_town_79 rfl ?_
            refine WQ_getim dX11_town_80 fX11_329 rfl (ly_is hy 0 11 rfl) e3482 ?_
            refine WQ_icmp_ge 104 dX11_town_83 rfl (fun c3497 => ?_) (fun c3497 => ?_)
            · refine WQ_iconst (0) (0) dX11_town_104 rfl rfl (fun v3499 hv3499 => ?_)
              refine WP_istore_n (ls' := [(0, _), (1, _)]) dX11_town_105 (by decide) rfl ?_
              have k78 : (k : Int) = S2.1 0 1 := by omega
              have lp3503 : ∀ (mz : Nat) (i3500 : Int32) (J3501 : pJ), FC g [0, 2, 3, 4, 5] J J3501 → (∃ k : Nat, i3500.toInt = (k : Int) ∧ (k : Int) ≤ S2.1 0 2 ∧ (∀ q, q < k → J3501 (ad g 3) q = J3413 (ad g 5) q) ∧ FC g [2, 3] J3413 J3501 ∧ FC g [3] J3495 J3501) → (4 - i3500.toInt.toNat) < mz → WP g mX11_town 106 [(0, .ref (ad g 0)), (1, .int i3500)] [] I3477 J3501 R (fun r I' J' R' => R' = R ∧ FC g [0, 6, 7, 8, 9, 10, 11, 12, 13, 14, 15, 16, 17, 18, 19, 20, 21, 22, 23, 24, 25, 26, 27, 28, 29, 30, 31, 32, 33, 34, 37, 38, 44, 46, 47] I I' ∧ FC g [0, 2, 3, 4, 5] J J' ∧ FQ g [1, 2, 3, 4, 5, 6, 7, 8, 9, 10, 11, 12, 13, 14, 15, 16, 17, 18, 19, 51, 68] I I' ∧ ∃ v : Int32, r = some (.int v) ∧ ((v.toInt = -1 ∧ ERR g (town B n j) I' ∧ FC g [0, 7, 14, 15, 16, 17, 18, 19, 27, 28, 29, 30, 31, 32, 33, 34] I I' ∧ FC g [4, 5] J J' ∧ FQ g [1, 2, 3, 4, 5, 6, 7, 8, 9, 15, 16, 17, 18, 19, 51] I I') ∨ (∃ S2 : TS, town B n j = .ok S2 ∧ v.toInt = S2.1 0 0 ∧ RTT g S2 I' J' ∧ STM g S2 I' J'))) := by
                intro mz
                induction mz with
                | zero =>
                  intro i3500 J3501 fJ3502 hvlp3503 hmlp3503
                  exact absurd hmlp3503 (Nat.not_lt_zero _)
                | succ mz ihlp3503 =>
                  intro i3500 J3501 fJ3502 hvlp3503 hmlp3503
                  try simp only [e3478, e3479, e3480, ew3395, ew3396, ew3397] at hvlp3503 hmlp3503
                  obtain ⟨k2, ik2, ik42, kA, kF, kG⟩ := hvlp3503
                  refine WP_iload_n dX11_town_106 rfl ?_
                  refine WP_aload_n dX11_town_107 rfl ?_
                  refine WQ_getim dX11_town_108 fX11_332 rfl (ly_is hy 0 11 rfl) e3484 ?_
                  refine WQ_icmp_ge 132 dX11_town_111 rfl (fun c3503 => ?_) (fun c3503 => ?_)
                  · refine WP_aload_n dX11_town_132 rfl ?_
                    refine WP_getr dX11_town_133 fX11_233 rfl (ly_is hy 0 11 rfl) (rf hr 0 24 6 (by decide)) ?_
                    refine WP_aload_n dX11_town_136 rfl ?_
                    refine WP_getr dX11_town_137 fX11_84 rfl (ly_is hy 0 11 rfl) (rf hr 0 25 7 (by decide)) ?_
                    refine WP_callS2 dX11_town_140 ⟨⟨⟨by decide, by decide⟩, zX11_copy⟩, lX11_338, tX11_copy⟩ (em_copy6 hy hr   ) (Nat.le_of_ble_eq_true rfl) ?_
                    intro r I3506 J3507 Ra hq
                    obtain ⟨ec, g3508, g3509, g3510, er, p3505⟩ := hq
                    rw [ec, er]
                    clear ec er Ra r
                    have e3511 : I3506 (ad g 0) 1 = w3407 := by rw [FC_at hy g3508 0 (by decide) (by decide)]; exact e3478
                    have e3512 : I3506 (ad g 0) 8 = w3421 := by rw [FC_at hy g3508 0 (by decide) (by decide)]; exact e3479
                    have e3513 : I3506 (ad g 0) 9 = w3422 := by rw [FC_at hy g3508 0 (by decide) (by decide)]; exact e3480
                    have e3514 : I3506 (ad g 0) 15 = w3424 := by rw [FC_at hy g3508 0 (by decide) (by decide)]; exact e3481
                    have e3515 : I3506 (ad g 0) 10 = w3424 := by rw [FC_at hy g3508 0 (by decide) (by decide)]; exact e3482
                    have e3516 : I3506 (ad g 0) 16 = w3433 := by rw [FC_at hy g3508 0 (by decide) (by decide)]; exact e3483
                    have e3517 : I3506 (ad g 0) 11 = w3433 := by rw [FC_at hy g3508 0 (by decide) (by decide)]; exact e3484
                    have e3518 : I3506 (ad g 0) 17 = w3444 := by rw [FC_at hy g3508 0 (by decide) (by decide)]; exact e3485
                    have e3519 : I3506 (ad g 0) 13 = w3444 := by rw [FC_at hy g3508 0 (by decide) (by decide)]; exact e3486
                    have e3520 : I3506 (ad g 0) 18 = w3457 := by rw [FC_at hy g3508 0 (by decide) (by decide)]; exact e3487
                    have e3521 : I3506 (ad g 0) 14 = v3461 := by rw [FC_at hy g3508 0 (by decide) (by decide)]; exact e3488
                    have e3522 : I3506 (ad g 0) 19 = w3476 := by rw [FC_at hy g3508 0 (by decide) (by decide)]; exact e3489
                    have e3523 : I3506 (ad g 0) 12 = w3476 := by rw [FC_at hy g3508 0 (by decide) (by decide)]; exact e3490
                    have fI3524 : FC g [0, 6, 7, 8, 9, 10, 11, 12, 13, 14, 15, 16, 17, 18, 19, 20, 21, 22, 23, 24, 25, 26, 27, 28, 29, 30, 31, 32, 33, 34, 37, 38, 44, 46, 47] I I3506 := FC_tr fI3491 (FC_mono g3508 (by decide))
                    have fJ3525 : FC g [0, 2, 3, 4, 5] J J3507 := FC_tr fJ3502 (FC_mono g3509 (by decide))
                    have fQ3526 : FQ g [1, 2, 3, 4, 5, 6, 7, 8, 9, 10, 11, 12, 13, 14, 15, 16, 17, 18, 19, 51, 68] I I3506 := FQ_tr fQ3492 (FQ_mono g3510 (by decide))
                    try simp only [e3511, e3512, e3513, ew3395, ew3396, ew3397] at p3505
                    have d6 : ∀ q, q < 7 → I3506 (ad g 6) q = I3412 (ad g 7) q := fun q hq => by rw [p3505 q hq, eI3477, pp_off _ _ (ly_ne hy (by decide) (by decide) (by decide)), eI3462, pp_off _ _ (ly_ne hy (by decide) (by decide) (by decide)), eI3445, pp_off _ _ (ly_ne hy (by decide) (by decide) (by decide)), eI3434, pp_off _ _ (ly_ne hy (by decide) (by decide) (by decide)), eI3425, pp_off _ _ (ly_ne hy (by decide) (by decide) (by decide))]
                    refine WP_aload_n dX11_town_143 rfl ?_
                    refine WP_getr dX11_town_144 fX11_235 rfl (ly_is hy 0 11 rfl) (rf hr 0 26 8 (by decide)) ?_
                    refine WP_aload_n dX11_town_147 rfl ?_
                    refine WP_getr dX11_town_148 fX11_99 rfl (ly_is hy 0 11 rfl) (rf hr 0 32 14 (by decide)) ?_
                    refine WP_callS2 dX11_town_151 ⟨⟨⟨by decide, by decide⟩, zX11_copy⟩, lX11_338, tX11_copy⟩ (em_copy8 hy hr   ) (Nat.le_of_ble_eq_true rfl) ?_
                    intro r I3528 J3529 Ra hq
                    obtain ⟨ec, g3530, g3531, g3532, er, p3527⟩ := hq
                    rw [ec, er]
                    clear ec er Ra r
                    have e3533 : I3528 (ad g 0) 1 = w3407 := by rw [FC_at hy g3530 0 (by decide) (by decide)]; exact e3511
                    have e3534 : I3528 (ad g 0) 8 = w3421 := by rw [FC_at hy g3530 0 (by decide) (by decide)]; exact e3512
                    have e3535 : I3528 (ad g 0) 9 = w3422 := by rw [FC_at hy g3530 0 (by decide) (by decide)]; exact e3513
                    have e3536 : I3528 (ad g 0) 15 = w3424 := by rw [FC_at hy g3530 0 (by decide) (by decide)]; exact e3514
                    have e3537 : I3528 (ad g 0) 10 = w3424 := by rw [FC_at hy g3530 0 (by decide) (by decide)]; exact e3515
                    have e3538 : I3528 (ad g 0) 16 = w3433 := by rw [FC_at hy g3530 0 (by decide) (by decide)]; exact e3516
                    have e3539 : I3528 (ad g 0) 11 = w3433 := by rw [FC_at hy g3530 0 (by decide) (by decide)]; exact e3517
                    have e3540 : I3528 (ad g 0) 17 = w3444 := by rw [FC_at hy g3530 0 (by decide) (by decide)]; exact e3518
                    have e3541 : I3528 (ad g 0) 13 = w3444 := by rw [FC_at hy g3530 0 (by decide) (by decide)]; exact e3519
                    have e3542 : I3528 (ad g 0) 18 = w3457 := by rw [FC_at hy g3530 0 (by decide) (by decide)]; exact e3520
                    have e3543 : I3528 (ad g 0) 14 = v3461 := by rw [FC_at hy g3530 0 (by decide) (by decide)]; exact e3521
                    have e3544 : I3528 (ad g 0) 19 = w3476 := by rw [FC_at hy g3530 0 (by decide) (by decide)]; exact e3522
                    have e3545 : I3528 (ad g 0) 12 = w3476 := by rw [FC_at hy g3530 0 (by decide) (by decide)]; exact e3523
                    have fI3546 : FC g [0, 6, 7, 8, 9, 10, 11, 12, 13, 14, 15, 16, 17, 18, 19, 20, 21, 22, 23, 24, 25, 26, 27, 28, 29, 30, 31, 32, 33, 34, 37, 38, 44, 46, 47] I I3528 := FC_tr fI3524 (FC_mono g3530 (by decide))
                    have fJ3547 : FC g [0, 2, 3, 4, 5] J J3529 := FC_tr fJ3525 (FC_mono g3531 (by decide))
                    have fQ3548 : FQ g [1, 2, 3, 4, 5, 6, 7, 8, 9, 10, 11, 12, 13, 14, 15, 16, 17, 18, 19, 51, 68] I I3528 := FQ_tr fQ3526 (FQ_mono g3532 (by decide))
                    try simp only [e3533, e3534, e3535, ew3395, ew3396, ew3397] at p3527
                    have d8 : ∀ q, q < 4 → I3528 (ad g 8) q = I3412 (ad g 14) q := fun q hq => by rw [p3527 q hq, FC_at hy g3508 14 (by decide) (by decide), eI3477, pp_off _ _ (ly_ne hy (by decide) (by decide) (by decide)), eI3462, pp_off _ _ (ly_ne hy (by decide) (by decide) (by decide)), eI3445, pp_off _ _ (ly_ne hy (by decide) (by decide) (by decide)), eI3434, pp_off _ _ (ly_ne hy (by decide) (by decide) (by decide)), eI3425, pp_off _ _ (ly_ne hy (by decide) (by decide) (by decide))]
                    refine WP_aload_n dX11_town_154 rfl ?_
                    refine WP_getr dX11_town_155 fX11_238 rfl (ly_is hy 0 11 rfl) (rf hr 0 27 9 (by decide)) ?_
                    refine WP_aload_n dX11_town_158 rfl ?_
                    refine WP_getr dX11_town_159 fX11_102 rfl (ly_is hy 0 11 rfl) (rf hr 0 33 15 (by decide)) ?_
                    refine WP_callS2 dX11_town_162 ⟨⟨⟨by decide, by decide⟩, zX11_copy⟩, lX11_338, tX11_copy⟩ (em_copy9 hy hr   ) (Nat.le_of_ble_eq_true rfl) ?_
                    intro r I3550 J3551 Ra hq
                    obtain ⟨ec, g3552, g3553, g3554, er, p3549⟩ := hq
                    rw [ec, er]
                    clear ec er Ra r
                    have e3555 : I3550 (ad g 0) 1 = w3407 := by rw [FC_at hy g3552 0 (by decide) (by decide)]; exact e3533
                    have e3556 : I3550 (ad g 0) 8 = w3421 := by rw [FC_at hy g3552 0 (by decide) (by decide)]; exact e3534
                    have e3557 : I3550 (ad g 0) 9 = w3422 := by rw [FC_at hy g3552 0 (by decide) (by decide)]; exact e3535
                    have e3558 : I3550 (ad g 0) 15 = w3424 := by rw [FC_at hy g3552 0 (by decide) (by decide)]; exact e3536
                    have e3559 : I3550 (ad g 0) 10 = w3424 := by rw [FC_at hy g3552 0 (by decide) (by decide)]; exact e3537
                    have e3560 : I3550 (ad g 0) 16 = w3433 := by rw [FC_at hy g3552 0 (by decide) (by decide)]; exact e3538
                    have e3561 : I3550 (ad g 0) 11 = w3433 := by rw [FC_at hy g3552 0 (by decide) (by decide)]; exact e3539
                    have e3562 : I3550 (ad g 0) 17 = w3444 := by rw [FC_at hy g3552 0 (by decide) (by decide)]; exact e3540
                    have e3563 : I3550 (ad g 0) 13 = w3444 := by rw [FC_at hy g3552 0 (by decide) (by decide)]; exact e3541
                    have e3564 : I3550 (ad g 0) 18 = w3457 := by rw [FC_at hy g3552 0 (by decide) (by decide)]; exact e3542
                    have e3565 : I3550 (ad g 0) 14 = v3461 := by rw [FC_at hy g3552 0 (by decide) (by decide)]; exact e3543
                    have e3566 : I3550 (ad g 0) 19 = w3476 := by rw [FC_at hy g3552 0 (by decide) (by decide)]; exact e3544
                    have e3567 : I3550 (ad g 0) 12 = w3476 := by rw [FC_at hy g3552 0 (by decide) (by decide)]; exact e3545
                    have fI3568 : FC g [0, 6, 7, 8, 9, 10, 11, 12, 13, 14, 15, 16, 17, 18, 19, 20, 21, 22, 23, 24, 25, 26, 27, 28, 29, 30, 31, 32, 33, 34, 37, 38, 44, 46, 47] I I3550 := FC_tr fI3546 (FC_mono g3552 (by decide))
                    have fJ3569 : FC g [0, 2, 3, 4, 5] J J3551 := FC_tr fJ3547 (FC_mono g3553 (by decide))
                    have fQ3570 : FQ g [1, 2, 3, 4, 5, 6, 7, 8, 9, 10, 11, 12, 13, 14, 15, 16, 17, 18, 19, 51, 68] I I3550 := FQ_tr fQ3548 (FQ_mono g3554 (by decide))
                    try simp only [e3555, e3556, e3557, ew3395, ew3396, ew3397] at p3549
                    have d9 : ∀ q, q < 4 → I3550 (ad g 9) q = I3412 (ad g 15) q := fun q hq => by rw [p3549 q hq, FC_at hy g3530 15 (by decide) (by decide), FC_at hy g3508 15 (by decide) (by decide), eI3477, pp_off _ _ (ly_ne hy (by decide) (by decide) (by decide)), eI3462, pp_off _ _ (ly_ne hy (by decide) (by decide) (by decide)), eI3445, pp_off _ _ (ly_ne hy (by decide) (by decide) (by decide)), eI3434, pp_off _ _ (ly_ne hy (by decide) (by decide) (by decide)), eI3425, pp_off _ _ (ly_ne hy (by decide) (by decide) (by decide))]
                    refine WP_aload_n dX11_town_165 rfl ?_
                    refine WP_getr dX11_town_166 fX11_241 rfl (ly_is hy 0 11 rfl) (rf hr 0 28 10 (by decide)) ?_
                    refine WP_aload_n dX11_town_169 rfl ?_
                    refine WP_getr dX11_town_170 fX11_105 rfl (ly_is hy 0 11 rfl) (rf hr 0 34 16 (by decide)) ?_
                    refine WP_callS2 dX11_town_173 ⟨⟨⟨by decide, by decide⟩, zX11_copy⟩, lX11_338, tX11_copy⟩ (em_copy10 hy hr   ) (Nat.le_of_ble_eq_true rfl) ?_
                    intro r I3572 J3573 Ra hq
                    obtain ⟨ec, g3574, g3575, g3576, er, p3571⟩ := hq
                    rw [ec, er]
                    clear ec er Ra r
                    have e3577 : I3572 (ad g 0) 1 = w3407 := by rw [FC_at hy g3574 0 (by decide) (by decide)]; exact e3555
                    have e3578 : I3572 (ad g 0) 8 = w3421 := by rw [FC_at hy g3574 0 (by decide) (by decide)]; exact e3556
                    have e3579 : I3572 (ad g 0) 9 = w3422 := by rw [FC_at hy g3574 0 (by decide) (by decide)]; exact e3557
                    have e3580 : I3572 (ad g 0) 15 = w3424 := by rw [FC_at hy g3574 0 (by decide) (by decide)]; exact e3558
                    have e3581 : I3572 (ad g 0) 10 = w3424 := by rw [FC_at hy g3574 0 (by decide) (by decide)]; exact e3559
                    have e3582 : I3572 (ad g 0) 16 = w3433 := by rw [FC_at hy g3574 0 (by decide) (by decide)]; exact e3560
                    have e3583 : I3572 (ad g 0) 11 = w3433 := by rw [FC_at hy g3574 0 (by decide) (by decide)]; exact e3561
                    have e3584 : I3572 (ad g 0) 17 = w3444 := by rw [FC_at hy g3574 0 (by decide) (by decide)]; exact e3562
                    have e3585 : I3572 (ad g 0) 13 = w3444 := by rw [FC_at hy g3574 0 (by decide) (by decide)]; exact e3563
                    have e3586 : I3572 (ad g 0) 18 = w3457 := by rw [FC_at hy g3574 0 (by decide) (by decide)]; exact e3564
                    have e3587 : I3572 (ad g 0) 14 = v3461 := by rw [FC_at hy g3574 0 (by decide) (by decide)]; exact e3565
                    have e3588 : I3572 (ad g 0) 19 = w3476 := by rw [FC_at hy g3574 0 (by decide) (by decide)]; exact e3566
                    have e3589 : I3572 (ad g 0) 12 = w3476 := by rw [FC_at hy g3574 0 (by decide) (by decide)]; exact e3567
                    have fI3590 : FC g [0, 6, 7, 8, 9, 10, 11, 12, 13, 14, 15, 16, 17, 18, 19, 20, 21, 22, 23, 24, 25, 26, 27, 28, 29, 30, 31, 32, 33, 34, 37, 38, 44, 46, 47] I I3572 := FC_tr fI3568 (FC_mono g3574 (by decide))
                    have fJ3591 : FC g [0, 2, 3, 4, 5] J J3573 := FC_tr fJ3569 (FC_mono g3575 (by decide))
                    have fQ3592 : FQ g [1, 2, 3, 4, 5, 6, 7, 8, 9, 10, 11, 12, 13, 14, 15, 16, 17, 18, 19, 51, 68] I I3572 := FQ_tr fQ3570 (FQ_mono g3576 (by decide))
                    try simp only [e3577, e3578, e3579, ew3395, ew3396, ew3397] at p3571
                    have d10 : ∀ q, q < 4 → I3572 (ad g 10) q = I3412 (ad g 16) q := fun q hq => by rw [p3571 q hq, FC_at hy g3552 16 (by decide) (by decide), FC_at hy g3530 16 (by decide) (by decide), FC_at hy g3508 16 (by decide) (by decide), eI3477, pp_off _ _ (ly_ne hy (by decide) (by decide) (by decide)), eI3462, pp_off _ _ (ly_ne hy (by decide) (by decide) (by decide)), eI3445, pp_off _ _ (ly_ne hy (by decide) (by decide) (by decide)), eI3434, pp_off _ _ (ly_ne hy (by decide) (by decide) (by decide)), eI3425, pp_off _ _ (ly_ne hy (by decide) (by decide) (by decide))]
                    refine WP_aload_n dX11_town_176 rfl ?_
                    refine WP_getr dX11_town_177 fX11_244 rfl (ly_is hy 0 11 rfl) (rf hr 0 29 11 (by decide)) ?_
                    refine WP_aload_n dX11_town_180 rfl ?_
                    refine WP_getr dX11_town_181 fX11_108 rfl (ly_is hy 0 11 rfl) (rf hr 0 35 17 (by decide)) ?_
                    refine WP_callS2 dX11_town_184 ⟨⟨⟨by decide, by decide⟩, zX11_copy⟩, lX11_338, tX11_copy⟩ (em_copy11 hy hr   ) (Nat.le_of_ble_eq_true rfl) ?_
                    intro r I3594 J3595 Ra hq
                    obtain ⟨ec, g3596, g3597, g3598, er, p3593⟩ := hq
                    rw [ec, er]
                    clear ec er Ra r
                    have e3599 : I3594 (ad g 0) 1 = w3407 := by rw [FC_at hy g3596 0 (by decide) (by decide)]; exact e3577
                    have e3600 : I3594 (ad g 0) 8 = w3421 := by rw [FC_at hy g3596 0 (by decide) (by decide)]; exact e3578
                    have e3601 : I3594 (ad g 0) 9 = w3422 := by rw [FC_at hy g3596 0 (by decide) (by decide)]; exact e3579
                    have e3602 : I3594 (ad g 0) 15 = w3424 := by rw [FC_at hy g3596 0 (by decide) (by decide)]; exact e3580
                    have e3603 : I3594 (ad g 0) 10 = w3424 := by rw [FC_at hy g3596 0 (by decide) (by decide)]; exact e3581
                    have e3604 : I3594 (ad g 0) 16 = w3433 := by rw [FC_at hy g3596 0 (by decide) (by decide)]; exact e3582
                    have e3605 : I3594 (ad g 0) 11 = w3433 := by rw [FC_at hy g3596 0 (by decide) (by decide)]; exact e3583
                    have e3606 : I3594 (ad g 0) 17 = w3444 := by rw [FC_at hy g3596 0 (by decide) (by decide)]; exact e3584
                    have e3607 : I3594 (ad g 0) 13 = w3444 := by rw [FC_at hy g3596 0 (by decide) (by decide)]; exact e3585
                    have e3608 : I3594 (ad g 0) 18 = w3457 := by rw [FC_at hy g3596 0 (by decide) (by decide)]; exact e3586
                    have e3609 : I3594 (ad g 0) 14 = v3461 := by rw [FC_at hy g3596 0 (by decide) (by decide)]; exact e3587
                    have e3610 : I3594 (ad g 0) 19 = w3476 := by rw [FC_at hy g3596 0 (by decide) (by decide)]; exact e3588
                    have e3611 : I3594 (ad g 0) 12 = w3476 := by rw [FC_at hy g3596 0 (by decide) (by decide)]; exact e3589
                    have fI3612 : FC g [0, 6, 7, 8, 9, 10, 11, 12, 13, 14, 15, 16, 17, 18, 19, 20, 21, 22, 23, 24, 25, 26, 27, 28, 29, 30, 31, 32, 33, 34, 37, 38, 44, 46, 47] I I3594 := FC_tr fI3590 (FC_mono g3596 (by decide))
                    have fJ3613 : FC g [0, 2, 3, 4, 5] J J3595 := FC_tr fJ3591 (FC_mono g3597 (by decide))
                    have fQ3614 : FQ g [1, 2, 3, 4, 5, 6, 7, 8, 9, 10, 11, 12, 13, 14, 15, 16, 17, 18, 19, 51, 68] I I3594 := FQ_tr fQ3592 (FQ_mono g3598 (by decide))
                    try simp only [e3599, e3600, e3601, ew3395, ew3396, ew3397] at p3593
                    have d11 : ∀ q, q < 4 → I3594 (ad g 11) q = I3412 (ad g 17) q := fun q hq => by rw [p3593 q hq, FC_at hy g3574 17 (by decide) (by decide), FC_at hy g3552 17 (by decide) (by decide), FC_at hy g3530 17 (by decide) (by decide), FC_at hy g3508 17 (by decide) (by decide), eI3477, pp_off _ _ (ly_ne hy (by decide) (by decide) (by decide)), eI3462, pp_off _ _ (ly_ne hy (by decide) (by decide) (by decide)), eI3445, pp_off _ _ (ly_ne hy (by decide) (by decide) (by decide)), eI3434, pp_off _ _ (ly_ne hy (by decide) (by decide) (by decide)), eI3425, pp_off _ _ (ly_ne hy (by decide) (by decide) (by decide))]
                    refine WP_aload_n dX11_town_187 rfl ?_
                    refine WP_getr dX11_town_188 fX11_246 rfl (ly_is hy 0 11 rfl) (rf hr 0 30 12 (by decide)) ?_
                    refine WP_aload_n dX11_town_191 rfl ?_
                    refine WP_getr dX11_town_192 fX11_132 rfl (ly_is hy 0 11 rfl) (rf hr 0 36 18 (by decide)) ?_
                    refine WP_callS2 dX11_town_195 ⟨⟨⟨by decide, by decide⟩, zX11_copy⟩, lX11_338, tX11_copy⟩ (em_copy12 hy hr   ) (Nat.le_of_ble_eq_true rfl) ?_
                    intro r I3616 J3617 Ra hq
                    obtain ⟨ec, g3618, g3619, g3620, er, p3615⟩ := hq
                    rw [ec, er]
                    clear ec er Ra r
                    have e3621 : I3616 (ad g 0) 1 = w3407 := by rw [FC_at hy g3618 0 (by decide) (by decide)]; exact e3599
                    have e3622 : I3616 (ad g 0) 8 = w3421 := by rw [FC_at hy g3618 0 (by decide) (by decide)]; exact e3600
                    have e3623 : I3616 (ad g 0) 9 = w3422 := by rw [FC_at hy g3618 0 (by decide) (by decide)]; exact e3601
                    have e3624 : I3616 (ad g 0) 15 = w3424 := by rw [FC_at hy g3618 0 (by decide) (by decide)]; exact e3602
                    have e3625 : I3616 (ad g 0) 10 = w3424 := by rw [FC_at hy g3618 0 (by decide) (by decide)]; exact e3603
                    have e3626 : I3616 (ad g 0) 16 = w3433 := by rw [FC_at hy g3618 0 (by decide) (by decide)]; exact e3604
                    have e3627 : I3616 (ad g 0) 11 = w3433 := by rw [FC_at hy g3618 0 (by decide) (by decide)]; exact e3605
                    have e3628 : I3616 (ad g 0) 17 = w3444 := by rw [FC_at hy g3618 0 (by decide) (by decide)]; exact e3606
                    have e3629 : I3616 (ad g 0) 13 = w3444 := by rw [FC_at hy g3618 0 (by decide) (by decide)]; exact e3607
                    have e3630 : I3616 (ad g 0) 18 = w3457 := by rw [FC_at hy g3618 0 (by decide) (by decide)]; exact e3608
                    have e3631 : I3616 (ad g 0) 14 = v3461 := by rw [FC_at hy g3618 0 (by decide) (by decide)]; exact e3609
                    have e3632 : I3616 (ad g 0) 19 = w3476 := by rw [FC_at hy g3618 0 (by decide) (by decide)]; exact e3610
                    have e3633 : I3616 (ad g 0) 12 = w3476 := by rw [FC_at hy g3618 0 (by decide) (by decide)]; exact e3611
                    have fI3634 : FC g [0, 6, 7, 8, 9, 10, 11, 12, 13, 14, 15, 16, 17, 18, 19, 20, 21, 22, 23, 24, 25, 26, 27, 28, 29, 30, 31, 32, 33, 34, 37, 38, 44, 46, 47] I I3616 := FC_tr fI3612 (FC_mono g3618 (by decide))
                    have fJ3635 : FC g [0, 2, 3, 4, 5] J J3617 := FC_tr fJ3613 (FC_mono g3619 (by decide))
                    have fQ3636 : FQ g [1, 2, 3, 4, 5, 6, 7, 8, 9, 10, 11, 12, 13, 14, 15, 16, 17, 18, 19, 51, 68] I I3616 := FQ_tr fQ3614 (FQ_mono g3620 (by decide))
                    try simp only [e3621, e3622, e3623, ew3395, ew3396, ew3397] at p3615
                    have d12 : ∀ q, q < 3 → I3616 (ad g 12) q = I3412 (ad g 18) q := fun q hq => by rw [p3615 q hq, FC_at hy g3596 18 (by decide) (by decide), FC_at hy g3574 18 (by decide) (by decide), FC_at hy g3552 18 (by decide) (by decide), FC_at hy g3530 18 (by decide) (by decide), FC_at hy g3508 18 (by decide) (by decide), eI3477, pp_off _ _ (ly_ne hy (by decide) (by decide) (by decide)), eI3462, pp_off _ _ (ly_ne hy (by decide) (by decide) (by decide)), eI3445, pp_off _ _ (ly_ne hy (by decide) (by decide) (by decide)), eI3434, pp_off _ _ (ly_ne hy (by decide) (by decide) (by decide)), eI3425, pp_off _ _ (ly_ne hy (by decide) (by decide) (by decide))]
                    refine WP_aload_n dX11_town_198 rfl ?_
                    refine WP_getr dX11_town_199 fX11_249 rfl (ly_is hy 0 11 rfl) (rf hr 0 31 13 (by decide)) ?_
                    refine WP_aload_n dX11_town_202 rfl ?_
                    refine WP_getr dX11_town_203 fX11_135 rfl (ly_is hy 0 11 rfl) (rf hr 0 37 19 (by decide)) ?_
                    refine WP_callS2 dX11_town_206 ⟨⟨⟨by decide, by decide⟩, zX11_copy⟩, lX11_338, tX11_copy⟩ (em_copy13 hy hr   ) (Nat.le_of_ble_eq_true rfl) ?_
                    intro r I3638 J3639 Ra hq
                    obtain ⟨ec, g3640, g3641, g3642, er, p3637⟩ := hq
                    rw [ec, er]
                    clear ec er Ra r
                    have e3643 : I3638 (ad g 0) 1 = w3407 := by rw [FC_at hy g3640 0 (by decide) (by decide)]; exact e3621
                    have e3644 : I3638 (ad g 0) 8 = w3421 := by rw [FC_at hy g3640 0 (by decide) (by decide)]; exact e3622
                    have e3645 : I3638 (ad g 0) 9 = w3422 := by rw [FC_at hy g3640 0 (by decide) (by decide)]; exact e3623
                    have e3646 : I3638 (ad g 0) 15 = w3424 := by rw [FC_at hy g3640 0 (by decide) (by decide)]; exact e3624
                    have e3647 : I3638 (ad g 0) 10 = w3424 := by rw [FC_at hy g3640 0 (by decide) (by decide)]; exact e3625
                    have e3648 : I3638 (ad g 0) 16 = w3433 := by rw [FC_at hy g3640 0 (by decide) (by decide)]; exact e3626
                    have e3649 : I3638 (ad g 0) 11 = w3433 := by rw [FC_at hy g3640 0 (by decide) (by decide)]; exact e3627
                    have e3650 : I3638 (ad g 0) 17 = w3444 := by rw [FC_at hy g3640 0 (by decide) (by decide)]; exact e3628
                    have e3651 : I3638 (ad g 0) 13 = w3444 := by rw [FC_at hy g3640 0 (by decide) (by decide)]; exact e3629
                    have e3652 : I3638 (ad g 0) 18 = w3457 := by rw [FC_at hy g3640 0 (by decide) (by decide)]; exact e3630
                    have e3653 : I3638 (ad g 0) 14 = v3461 := by rw [FC_at hy g3640 0 (by decide) (by decide)]; exact e3631
                    have e3654 : I3638 (ad g 0) 19 = w3476 := by rw [FC_at hy g3640 0 (by decide) (by decide)]; exact e3632
                    have e3655 : I3638 (ad g 0) 12 = w3476 := by rw [FC_at hy g3640 0 (by decide) (by decide)]; exact e3633
                    have fI3656 : FC g [0, 6, 7, 8, 9, 10, 11, 12, 13, 14, 15, 16, 17, 18, 19, 20, 21, 22, 23, 24, 25, 26, 27, 28, 29, 30, 31, 32, 33, 34, 37, 38, 44, 46, 47] I I3638 := FC_tr fI3634 (FC_mono g3640 (by decide))
                    have fJ3657 : FC g [0, 2, 3, 4, 5] J J3639 := FC_tr fJ3635 (FC_mono g3641 (by decide))
                    have fQ3658 : FQ g [1, 2, 3, 4, 5, 6, 7, 8, 9, 10, 11, 12, 13, 14, 15, 16, 17, 18, 19, 51, 68] I I3638 := FQ_tr fQ3636 (FQ_mono g3642 (by decide))
                    try simp only [e3643, e3644, e3645, ew3395, ew3396, ew3397] at p3637
                    have d13 : ∀ q, q < 3 → I3638 (ad g 13) q = I3412 (ad g 19) q := fun q hq => by rw [p3637 q hq, FC_at hy g3618 19 (by decide) (by decide), FC_at hy g3596 19 (by decide) (by decide), FC_at hy g3574 19 (by decide) (by decide), FC_at hy g3552 19 (by decide) (by decide), FC_at hy g3530 19 (by decide) (by decide), FC_at hy g3508 19 (by decide) (by decide), eI3477, pp_off _ _ (ly_ne hy (by decide) (by decide) (by decide)), eI3462, pp_off _ _ (ly_ne hy (by decide) (by decide) (by decide)), eI3445, pp_off _ _ (ly_ne hy (by decide) (by decide) (by decide)), eI3434, pp_off _ _ (ly_ne hy (by decide) (by decide) (by decide)), eI3425, pp_off _ _ (ly_ne hy (by decide) (by decide) (by decide))]
                    refine WP_aload_n dX11_town_209 rfl ?_
                    refine WP_getr dX11_town_210 fX11_252 rfl (ly_is hy 0 11 rfl) (rf hr 0 38 20 (by decide)) ?_
                    refine WP_aload_n dX11_town_213 rfl ?_
                    refine WP_getr dX11_town_214 fX11_114 rfl (ly_is hy 0 11 rfl) (rf hr 0 45 27 (by decide)) ?_
                    refine WP_callS2 dX11_town_217 ⟨⟨⟨by decide, by decide⟩, zX11_copy⟩, lX11_338, tX11_copy⟩ (em_copy20 hy hr   ) (Nat.le_of_ble_eq_true rfl) ?_
                    intro r I3660 J3661 Ra hq
                    obtain ⟨ec, g3662, g3663, g3664, er, p3659⟩ := hq
                    rw [ec, er]
                    clear ec er Ra r
                    have e3665 : I3660 (ad g 0) 1 = w3407 := by rw [FC_at hy g3662 0 (by decide) (by decide)]; exact e3643
                    have e3666 : I3660 (ad g 0) 8 = w3421 := by rw [FC_at hy g3662 0 (by decide) (by decide)]; exact e3644
                    have e3667 : I3660 (ad g 0) 9 = w3422 := by rw [FC_at hy g3662 0 (by decide) (by decide)]; exact e3645
                    have e3668 : I3660 (ad g 0) 15 = w3424 := by rw [FC_at hy g3662 0 (by decide) (by decide)]; exact e3646
                    have e3669 : I3660 (ad g 0) 10 = w3424 := by rw [FC_at hy g3662 0 (by decide) (by decide)]; exact e3647
                    have e3670 : I3660 (ad g 0) 16 = w3433 := by rw [FC_at hy g3662 0 (by decide) (by decide)]; exact e3648
                    have e3671 : I3660 (ad g 0) 11 = w3433 := by rw [FC_at hy g3662 0 (by decide) (by decide)]; exact e3649
                    have e3672 : I3660 (ad g 0) 17 = w3444 := by rw [FC_at hy g3662 0 (by decide) (by decide)]; exact e3650
                    have e3673 : I3660 (ad g 0) 13 = w3444 := by rw [FC_at hy g3662 0 (by decide) (by decide)]; exact e3651
                    have e3674 : I3660 (ad g 0) 18 = w3457 := by rw [FC_at hy g3662 0 (by decide) (by decide)]; exact e3652
                    have e3675 : I3660 (ad g 0) 14 = v3461 := by rw [FC_at hy g3662 0 (by decide) (by decide)]; exact e3653
                    have e3676 : I3660 (ad g 0) 19 = w3476 := by rw [FC_at hy g3662 0 (by decide) (by decide)]; exact e3654
                    have e3677 : I3660 (ad g 0) 12 = w3476 := by rw [FC_at hy g3662 0 (by decide) (by decide)]; exact e3655
                    have fI3678 : FC g [0, 6, 7, 8, 9, 10, 11, 12, 13, 14, 15, 16, 17, 18, 19, 20, 21, 22, 23, 24, 25, 26, 27, 28, 29, 30, 31, 32, 33, 34, 37, 38, 44, 46, 47] I I3660 := FC_tr fI3656 (FC_mono g3662 (by decide))
                    have fJ3679 : FC g [0, 2, 3, 4, 5] J J3661 := FC_tr fJ3657 (FC_mono g3663 (by decide))
                    have fQ3680 : FQ g [1, 2, 3, 4, 5, 6, 7, 8, 9, 10, 11, 12, 13, 14, 15, 16, 17, 18, 19, 51, 68] I I3660 := FQ_tr fQ3658 (FQ_mono g3664 (by decide))
                    try simp only [e3665, e3666, e3667, ew3395, ew3396, ew3397] at p3659
                    have d20 : ∀ q, q < 28 → I3660 (ad g 20) q = I3412 (ad g 27) q := fun q hq => by rw [p3659 q hq, FC_at hy g3640 27 (by decide) (by decide), FC_at hy g3618 27 (by decide) (by decide), FC_at hy g3596 27 (by decide) (by decide), FC_at hy g3574 27 (by decide) (by decide), FC_at hy g3552 27 (by decide) (by decide), FC_at hy g3530 27 (by decide) (by decide), FC_at hy g3508 27 (by decide) (by decide), eI3477, pp_off _ _ (ly_ne hy (by decide) (by decide) (by decide)), eI3462, pp_off _ _ (ly_ne hy (by decide) (by decide) (by decide)), eI3445, pp_off _ _ (ly_ne hy (by decide) (by decide) (by decide)), eI3434, pp_off _ _ (ly_ne hy (by decide) (by decide) (by decide)), eI3425, pp_off _ _ (ly_ne hy (by decide) (by decide) (by decide))]
                    refine WP_aload_n dX11_town_220 rfl ?_
                    refine WP_getr dX11_town_221 fX11_254 rfl (ly_is hy 0 11 rfl) (rf hr 0 39 21 (by decide)) ?_
                    refine WP_aload_n dX11_town_224 rfl ?_
                    refine WP_getr dX11_town_225 fX11_141 rfl (ly_is hy 0 11 rfl) (rf hr 0 46 28 (by decide)) ?_
                    refine WP_callS2 dX11_town_228 ⟨⟨⟨by decide, by decide⟩, zX11_copy⟩, lX11_338, tX11_copy⟩ (em_copy21 hy hr   ) (Nat.le_of_ble_eq_true rfl) ?_
                    intro r I3682 J3683 Ra hq
                    obtain ⟨ec, g3684, g3685, g3686, er, p3681⟩ := hq
                    rw [ec, er]
                    clear ec er Ra r
                    have e3687 : I3682 (ad g 0) 1 = w3407 := by rw [FC_at hy g3684 0 (by decide) (by decide)]; exact e3665
                    have e3688 : I3682 (ad g 0) 8 = w3421 := by rw [FC_at hy g3684 0 (by decide) (by decide)]; exact e3666
                    have e3689 : I3682 (ad g 0) 9 = w3422 := by rw [FC_at hy g3684 0 (by decide) (by decide)]; exact e3667
                    have e3690 : I3682 (ad g 0) 15 = w3424 := by rw [FC_at hy g3684 0 (by decide) (by decide)]; exact e3668
                    have e3691 : I3682 (ad g 0) 10 = w3424 := by rw [FC_at hy g3684 0 (by decide) (by decide)]; exact e3669
                    have e3692 : I3682 (ad g 0) 16 = w3433 := by rw [FC_at hy g3684 0 (by decide) (by decide)]; exact e3670
                    have e3693 : I3682 (ad g 0) 11 = w3433 := by rw [FC_at hy g3684 0 (by decide) (by decide)]; exact e3671
                    have e3694 : I3682 (ad g 0) 17 = w3444 := by rw [FC_at hy g3684 0 (by decide) (by decide)]; exact e3672
                    have e3695 : I3682 (ad g 0) 13 = w3444 := by rw [FC_at hy g3684 0 (by decide) (by decide)]; exact e3673
                    have e3696 : I3682 (ad g 0) 18 = w3457 := by rw [FC_at hy g3684 0 (by decide) (by decide)]; exact e3674
                    have e3697 : I3682 (ad g 0) 14 = v3461 := by rw [FC_at hy g3684 0 (by decide) (by decide)]; exact e3675
                    have e3698 : I3682 (ad g 0) 19 = w3476 := by rw [FC_at hy g3684 0 (by decide) (by decide)]; exact e3676
                    have e3699 : I3682 (ad g 0) 12 = w3476 := by rw [FC_at hy g3684 0 (by decide) (by decide)]; exact e3677
                    have fI3700 : FC g [0, 6, 7, 8, 9, 10, 11, 12, 13, 14, 15, 16, 17, 18, 19, 20, 21, 22, 23, 24, 25, 26, 27, 28, 29, 30, 31, 32, 33, 34, 37, 38, 44, 46, 47] I I3682 := FC_tr fI3678 (FC_mono g3684 (by decide))
                    have fJ3701 : FC g [0, 2, 3, 4, 5] J J3683 := FC_tr fJ3679 (FC_mono g3685 (by decide))
                    have fQ3702 : FQ g [1, 2, 3, 4, 5, 6, 7, 8, 9, 10, 11, 12, 13, 14, 15, 16, 17, 18, 19, 51, 68] I I3682 := FQ_tr fQ3680 (FQ_mono g3686 (by decide))
                    try simp only [e3687, e3688, e3689, ew3395, ew3396, ew3397] at p3681
                    have d21 : ∀ q, q < 21 → I3682 (ad g 21) q = I3412 (ad g 28) q := fun q hq => by rw [p3681 q hq, FC_at hy g3662 28 (by decide) (by decide), FC_at hy g3640 28 (by decide) (by decide), FC_at hy g3618 28 (by decide) (by decide), FC_at hy g3596 28 (by decide) (by decide), FC_at hy g3574 28 (by decide) (by decide), FC_at hy g3552 28 (by decide) (by decide), FC_at hy g3530 28 (by decide) (by decide), FC_at hy g3508 28 (by decide) (by decide), eI3477, pp_off _ _ (ly_ne hy (by decide) (by decide) (by decide)), eI3462, pp_off _ _ (ly_ne hy (by decide) (by decide) (by decide)), eI3445, pp_off _ _ (ly_ne hy (by decide) (by decide) (by decide)), eI3434, pp_off _ _ (ly_ne hy (by decide) (by decide) (by decide)), eI3425, pp_off _ _ (ly_ne hy (by decide) (by decide) (by decide))]
                    refine WP_aload_n dX11_town_231 rfl ?_
                    refine WP_getr dX11_town_232 fX11_257 rfl (ly_is hy 0 11 rfl) (rf hr 0 40 22 (by decide)) ?_
                    refine WP_aload_n dX11_town_235 rfl ?_
                    refine WP_getr dX11_town_236 fX11_141 rfl (ly_is hy 0 11 rfl) (rf hr 0 46 28 (by decide)) ?_
                    refine WP_callS2 dX11_town_239 ⟨⟨⟨by decide, by decide⟩, zX11_copy⟩, lX11_338, tX11_copy⟩ (em_copy22 hy hr   ) (Nat.le_of_ble_eq_true rfl) ?_
                    intro r I3704 J3705 Ra hq
                    obtain ⟨ec, g3706, g3707, g3708, er, p3703⟩ := hq
                    rw [ec, er]
                    clear ec er Ra r
                    have e3709 : I3704 (ad g 0) 1 = w3407 := by rw [FC_at hy g3706 0 (by decide) (by decide)]; exact e3687
                    have e3710 : I3704 (ad g 0) 8 = w3421 := by rw [FC_at hy g3706 0 (by decide) (by decide)]; exact e3688
                    have e3711 : I3704 (ad g 0) 9 = w3422 := by rw [FC_at hy g3706 0 (by decide) (by decide)]; exact e3689
                    have e3712 : I3704 (ad g 0) 15 = w3424 := by rw [FC_at hy g3706 0 (by decide) (by decide)]; exact e3690
                    have e3713 : I3704 (ad g 0) 10 = w3424 := by rw [FC_at hy g3706 0 (by decide) (by decide)]; exact e3691
                    have e3714 : I3704 (ad g 0) 16 = w3433 := by rw [FC_at hy g3706 0 (by decide) (by decide)]; exact e3692
                    have e3715 : I3704 (ad g 0) 11 = w3433 := by rw [FC_at hy g3706 0 (by decide) (by decide)]; exact e3693
                    have e3716 : I3704 (ad g 0) 17 = w3444 := by rw [FC_at hy g3706 0 (by decide) (by decide)]; exact e3694
                    have e3717 : I3704 (ad g 0) 13 = w3444 := by rw [FC_at hy g3706 0 (by decide) (by decide)]; exact e3695
                    have e3718 : I3704 (ad g 0) 18 = w3457 := by rw [FC_at hy g3706 0 (by decide) (by decide)]; exact e3696
                    have e3719 : I3704 (ad g 0) 14 = v3461 := by rw [FC_at hy g3706 0 (by decide) (by decide)]; exact e3697
                    have e3720 : I3704 (ad g 0) 19 = w3476 := by rw [FC_at hy g3706 0 (by decide) (by decide)]; exact e3698
                    have e3721 : I3704 (ad g 0) 12 = w3476 := by rw [FC_at hy g3706 0 (by decide) (by decide)]; exact e3699
                    have fI3722 : FC g [0, 6, 7, 8, 9, 10, 11, 12, 13, 14, 15, 16, 17, 18, 19, 20, 21, 22, 23, 24, 25, 26, 27, 28, 29, 30, 31, 32, 33, 34, 37, 38, 44, 46, 47] I I3704 := FC_tr fI3700 (FC_mono g3706 (by decide))
                    have fJ3723 : FC g [0, 2, 3, 4, 5] J J3705 := FC_tr fJ3701 (FC_mono g3707 (by decide))
                    have fQ3724 : FQ g [1, 2, 3, 4, 5, 6, 7, 8, 9, 10, 11, 12, 13, 14, 15, 16, 17, 18, 19, 51, 68] I I3704 := FQ_tr fQ3702 (FQ_mono g3708 (by decide))
                    try simp only [e3709, e3710, e3711, ew3395, ew3396, ew3397] at p3703
                    have d22 : ∀ q, q < 21 → I3704 (ad g 22) q = I3412 (ad g 28) q := fun q hq => by rw [p3703 q hq, FC_at hy g3684 28 (by decide) (by decide), FC_at hy g3662 28 (by decide) (by decide), FC_at hy g3640 28 (by decide) (by decide), FC_at hy g3618 28 (by decide) (by decide), FC_at hy g3596 28 (by decide) (by decide), FC_at hy g3574 28 (by decide) (by decide), FC_at hy g3552 28 (by decide) (by decide), FC_at hy g3530 28 (by decide) (by decide), FC_at hy g3508 28 (by decide) (by decide), eI3477, pp_off _ _ (ly_ne hy (by decide) (by decide) (by decide)), eI3462, pp_off _ _ (ly_ne hy (by decide) (by decide) (by decide)), eI3445, pp_off _ _ (ly_ne hy (by decide) (by decide) (by decide)), eI3434, pp_off _ _ (ly_ne hy (by decide) (by decide) (by decide)), eI3425, pp_off _ _ (ly_ne hy (by decide) (by decide) (by decide))]
                    refine WP_aload_n dX11_town_242 rfl ?_
                    refine WP_getr dX11_town_243 fX11_259 rfl (ly_is hy 0 11 rfl) (rf hr 0 41 23 (by decide)) ?_
                    refine WP_aload_n dX11_town_246 rfl ?_
                    refine WP_getr dX11_town_247 fX11_144 rfl (ly_is hy 0 11 rfl) (rf hr 0 47 29 (by decide)) ?_
                    refine WP_callS2 dX11_town_250 ⟨⟨⟨by decide, by decide⟩, zX11_copy⟩, lX11_338, tX11_copy⟩ (em_copy23 hy hr   ) (Nat.le_of_ble_eq_true rfl) ?_
                    intro r I3726 J3727 Ra hq
                    obtain ⟨ec, g3728, g3729, g3730, er, p3725⟩ := hq
                    rw [ec, er]
                    clear ec er Ra r
                    have e3731 : I3726 (ad g 0) 1 = w3407 := by rw [FC_at hy g3728 0 (by decide) (by decide)]; exact e3709
                    have e3732 : I3726 (ad g 0) 8 = w3421 := by rw [FC_at hy g3728 0 (by decide) (by decide)]; exact e3710
                    have e3733 : I3726 (ad g 0) 9 = w3422 := by rw [FC_at hy g3728 0 (by decide) (by decide)]; exact e3711
                    have e3734 : I3726 (ad g 0) 15 = w3424 := by rw [FC_at hy g3728 0 (by decide) (by decide)]; exact e3712
                    have e3735 : I3726 (ad g 0) 10 = w3424 := by rw [FC_at hy g3728 0 (by decide) (by decide)]; exact e3713
                    have e3736 : I3726 (ad g 0) 16 = w3433 := by rw [FC_at hy g3728 0 (by decide) (by decide)]; exact e3714
                    have e3737 : I3726 (ad g 0) 11 = w3433 := by rw [FC_at hy g3728 0 (by decide) (by decide)]; exact e3715
                    have e3738 : I3726 (ad g 0) 17 = w3444 := by rw [FC_at hy g3728 0 (by decide) (by decide)]; exact e3716
                    have e3739 : I3726 (ad g 0) 13 = w3444 := by rw [FC_at hy g3728 0 (by decide) (by decide)]; exact e3717
                    have e3740 : I3726 (ad g 0) 18 = w3457 := by rw [FC_at hy g3728 0 (by decide) (by decide)]; exact e3718
                    have e3741 : I3726 (ad g 0) 14 = v3461 := by rw [FC_at hy g3728 0 (by decide) (by decide)]; exact e3719
                    have e3742 : I3726 (ad g 0) 19 = w3476 := by rw [FC_at hy g3728 0 (by decide) (by decide)]; exact e3720
                    have e3743 : I3726 (ad g 0) 12 = w3476 := by rw [FC_at hy g3728 0 (by decide) (by decide)]; exact e3721
                    have fI3744 : FC g [0, 6, 7, 8, 9, 10, 11, 12, 13, 14, 15, 16, 17, 18, 19, 20, 21, 22, 23, 24, 25, 26, 27, 28, 29, 30, 31, 32, 33, 34, 37, 38, 44, 46, 47] I I3726 := FC_tr fI3722 (FC_mono g3728 (by decide))
                    have fJ3745 : FC g [0, 2, 3, 4, 5] J J3727 := FC_tr fJ3723 (FC_mono g3729 (by decide))
                    have fQ3746 : FQ g [1, 2, 3, 4, 5, 6, 7, 8, 9, 10, 11, 12, 13, 14, 15, 16, 17, 18, 19, 51, 68] I I3726 := FQ_tr fQ3724 (FQ_mono g3730 (by decide))
                    try simp only [e3731, e3732, e3733, ew3395, ew3396, ew3397] at p3725
                    have d23 : ∀ q, q < 21 → I3726 (ad g 23) q = I3412 (ad g 29) q := fun q hq => by rw [p3725 q hq, FC_at hy g3706 29 (by decide) (by decide), FC_at hy g3684 29 (by decide) (by decide), FC_at hy g3662 29 (by decide) (by decide), FC_at hy g3640 29 (by decide) (by decide), FC_at hy g3618 29 (by decide) (by decide), FC_at hy g3596 29 (by decide) (by decide), FC_at hy g3574 29 (by decide) (by decide), FC_at hy g3552 29 (by decide) (by decide), FC_at hy g3530 29 (by decide) (by decide), FC_at hy g3508 29 (by decide) (by decide), eI3477, pp_off _ _ (ly_ne hy (by decide) (by decide) (by decide)), eI3462, pp_off _ _ (ly_ne hy (by decide) (by decide) (by decide)), eI3445, pp_off _ _ (ly_ne hy (by decide) (by decide) (by decide)), eI3434, pp_off _ _ (ly_ne hy (by decide) (by decide) (by decide)), eI3425, pp_off _ _ (ly_ne hy (by decide) (by decide) (by decide))]
                    refine WP_aload_n dX11_town_253 rfl ?_
                    refine WP_getr dX11_town_254 fX11_261 rfl (ly_is hy 0 11 rfl) (rf hr 0 42 24 (by decide)) ?_
                    refine WP_aload_n dX11_town_257 rfl ?_
                    refine WP_getr dX11_town_258 fX11_117 rfl (ly_is hy 0 11 rfl) (rf hr 0 48 30 (by decide)) ?_
                    refine WP_callS2 dX11_town_261 ⟨⟨⟨by decide, by decide⟩, zX11_copy⟩, lX11_338, tX11_copy⟩ (em_copy24 hy hr   ) (Nat.le_of_ble_eq_true rfl) ?_
                    intro r I3748 J3749 Ra hq
                    obtain ⟨ec, g3750, g3751, g3752, er, p3747⟩ := hq
                    rw [ec, er]
                    clear ec er Ra r
                    have e3753 : I3748 (ad g 0) 1 = w3407 := by rw [FC_at hy g3750 0 (by decide) (by decide)]; exact e3731
                    have e3754 : I3748 (ad g 0) 8 = w3421 := by rw [FC_at hy g3750 0 (by decide) (by decide)]; exact e3732
                    have e3755 : I3748 (ad g 0) 9 = w3422 := by rw [FC_at hy g3750 0 (by decide) (by decide)]; exact e3733
                    have e3756 : I3748 (ad g 0) 15 = w3424 := by rw [FC_at hy g3750 0 (by decide) (by decide)]; exact e3734
                    have e3757 : I3748 (ad g 0) 10 = w3424 := by rw [FC_at hy g3750 0 (by decide) (by decide)]; exact e3735
                    have e3758 : I3748 (ad g 0) 16 = w3433 := by rw [FC_at hy g3750 0 (by decide) (by decide)]; exact e3736
                    have e3759 : I3748 (ad g 0) 11 = w3433 := by rw [FC_at hy g3750 0 (by decide) (by decide)]; exact e3737
                    have e3760 : I3748 (ad g 0) 17 = w3444 := by rw [FC_at hy g3750 0 (by decide) (by decide)]; exact e3738
                    have e3761 : I3748 (ad g 0) 13 = w3444 := by rw [FC_at hy g3750 0 (by decide) (by decide)]; exact e3739
                    have e3762 : I3748 (ad g 0) 18 = w3457 := by rw [FC_at hy g3750 0 (by decide) (by decide)]; exact e3740
                    have e3763 : I3748 (ad g 0) 14 = v3461 := by rw [FC_at hy g3750 0 (by decide) (by decide)]; exact e3741
                    have e3764 : I3748 (ad g 0) 19 = w3476 := by rw [FC_at hy g3750 0 (by decide) (by decide)]; exact e3742
                    have e3765 : I3748 (ad g 0) 12 = w3476 := by rw [FC_at hy g3750 0 (by decide) (by decide)]; exact e3743
                    have fI3766 : FC g [0, 6, 7, 8, 9, 10, 11, 12, 13, 14, 15, 16, 17, 18, 19, 20, 21, 22, 23, 24, 25, 26, 27, 28, 29, 30, 31, 32, 33, 34, 37, 38, 44, 46, 47] I I3748 := FC_tr fI3744 (FC_mono g3750 (by decide))
                    have fJ3767 : FC g [0, 2, 3, 4, 5] J J3749 := FC_tr fJ3745 (FC_mono g3751 (by decide))
                    have fQ3768 : FQ g [1, 2, 3, 4, 5, 6, 7, 8, 9, 10, 11, 12, 13, 14, 15, 16, 17, 18, 19, 51, 68] I I3748 := FQ_tr fQ3746 (FQ_mono g3752 (by decide))
                    try simp only [e3753, e3754, e3755, ew3395, ew3396, ew3397] at p3747
                    have d24 : ∀ q, q < 28 → I3748 (ad g 24) q = I3412 (ad g 30) q := fun q hq => by rw [p3747 q hq, FC_at hy g3728 30 (by decide) (by decide), FC_at hy g3706 30 (by decide) (by decide), FC_at hy g3684 30 (by decide) (by decide), FC_at hy g3662 30 (by decide) (by decide), FC_at hy g3640 30 (by decide) (by decide), FC_at hy g3618 30 (by decide) (by decide), FC_at hy g3596 30 (by decide) (by decide), FC_at hy g3574 30 (by decide) (by decide), FC_at hy g3552 30 (by decide) (by decide), FC_at hy g3530 30 (by decide) (by decide), FC_at hy g3508 30 (by decide) (by decide), eI3477, pp_off _ _ (ly_ne hy (by decide) (by decide) (by decide)), eI3462, pp_off _ _ (ly_ne hy (by decide) (by decide) (by decide)), eI3445, pp_off _ _ (ly_ne hy (by decide) (by decide) (by decide)), eI3434, pp_off _ _ (ly_ne hy (by decide) (by decide) (by decide)), eI3425, pp_off _ _ (ly_ne hy (by decide) (by decide) (by decide))]
                    refine WP_aload_n dX11_town_264 rfl ?_
                    refine WP_getr dX11_town_265 fX11_264 rfl (ly_is hy 0 11 rfl) (rf hr 0 43 25 (by decide)) ?_
                    refine WP_aload_n dX11_town_268 rfl ?_
                    refine WP_getr dX11_town_269 fX11_120 rfl (ly_is hy 0 11 rfl) (rf hr 0 49 31 (by decide)) ?_
                    refine WP_callS2 dX11_town_272 ⟨⟨⟨by decide, by decide⟩, zX11_copy⟩, lX11_338, tX11_copy⟩ (em_copy25 hy hr   ) (Nat.le_of_ble_eq_true rfl) ?_
                    intro r I3770 J3771 Ra hq
                    obtain ⟨ec, g3772, g3773, g3774, er, p3769⟩ := hq
                    rw [ec, er]
                    clear ec er Ra r
                    have e3775 : I3770 (ad g 0) 1 = w3407 := by rw [FC_at hy g3772 0 (by decide) (by decide)]; exact e3753
                    have e3776 : I3770 (ad g 0) 8 = w3421 := by rw [FC_at hy g3772 0 (by decide) (by decide)]; exact e3754
                    have e3777 : I3770 (ad g 0) 9 = w3422 := by rw [FC_at hy g3772 0 (by decide) (by decide)]; exact e3755
                    have e3778 : I3770 (ad g 0) 15 = w3424 := by rw [FC_at hy g3772 0 (by decide) (by decide)]; exact e3756
                    have e3779 : I3770 (ad g 0) 10 = w3424 := by rw [FC_at hy g3772 0 (by decide) (by decide)]; exact e3757
                    have e3780 : I3770 (ad g 0) 16 = w3433 := by rw [FC_at hy g3772 0 (by decide) (by decide)]; exact e3758
                    have e3781 : I3770 (ad g 0) 11 = w3433 := by rw [FC_at hy g3772 0 (by decide) (by decide)]; exact e3759
                    have e3782 : I3770 (ad g 0) 17 = w3444 := by rw [FC_at hy g3772 0 (by decide) (by decide)]; exact e3760
                    have e3783 : I3770 (ad g 0) 13 = w3444 := by rw [FC_at hy g3772 0 (by decide) (by decide)]; exact e3761
                    have e3784 : I3770 (ad g 0) 18 = w3457 := by rw [FC_at hy g3772 0 (by decide) (by decide)]; exact e3762
                    have e3785 : I3770 (ad g 0) 14 = v3461 := by rw [FC_at hy g3772 0 (by decide) (by decide)]; exact e3763
                    have e3786 : I3770 (ad g 0) 19 = w3476 := by rw [FC_at hy g3772 0 (by decide) (by decide)]; exact e3764
                    have e3787 : I3770 (ad g 0) 12 = w3476 := by rw [FC_at hy g3772 0 (by decide) (by decide)]; exact e3765
                    have fI3788 : FC g [0, 6, 7, 8, 9, 10, 11, 12, 13, 14, 15, 16, 17, 18, 19, 20, 21, 22, 23, 24, 25, 26, 27, 28, 29, 30, 31, 32, 33, 34, 37, 38, 44, 46, 47] I I3770 := FC_tr fI3766 (FC_mono g3772 (by decide))
                    have fJ3789 : FC g [0, 2, 3, 4, 5] J J3771 := FC_tr fJ3767 (FC_mono g3773 (by decide))
                    have fQ3790 : FQ g [1, 2, 3, 4, 5, 6, 7, 8, 9, 10, 11, 12, 13, 14, 15, 16, 17, 18, 19, 51, 68] I I3770 := FQ_tr fQ3768 (FQ_mono g3774 (by decide))
                    try simp only [e3775, e3776, e3777, ew3395, ew3396, ew3397] at p3769
                    have d25 : ∀ q, q < 28 → I3770 (ad g 25) q = I3412 (ad g 31) q := fun q hq => by rw [p3769 q hq, FC_at hy g3750 31 (by decide) (by decide), FC_at hy g3728 31 (by decide) (by decide), FC_at hy g3706 31 (by decide) (by decide), FC_at hy g3684 31 (by decide) (by decide), FC_at hy g3662 31 (by decide) (by decide), FC_at hy g3640 31 (by decide) (by decide), FC_at hy g3618 31 (by decide) (by decide), FC_at hy g3596 31 (by decide) (by decide), FC_at hy g3574 31 (by decide) (by decide), FC_at hy g3552 31 (by decide) (by decide), FC_at hy g3530 31 (by decide) (by decide), FC_at hy g3508 31 (by decide) (by decide), eI3477, pp_off _ _ (ly_ne hy (by decide) (by decide) (by decide)), eI3462, pp_off _ _ (ly_ne hy (by decide) (by decide) (by decide)), eI3445, pp_off _ _ (ly_ne hy (by decide) (by decide) (by decide)), eI3434, pp_off _ _ (ly_ne hy (by decide) (by decide) (by decide)), eI3425, pp_off _ _ (ly_ne hy (by decide) (by decide) (by decide))]
                    refine WP_aload_n dX11_town_275 rfl ?_
                    refine WP_getr dX11_town_276 fX11_267 rfl (ly_is hy 0 11 rfl) (rf hr 0 44 26 (by decide)) ?_
                    refine WP_aload_n dX11_town_279 rfl ?_
                    refine WP_getr dX11_town_280 fX11_123 rfl (ly_is hy 0 11 rfl) (rf hr 0 50 32 (by decide)) ?_
                    refine WP_callS2 dX11_town_283 ⟨⟨⟨by decide, by decide⟩, zX11_copy⟩, lX11_338, tX11_copy⟩ (em_copy26 hy hr   ) (Nat.le_of_ble_eq_true rfl) ?_
                    intro r I3792 J3793 Ra hq
                    obtain ⟨ec, g3794, g3795, g3796, er, p3791⟩ := hq
                    rw [ec, er]
                    clear ec er Ra r
                    have e3797 : I3792 (ad g 0) 1 = w3407 := by rw [FC_at hy g3794 0 (by decide) (by decide)]; exact e3775
                    have e3798 : I3792 (ad g 0) 8 = w3421 := by rw [FC_at hy g3794 0 (by decide) (by decide)]; exact e3776
                    have e3799 : I3792 (ad g 0) 9 = w3422 := by rw [FC_at hy g3794 0 (by decide) (by decide)]; exact e3777
                    have e3800 : I3792 (ad g 0) 15 = w3424 := by rw [FC_at hy g3794 0 (by decide) (by decide)]; exact e3778
                    have e3801 : I3792 (ad g 0) 10 = w3424 := by rw [FC_at hy g3794 0 (by decide) (by decide)]; exact e3779
                    have e3802 : I3792 (ad g 0) 16 = w3433 := by rw [FC_at hy g3794 0 (by decide) (by decide)]; exact e3780
                    have e3803 : I3792 (ad g 0) 11 = w3433 := by rw [FC_at hy g3794 0 (by decide) (by decide)]; exact e3781
                    have e3804 : I3792 (ad g 0) 17 = w3444 := by rw [FC_at hy g3794 0 (by decide) (by decide)]; exact e3782
                    have e3805 : I3792 (ad g 0) 13 = w3444 := by rw [FC_at hy g3794 0 (by decide) (by decide)]; exact e3783
                    have e3806 : I3792 (ad g 0) 18 = w3457 := by rw [FC_at hy g3794 0 (by decide) (by decide)]; exact e3784
                    have e3807 : I3792 (ad g 0) 14 = v3461 := by rw [FC_at hy g3794 0 (by decide) (by decide)]; exact e3785
                    have e3808 : I3792 (ad g 0) 19 = w3476 := by rw [FC_at hy g3794 0 (by decide) (by decide)]; exact e3786
                    have e3809 : I3792 (ad g 0) 12 = w3476 := by rw [FC_at hy g3794 0 (by decide) (by decide)]; exact e3787
                    have fI3810 : FC g [0, 6, 7, 8, 9, 10, 11, 12, 13, 14, 15, 16, 17, 18, 19, 20, 21, 22, 23, 24, 25, 26, 27, 28, 29, 30, 31, 32, 33, 34, 37, 38, 44, 46, 47] I I3792 := FC_tr fI3788 (FC_mono g3794 (by decide))
                    have fJ3811 : FC g [0, 2, 3, 4, 5] J J3793 := FC_tr fJ3789 (FC_mono g3795 (by decide))
                    have fQ3812 : FQ g [1, 2, 3, 4, 5, 6, 7, 8, 9, 10, 11, 12, 13, 14, 15, 16, 17, 18, 19, 51, 68] I I3792 := FQ_tr fQ3790 (FQ_mono g3796 (by decide))
                    try simp only [e3797, e3798, e3799, ew3395, ew3396, ew3397] at p3791
                    have d26 : ∀ q, q < 28 → I3792 (ad g 26) q = I3412 (ad g 32) q := fun q hq => by rw [p3791 q hq, FC_at hy g3772 32 (by decide) (by decide), FC_at hy g3750 32 (by decide) (by decide), FC_at hy g3728 32 (by decide) (by decide), FC_at hy g3706 32 (by decide) (by decide), FC_at hy g3684 32 (by decide) (by decide), FC_at hy g3662 32 (by decide) (by decide), FC_at hy g3640 32 (by decide) (by decide), FC_at hy g3618 32 (by decide) (by decide), FC_at hy g3596 32 (by decide) (by decide), FC_at hy g3574 32 (by decide) (by decide), FC_at hy g3552 32 (by decide) (by decide), FC_at hy g3530 32 (by decide) (by decide), FC_at hy g3508 32 (by decide) (by decide), eI3477, pp_off _ _ (ly_ne hy (by decide) (by decide) (by decide)), eI3462, pp_off _ _ (ly_ne hy (by decide) (by decide) (by decide)), eI3445, pp_off _ _ (ly_ne hy (by decide) (by decide) (by decide)), eI3434, pp_off _ _ (ly_ne hy (by decide) (by decide) (by decide)), eI3425, pp_off _ _ (ly_ne hy (by decide) (by decide) (by decide))]
                    refine WQ_iconst (0) (0) dX11_town_286 rfl rfl (fun v3813 hv3813 => ?_)
                    refine WP_istore_n (ls' := [(0, _), (1, _)]) dX11_town_287 (by decide) rfl ?_
                    refine WP_iload_n dX11_town_288 rfl ?_
                    refine WQ_iconst (4) (4) dX11_town_289 rfl rfl (fun v3814 hv3814 => ?_)
                    refine WQ_icmp_ge 323 dX11_town_290 rfl (fun c3814 => False.elim (by omega)) (fun c3814 => ?_)
                    refine WP_aload_n dX11_town_293 rfl ?_
                    refine WP_getr dX11_town_294 fX11_283 rfl (ly_is hy 0 11 rfl) (rf hr 0 59 38 (by decide)) ?_
                    refine WQ_bipush (28) (28) dX11_town_297 rfl rfl (fun v3816 hv3816 => ?_)
                    refine WP_iload_n dX11_town_299 rfl ?_
                    refine WQ_iadd dX11_town_300 (by omega) (by omega) (fun v3817 hv3817 => ?_)
                    have kv3817 : v3817.toInt = 28 := by omega
                    clear hv3817; have hv3817 := kv3817; clear kv3817
                    refine WQ_iconst (1) (1) dX11_town_301 rfl rfl (fun v3818 hv3818 => ?_)
                    refine WE_is dX11_town_302 (ly_is hy 38 13 rfl) (ly_n hy 38 35 rfl) (by omega) (by omega) (fun I3819 eI3819 => ?_)
                    rw [show v3817.toInt.toNat = 28 by omega] at eI3819
                    have e3820 : I3819 (ad g 0) 1 = w3407 := by rw [eI3819, pp_ne _ _ (Or.inl (ly_ne hy (by decide) (by decide) (by decide)))]; exact e3797
                    have e3821 : I3819 (ad g 0) 8 = w3421 := by rw [eI3819, pp_ne _ _ (Or.inl (ly_ne hy (by decide) (by decide) (by decide)))]; exact e3798
                    have e3822 : I3819 (ad g 0) 9 = w3422 := by rw [eI3819, pp_ne _ _ (Or.inl (ly_ne hy (by decide) (by decide) (by decide)))]; exact e3799
                    have e3823 : I3819 (ad g 0) 15 = w3424 := by rw [eI3819, pp_ne _ _ (Or.inl (ly_ne hy (by decide) (by decide) (by decide)))]; exact e3800
                    have e3824 : I3819 (ad g 0) 10 = w3424 := by rw [eI3819, pp_ne _ _ (Or.inl (ly_ne hy (by decide) (by decide) (by decide)))]; exact e3801
                    have e3825 : I3819 (ad g 0) 16 = w3433 := by rw [eI3819, pp_ne _ _ (Or.inl (ly_ne hy (by decide) (by decide) (by decide)))]; exact e3802
                    have e3826 : I3819 (ad g 0) 11 = w3433 := by rw [eI3819, pp_ne _ _ (Or.inl (ly_ne hy (by decide) (by decide) (by decide)))]; exact e3803
                    have e3827 : I3819 (ad g 0) 17 = w3444 := by rw [eI3819, pp_ne _ _ (Or.inl (ly_ne hy (by decide) (by decide) (by decide)))]; exact e3804
                    have e3828 : I3819 (ad g 0) 13 = w3444 := by rw [eI3819, pp_ne _ _ (Or.inl (ly_ne hy (by decide) (by decide) (by decide)))]; exact e3805
                    have e3829 : I3819 (ad g 0) 18 = w3457 := by rw [eI3819, pp_ne _ _ (Or.inl (ly_ne hy (by decide) (by decide) (by decide)))]; exact e3806
                    have e3830 : I3819 (ad g 0) 14 = v3461 := by rw [eI3819, pp_ne _ _ (Or.inl (ly_ne hy (by decide) (by decide) (by decide)))]; exact e3807
                    have e3831 : I3819 (ad g 0) 19 = w3476 := by rw [eI3819, pp_ne _ _ (Or.inl (ly_ne hy (by decide) (by decide) (by decide)))]; exact e3808
                    have e3832 : I3819 (ad g 0) 12 = w3476 := by rw [eI3819, pp_ne _ _ (Or.inl (ly_ne hy (by decide) (by decide) (by decide)))]; exact e3809
                    have e3833 : I3819 (ad g 38) 28 = v3818 := by rw [eI3819, pp_self]
                    have fI3834 : FC g [0, 6, 7, 8, 9, 10, 11, 12, 13, 14, 15, 16, 17, 18, 19, 20, 21, 22, 23, 24, 25, 26, 27, 28, 29, 30, 31, 32, 33, 34, 37, 38, 44, 46, 47] I I3819 := by rw [eI3819]; exact FC_pp fI3810 (by decide)
                    have fQ3835 : FQ g [1, 2, 3, 4, 5, 6, 7, 8, 9, 10, 11, 12, 13, 14, 15, 16, 17, 18, 19, 51, 68] I I3819 := by rw [eI3819]; exact FQ_ppn (ly_ne hy (by decide) (by decide) (by decide)) fQ3812
                    refine WP_aload_n dX11_town_303 rfl ?_
                    refine WP_getr dX11_town_304 fX11_310 rfl (ly_is hy 0 11 rfl) (rf hr 0 71 46 (by decide)) ?_
                    refine WP_iload_n dX11_town_307 rfl ?_
                    refine WQ_iconst (0) (0) dX11_town_308 rfl rfl (fun v3836 hv3836 => ?_)
                    refine WE_is dX11_town_309 (ly_is hy 46 13 rfl) (ly_n hy 46 4 rfl) (by omega) (by omega) (fun I3837 eI3837 => ?_)
                    rw [show v3813.toInt.toNat = 0 by omega] at eI3837
                    have e3838 : I3837 (ad g 0) 1 = w3407 := by rw [eI3837, pp_ne _ _ (Or.inl (ly_ne hy (by decide) (by decide) (by decide)))]; exact e3820
                    have e3839 : I3837 (ad g 0) 8 = w3421 := by rw [eI3837, pp_ne _ _ (Or.inl (ly_ne hy (by decide) (by decide) (by decide)))]; exact e3821
                    have e3840 : I3837 (ad g 0) 9 = w3422 := by rw [eI3837, pp_ne _ _ (Or.inl (ly_ne hy (by decide) (by decide) (by decide)))]; exact e3822
                    have e3841 : I3837 (ad g 0) 15 = w3424 := by rw [eI3837, pp_ne _ _ (Or.inl (ly_ne hy (by decide) (by decide) (by decide)))]; exact e3823
                    have e3842 : I3837 (ad g 0) 10 = w3424 := by rw [eI3837, pp_ne _ _ (Or.inl (ly_ne hy (by decide) (by decide) (by decide)))]; exact e3824
                    have e3843 : I3837 (ad g 0) 16 = w3433 := by rw [eI3837, pp_ne _ _ (Or.inl (ly_ne hy (by decide) (by decide) (by decide)))]; exact e3825
                    have e3844 : I3837 (ad g 0) 11 = w3433 := by rw [eI3837, pp_ne _ _ (Or.inl (ly_ne hy (by decide) (by decide) (by decide)))]; exact e3826
                    have e3845 : I3837 (ad g 0) 17 = w3444 := by rw [eI3837, pp_ne _ _ (Or.inl (ly_ne hy (by decide) (by decide) (by decide)))]; exact e3827
                    have e3846 : I3837 (ad g 0) 13 = w3444 := by rw [eI3837, pp_ne _ _ (Or.inl (ly_ne hy (by decide) (by decide) (by decide)))]; exact e3828
                    have e3847 : I3837 (ad g 0) 18 = w3457 := by rw [eI3837, pp_ne _ _ (Or.inl (ly_ne hy (by decide) (by decide) (by decide)))]; exact e3829
                    have e3848 : I3837 (ad g 0) 14 = v3461 := by rw [eI3837, pp_ne _ _ (Or.inl (ly_ne hy (by decide) (by decide) (by decide)))]; exact e3830
                    have e3849 : I3837 (ad g 0) 19 = w3476 := by rw [eI3837, pp_ne _ _ (Or.inl (ly_ne hy (by decide) (by decide) (by decide)))]; exact e3831
                    have e3850 : I3837 (ad g 0) 12 = w3476 := by rw [eI3837, pp_ne _ _ (Or.inl (ly_ne hy (by decide) (by decide) (by decide)))]; exact e3832
                    have e3851 : I3837 (ad g 38) 28 = v3818 := by rw [eI3837, pp_ne _ _ (Or.inl (ly_ne hy (by decide) (by decide) (by decide)))]; exact e3833
                    have e3852 : I3837 (ad g 46) 0 = v3836 := by rw [eI3837, pp_self]
                    have fI3853 : FC g [0, 6, 7, 8, 9, 10, 11, 12, 13, 14, 15, 16, 17, 18, 19, 20, 21, 22, 23, 24, 25, 26, 27, 28, 29, 30, 31, 32, 33, 34, 37, 38, 44, 46, 47] I I3837 := by rw [eI3837]; exact FC_pp fI3834 (by decide)
                    have fQ3854 : FQ g [1, 2, 3, 4, 5, 6, 7, 8, 9, 10, 11, 12, 13, 14, 15, 16, 17, 18, 19, 51, 68] I I3837 := by rw [eI3837]; exact FQ_ppn (ly_ne hy (by decide) (by decide) (by decide)) fQ3835
                    refine WP_aload_n dX11_town_310 rfl ?_
                    refine WP_getr dX11_town_311 fX11_313 rfl (ly_is hy 0 11 rfl) (rf hr 0 72 47 (by decide)) ?_
                    refine WP_iload_n dX11_town_314 rfl ?_
                    refine WQ_iconst (0) (0) dX11_town_315 rfl rfl (fun v3855 hv3855 => ?_)
                    refine WE_is dX11_town_316 (ly_is hy 47 13 rfl) (ly_n hy 47 4 rfl) (by omega) (by omega) (fun I3856 eI3856 => ?_)
                    rw [show v3813.toInt.toNat = 0 by omega] at eI3856
                    have e3857 : I3856 (ad g 0) 1 = w3407 := by rw [eI3856, pp_ne _ _ (Or.inl (ly_ne hy (by decide) (by decide) (by decide)))]; exact e3838
                    have e3858 : I3856 (ad g 0) 8 = w3421 := by rw [eI3856, pp_ne _ _ (Or.inl (ly_ne hy (by decide) (by decide) (by decide)))]; exact e3839
                    have e3859 : I3856 (ad g 0) 9 = w3422 := by rw [eI3856, pp_ne _ _ (Or.inl (ly_ne hy (by decide) (by decide) (by decide)))]; exact e3840
                    have e3860 : I3856 (ad g 0) 15 = w3424 := by rw [eI3856, pp_ne _ _ (Or.inl (ly_ne hy (by decide) (by decide) (by decide)))]; exact e3841
                    have e3861 : I3856 (ad g 0) 10 = w3424 := by rw [eI3856, pp_ne _ _ (Or.inl (ly_ne hy (by decide) (by decide) (by decide)))]; exact e3842
                    have e3862 : I3856 (ad g 0) 16 = w3433 := by rw [eI3856, pp_ne _ _ (Or.inl (ly_ne hy (by decide) (by decide) (by decide)))]; exact e3843
                    have e3863 : I3856 (ad g 0) 11 = w3433 := by rw [eI3856, pp_ne _ _ (Or.inl (ly_ne hy (by decide) (by decide) (by decide)))]; exact e3844
                    have e3864 : I3856 (ad g 0) 17 = w3444 := by rw [eI3856, pp_ne _ _ (Or.inl (ly_ne hy (by decide) (by decide) (by decide)))]; exact e3845
                    have e3865 : I3856 (ad g 0) 13 = w3444 := by rw [eI3856, pp_ne _ _ (Or.inl (ly_ne hy (by decide) (by decide) (by decide)))]; exact e3846
                    have e3866 : I3856 (ad g 0) 18 = w3457 := by rw [eI3856, pp_ne _ _ (Or.inl (ly_ne hy (by decide) (by decide) (by decide)))]; exact e3847
                    have e3867 : I3856 (ad g 0) 14 = v3461 := by rw [eI3856, pp_ne _ _ (Or.inl (ly_ne hy (by decide) (by decide) (by decide)))]; exact e3848
                    have e3868 : I3856 (ad g 0) 19 = w3476 := by rw [eI3856, pp_ne _ _ (Or.inl (ly_ne hy (by decide) (by decide) (by decide)))]; exact e3849
                    have e3869 : I3856 (ad g 0) 12 = w3476 := by rw [eI3856, pp_ne _ _ (Or.inl (ly_ne hy (by decide) (by decide) (by decide)))]; exact e3850
                    have e3870 : I3856 (ad g 38) 28 = v3818 := by rw [eI3856, pp_ne _ _ (Or.inl (ly_ne hy (by decide) (by decide) (by decide)))]; exact e3851
                    have e3871 : I3856 (ad g 46) 0 = v3836 := by rw [eI3856, pp_ne _ _ (Or.inl (ly_ne hy (by decide) (by decide) (by decide)))]; exact e3852
                    have e3872 : I3856 (ad g 47) 0 = v3855 := by rw [eI3856, pp_self]
                    have fI3873 : FC g [0, 6, 7, 8, 9, 10, 11, 12, 13, 14, 15, 16, 17, 18, 19, 20, 21, 22, 23, 24, 25, 26, 27, 28, 29, 30, 31, 32, 33, 34, 37, 38, 44, 46, 47] I I3856 := by rw [eI3856]; exact FC_pp fI3853 (by decide)
                    have fQ3874 : FQ g [1, 2, 3, 4, 5, 6, 7, 8, 9, 10, 11, 12, 13, 14, 15, 16, 17, 18, 19, 51, 68] I I3856 := by rw [eI3856]; exact FQ_ppn (ly_ne hy (by decide) (by decide) (by decide)) fQ3854
                    refine WP_iinc (ls' := [(0, _), (1, _)]) dX11_town_317 rfl (by decide) rfl ?_
                    have hv3875 : (v3813 + Int32.ofInt (1)).toInt = v3813.toInt + (1) := ia_n rfl (by omega) (by omega)
                    generalize v3813 + Int32.ofInt (1) = v3875 at hv3875 ⊢
                    have kv3875 : v3875.toInt = 1 := by omega
                    clear hv3875; have hv3875 := kv3875; clear kv3875
                    refine WP_goto 288 dX11_town_320 rfl ?_
                    refine WP_iload_n dX11_town_288 rfl ?_
                    refine WQ_iconst (4) (4) dX11_town_289 rfl rfl (fun v3876 hv3876 => ?_)
                    refine WQ_icmp_ge 323 dX11_town_290 rfl (fun c3876 => False.elim (by omega)) (fun c3876 => ?_)
                    refine WP_aload_n dX11_town_293 rfl ?_
                    refine WP_getr dX11_town_294 fX11_283 rfl (ly_is hy 0 11 rfl) (rf hr 0 59 38 (by decide)) ?_
                    refine WQ_bipush (28) (28) dX11_town_297 rfl rfl (fun v3878 hv3878 => ?_)
                    refine WP_iload_n dX11_town_299 rfl ?_
                    refine WQ_iadd dX11_town_300 (by omega) (by omega) (fun v3879 hv3879 => ?_)
                    have kv3879 : v3879.toInt = 29 := by omega
                    clear hv3879; have hv3879 := kv3879; clear kv3879
                    refine WQ_iconst (1) (1) dX11_town_301 rfl rfl (fun v3880 hv3880 => ?_)
                    refine WE_is dX11_town_302 (ly_is hy 38 13 rfl) (ly_n hy 38 35 rfl) (by omega) (by omega) (fun I3881 eI3881 => ?_)
                    rw [show v3879.toInt.toNat = 29 by omega] at eI3881
                    have e3882 : I3881 (ad g 0) 1 = w3407 := by rw [eI3881, pp_ne _ _ (Or.inl (ly_ne hy (by decide) (by decide) (by decide)))]; exact e3857
                    have e3883 : I3881 (ad g 0) 8 = w3421 := by rw [eI3881, pp_ne _ _ (Or.inl (ly_ne hy (by decide) (by decide) (by decide)))]; exact e3858
                    have e3884 : I3881 (ad g 0) 9 = w3422 := by rw [eI3881, pp_ne _ _ (Or.inl (ly_ne hy (by decide) (by decide) (by decide)))]; exact e3859
                    have e3885 : I3881 (ad g 0) 15 = w3424 := by rw [eI3881, pp_ne _ _ (Or.inl (ly_ne hy (by decide) (by decide) (by decide)))]; exact e3860
                    have e3886 : I3881 (ad g 0) 10 = w3424 := by rw [eI3881, pp_ne _ _ (Or.inl (ly_ne hy (by decide) (by decide) (by decide)))]; exact e3861
                    have e3887 : I3881 (ad g 0) 16 = w3433 := by rw [eI3881, pp_ne _ _ (Or.inl (ly_ne hy (by decide) (by decide) (by decide)))]; exact e3862
                    have e3888 : I3881 (ad g 0) 11 = w3433 := by rw [eI3881, pp_ne _ _ (Or.inl (ly_ne hy (by decide) (by decide) (by decide)))]; exact e3863
                    have e3889 : I3881 (ad g 0) 17 = w3444 := by rw [eI3881, pp_ne _ _ (Or.inl (ly_ne hy (by decide) (by decide) (by decide)))]; exact e3864
                    have e3890 : I3881 (ad g 0) 13 = w3444 := by rw [eI3881, pp_ne _ _ (Or.inl (ly_ne hy (by decide) (by decide) (by decide)))]; exact e3865
                    have e3891 : I3881 (ad g 0) 18 = w3457 := by rw [eI3881, pp_ne _ _ (Or.inl (ly_ne hy (by decide) (by decide) (by decide)))]; exact e3866
                    have e3892 : I3881 (ad g 0) 14 = v3461 := by rw [eI3881, pp_ne _ _ (Or.inl (ly_ne hy (by decide) (by decide) (by decide)))]; exact e3867
                    have e3893 : I3881 (ad g 0) 19 = w3476 := by rw [eI3881, pp_ne _ _ (Or.inl (ly_ne hy (by decide) (by decide) (by decide)))]; exact e3868
                    have e3894 : I3881 (ad g 0) 12 = w3476 := by rw [eI3881, pp_ne _ _ (Or.inl (ly_ne hy (by decide) (by decide) (by decide)))]; exact e3869
                    have e3895 : I3881 (ad g 38) 28 = v3818 := by rw [eI3881, pp_ne _ _ (Or.inr (by decide))]; exact e3870
                    have e3896 : I3881 (ad g 46) 0 = v3836 := by rw [eI3881, pp_ne _ _ (Or.inl (ly_ne hy (by decide) (by decide) (by decide)))]; exact e3871
                    have e3897 : I3881 (ad g 47) 0 = v3855 := by rw [eI3881, pp_ne _ _ (Or.inl (ly_ne hy (by decide) (by decide) (by decide)))]; exact e3872
                    have e3898 : I3881 (ad g 38) 29 = v3880 := by rw [eI3881, pp_self]
                    have fI3899 : FC g [0, 6, 7, 8, 9, 10, 11, 12, 13, 14, 15, 16, 17, 18, 19, 20, 21, 22, 23, 24, 25, 26, 27, 28, 29, 30, 31, 32, 33, 34, 37, 38, 44, 46, 47] I I3881 := by rw [eI3881]; exact FC_pp fI3873 (by decide)
                    have fQ3900 : FQ g [1, 2, 3, 4, 5, 6, 7, 8, 9, 10, 11, 12, 13, 14, 15, 16, 17, 18, 19, 51, 68] I I3881 := by rw [eI3881]; exact FQ_ppn (ly_ne hy (by decide) (by decide) (by decide)) fQ3874
                    refine WP_aload_n dX11_town_303 rfl ?_
                    refine WP_getr dX11_town_304 fX11_310 rfl (ly_is hy 0 11 rfl) (rf hr 0 71 46 (by decide)) ?_
                    refine WP_iload_n dX11_town_307 rfl ?_
                    refine WQ_iconst (0) (0) dX11_town_308 rfl rfl (fun v3901 hv3901 => ?_)
                    refine WE_is dX11_town_309 (ly_is hy 46 13 rfl) (ly_n hy 46 4 rfl) (by omega) (by omega) (fun I3902 eI3902 => ?_)
                    rw [show v3875.toInt.toNat = 1 by omega] at eI3902
                    have e3903 : I3902 (ad g 0) 1 = w3407 := by rw [eI3902, pp_ne _ _ (Or.inl (ly_ne hy (by decide) (by decide) (by decide)))]; exact e3882
                    have e3904 : I3902 (ad g 0) 8 = w3421 := by rw [eI3902, pp_ne _ _ (Or.inl (ly_ne hy (by decide) (by decide) (by decide)))]; exact e3883
                    have e3905 : I3902 (ad g 0) 9 = w3422 := by rw [eI3902, pp_ne _ _ (Or.inl (ly_ne hy (by decide) (by decide) (by decide)))]; exact e3884
                    have e3906 : I3902 (ad g 0) 15 = w3424 := by rw [eI3902, pp_ne _ _ (Or.inl (ly_ne hy (by decide) (by decide) (by decide)))]; exact e3885
                    have e3907 : I3902 (ad g 0) 10 = w3424 := by rw [eI3902, pp_ne _ _ (Or.inl (ly_ne hy (by decide) (by decide) (by decide)))]; exact e3886
                    have e3908 : I3902 (ad g 0) 16 = w3433 := by rw [eI3902, pp_ne _ _ (Or.inl (ly_ne hy (by decide) (by decide) (by decide)))]; exact e3887
                    have e3909 : I3902 (ad g 0) 11 = w3433 := by rw [eI3902, pp_ne _ _ (Or.inl (ly_ne hy (by decide) (by decide) (by decide)))]; exact e3888
                    have e3910 : I3902 (ad g 0) 17 = w3444 := by rw [eI3902, pp_ne _ _ (Or.inl (ly_ne hy (by decide) (by decide) (by decide)))]; exact e3889
                    have e3911 : I3902 (ad g 0) 13 = w3444 := by rw [eI3902, pp_ne _ _ (Or.inl (ly_ne hy (by decide) (by decide) (by decide)))]; exact e3890
                    have e3912 : I3902 (ad g 0) 18 = w3457 := by rw [eI3902, pp_ne _ _ (Or.inl (ly_ne hy (by decide) (by decide) (by decide)))]; exact e3891
                    have e3913 : I3902 (ad g 0) 14 = v3461 := by rw [eI3902, pp_ne _ _ (Or.inl (ly_ne hy (by decide) (by decide) (by decide)))]; exact e3892
                    have e3914 : I3902 (ad g 0) 19 = w3476 := by rw [eI3902, pp_ne _ _ (Or.inl (ly_ne hy (by decide) (by decide) (by decide)))]; exact e3893
                    have e3915 : I3902 (ad g 0) 12 = w3476 := by rw [eI3902, pp_ne _ _ (Or.inl (ly_ne hy (by decide) (by decide) (by decide)))]; exact e3894
                    have e3916 : I3902 (ad g 38) 28 = v3818 := by rw [eI3902, pp_ne _ _ (Or.inl (ly_ne hy (by decide) (by decide) (by decide)))]; exact e3895
                    have e3917 : I3902 (ad g 46) 0 = v3836 := by rw [eI3902, pp_ne _ _ (Or.inr (by decide))]; exact e3896
                    have e3918 : I3902 (ad g 47) 0 = v3855 := by rw [eI3902, pp_ne _ _ (Or.inl (ly_ne hy (by decide) (by decide) (by decide)))]; exact e3897
                    have e3919 : I3902 (ad g 38) 29 = v3880 := by rw [eI3902, pp_ne _ _ (Or.inl (ly_ne hy (by decide) (by decide) (by decide)))]; exact e3898
                    have e3920 : I3902 (ad g 46) 1 = v3901 := by rw [eI3902, pp_self]
                    have fI3921 : FC g [0, 6, 7, 8, 9, 10, 11, 12, 13, 14, 15, 16, 17, 18, 19, 20, 21, 22, 23, 24, 25, 26, 27, 28, 29, 30, 31, 32, 33, 34, 37, 38, 44, 46, 47] I I3902 := by rw [eI3902]; exact FC_pp fI3899 (by decide)
                    have fQ3922 : FQ g [1, 2, 3, 4, 5, 6, 7, 8, 9, 10, 11, 12, 13, 14, 15, 16, 17, 18, 19, 51, 68] I I3902 := by rw [eI3902]; exact FQ_ppn (ly_ne hy (by decide) (by decide) (by decide)) fQ3900
                    refine WP_aload_n dX11_town_310 rfl ?_
                    refine WP_getr dX11_town_311 fX11_313 rfl (ly_is hy 0 11 rfl) (rf hr 0 72 47 (by decide)) ?_
                    refine WP_iload_n dX11_town_314 rfl ?_
                    refine WQ_iconst (0) (0) dX11_town_315 rfl rfl (fun v3923 hv3923 => ?_)
                    refine WE_is dX11_town_316 (ly_is hy 47 13 rfl) (ly_n hy 47 4 rfl) (by omega) (by omega) (fun I3924 eI3924 => ?_)
                    rw [show v3875.toInt.toNat = 1 by omega] at eI3924
                    have e3925 : I3924 (ad g 0) 1 = w3407 := by rw [eI3924, pp_ne _ _ (Or.inl (ly_ne hy (by decide) (by decide) (by decide)))]; exact e3903
                    have e3926 : I3924 (ad g 0) 8 = w3421 := by rw [eI3924, pp_ne _ _ (Or.inl (ly_ne hy (by decide) (by decide) (by decide)))]; exact e3904
                    have e3927 : I3924 (ad g 0) 9 = w3422 := by rw [eI3924, pp_ne _ _ (Or.inl (ly_ne hy (by decide) (by decide) (by decide)))]; exact e3905
                    have e3928 : I3924 (ad g 0) 15 = w3424 := by rw [eI3924, pp_ne _ _ (Or.inl (ly_ne hy (by decide) (by decide) (by decide)))]; exact e3906
                    have e3929 : I3924 (ad g 0) 10 = w3424 := by rw [eI3924, pp_ne _ _ (Or.inl (ly_ne hy (by decide) (by decide) (by decide)))]; exact e3907
                    have e3930 : I3924 (ad g 0) 16 = w3433 := by rw [eI3924, pp_ne _ _ (Or.inl (ly_ne hy (by decide) (by decide) (by decide)))]; exact e3908
                    have e3931 : I3924 (ad g 0) 11 = w3433 := by rw [eI3924, pp_ne _ _ (Or.inl (ly_ne hy (by decide) (by decide) (by decide)))]; exact e3909
                    have e3932 : I3924 (ad g 0) 17 = w3444 := by rw [eI3924, pp_ne _ _ (Or.inl (ly_ne hy (by decide) (by decide) (by decide)))]; exact e3910
                    have e3933 : I3924 (ad g 0) 13 = w3444 := by rw [eI3924, pp_ne _ _ (Or.inl (ly_ne hy (by decide) (by decide) (by decide)))]; exact e3911
                    have e3934 : I3924 (ad g 0) 18 = w3457 := by rw [eI3924, pp_ne _ _ (Or.inl (ly_ne hy (by decide) (by decide) (by decide)))]; exact e3912
                    have e3935 : I3924 (ad g 0) 14 = v3461 := by rw [eI3924, pp_ne _ _ (Or.inl (ly_ne hy (by decide) (by decide) (by decide)))]; exact e3913
                    have e3936 : I3924 (ad g 0) 19 = w3476 := by rw [eI3924, pp_ne _ _ (Or.inl (ly_ne hy (by decide) (by decide) (by decide)))]; exact e3914
                    have e3937 : I3924 (ad g 0) 12 = w3476 := by rw [eI3924, pp_ne _ _ (Or.inl (ly_ne hy (by decide) (by decide) (by decide)))]; exact e3915
                    have e3938 : I3924 (ad g 38) 28 = v3818 := by rw [eI3924, pp_ne _ _ (Or.inl (ly_ne hy (by decide) (by decide) (by decide)))]; exact e3916
                    have e3939 : I3924 (ad g 46) 0 = v3836 := by rw [eI3924, pp_ne _ _ (Or.inl (ly_ne hy (by decide) (by decide) (by decide)))]; exact e3917
                    have e3940 : I3924 (ad g 47) 0 = v3855 := by rw [eI3924, pp_ne _ _ (Or.inr (by decide))]; exact e3918
                    have e3941 : I3924 (ad g 38) 29 = v3880 := by rw [eI3924, pp_ne _ _ (Or.inl (ly_ne hy (by decide) (by decide) (by decide)))]; exact e3919
                    have e3942 : I3924 (ad g 46) 1 = v3901 := by rw [eI3924, pp_ne _ _ (Or.inl (ly_ne hy (by decide) (by decide) (by decide)))]; exact e3920
                    have e3943 : I3924 (ad g 47) 1 = v3923 := by rw [eI3924, pp_self]
                    have fI3944 : FC g [0, 6, 7, 8, 9, 10, 11, 12, 13, 14, 15, 16, 17, 18, 19, 20, 21, 22, 23, 24, 25, 26, 27, 28, 29, 30, 31, 32, 33, 34, 37, 38, 44, 46, 47] I I3924 := by rw [eI3924]; exact FC_pp fI3921 (by decide)
                    have fQ3945 : FQ g [1, 2, 3, 4, 5, 6, 7, 8, 9, 10, 11, 12, 13, 14, 15, 16, 17, 18, 19, 51, 68] I I3924 := by rw [eI3924]; exact FQ_ppn (ly_ne hy (by decide) (by decide) (by decide)) fQ3922
                    refine WP_iinc (ls' := [(0, _), (1, _)]) dX11_town_317 rfl (by decide) rfl ?_
                    have hv3946 : (v3875 + Int32.ofInt (1)).toInt = v3875.toInt + (1) := ia_n rfl (by omega) (by omega)
                    generalize v3875 + Int32.ofInt (1) = v3946 at hv3946 ⊢
                    have kv3946 : v3946.toInt = 2 := by omega
                    clear hv3946; have hv3946 := kv3946; clear kv3946
                    refine WP_goto 288 dX11_town_320 rfl ?_
                    refine WP_iload_n dX11_town_288 rfl ?_
                    refine WQ_iconst (4) (4) dX11_town_289 rfl rfl (fun v3947 hv3947 => ?_)
                    refine WQ_icmp_ge 323 dX11_town_290 rfl (fun c3947 => False.elim (by omega)) (fun c3947 => ?_)
                    refine WP_aload_n dX11_town_293 rfl ?_
                    refine WP_getr dX11_town_294 fX11_283 rfl (ly_is hy 0 11 rfl) (rf hr 0 59 38 (by decide)) ?_
                    refine WQ_bipush (28) (28) dX11_town_297 rfl rfl (fun v3949 hv3949 => ?_)
                    refine WP_iload_n dX11_town_299 rfl ?_
                    refine WQ_iadd dX11_town_300 (by omega) (by omega) (fun v3950 hv3950 => ?_)
                    have kv3950 : v3950.toInt = 30 := by omega
                    clear hv3950; have hv3950 := kv3950; clear kv3950
                    refine WQ_iconst (1) (1) dX11_town_301 rfl rfl (fun v3951 hv3951 => ?_)
                    refine WE_is dX11_town_302 (ly_is hy 38 13 rfl) (ly_n hy 38 35 rfl) (by omega) (by omega) (fun I3952 eI3952 => ?_)
                    rw [show v3950.toInt.toNat = 30 by omega] at eI3952
                    have e3953 : I3952 (ad g 0) 1 = w3407 := by rw [eI3952, pp_ne _ _ (Or.inl (ly_ne hy (by decide) (by decide) (by decide)))]; exact e3925
                    have e3954 : I3952 (ad g 0) 8 = w3421 := by rw [eI3952, pp_ne _ _ (Or.inl (ly_ne hy (by decide) (by decide) (by decide)))]; exact e3926
                    have e3955 : I3952 (ad g 0) 9 = w3422 := by rw [eI3952, pp_ne _ _ (Or.inl (ly_ne hy (by decide) (by decide) (by decide)))]; exact e3927
                    have e3956 : I3952 (ad g 0) 15 = w3424 := by rw [eI3952, pp_ne _ _ (Or.inl (ly_ne hy (by decide) (by decide) (by decide)))]; exact e3928
                    have e3957 : I3952 (ad g 0) 10 = w3424 := by rw [eI3952, pp_ne _ _ (Or.inl (ly_ne hy (by decide) (by decide) (by decide)))]; exact e3929
                    have e3958 : I3952 (ad g 0) 16 = w3433 := by rw [eI3952, pp_ne _ _ (Or.inl (ly_ne hy (by decide) (by decide) (by decide)))]; exact e3930
                    have e3959 : I3952 (ad g 0) 11 = w3433 := by rw [eI3952, pp_ne _ _ (Or.inl (ly_ne hy (by decide) (by decide) (by decide)))]; exact e3931
                    have e3960 : I3952 (ad g 0) 17 = w3444 := by rw [eI3952, pp_ne _ _ (Or.inl (ly_ne hy (by decide) (by decide) (by decide)))]; exact e3932
                    have e3961 : I3952 (ad g 0) 13 = w3444 := by rw [eI3952, pp_ne _ _ (Or.inl (ly_ne hy (by decide) (by decide) (by decide)))]; exact e3933
                    have e3962 : I3952 (ad g 0) 18 = w3457 := by rw [eI3952, pp_ne _ _ (Or.inl (ly_ne hy (by decide) (by decide) (by decide)))]; exact e3934
                    have e3963 : I3952 (ad g 0) 14 = v3461 := by rw [eI3952, pp_ne _ _ (Or.inl (ly_ne hy (by decide) (by decide) (by decide)))]; exact e3935
                    have e3964 : I3952 (ad g 0) 19 = w3476 := by rw [eI3952, pp_ne _ _ (Or.inl (ly_ne hy (by decide) (by decide) (by decide)))]; exact e3936
                    have e3965 : I3952 (ad g 0) 12 = w3476 := by rw [eI3952, pp_ne _ _ (Or.inl (ly_ne hy (by decide) (by decide) (by decide)))]; exact e3937
                    have e3966 : I3952 (ad g 38) 28 = v3818 := by rw [eI3952, pp_ne _ _ (Or.inr (by decide))]; exact e3938
                    have e3967 : I3952 (ad g 46) 0 = v3836 := by rw [eI3952, pp_ne _ _ (Or.inl (ly_ne hy (by decide) (by decide) (by decide)))]; exact e3939
                    have e3968 : I3952 (ad g 47) 0 = v3855 := by rw [eI3952, pp_ne _ _ (Or.inl (ly_ne hy (by decide) (by decide) (by decide)))]; exact e3940
                    have e3969 : I3952 (ad g 38) 29 = v3880 := by rw [eI3952, pp_ne _ _ (Or.inr (by decide))]; exact e3941
                    have e3970 : I3952 (ad g 46) 1 = v3901 := by rw [eI3952, pp_ne _ _ (Or.inl (ly_ne hy (by decide) (by decide) (by decide)))]; exact e3942
                    have e3971 : I3952 (ad g 47) 1 = v3923 := by rw [eI3952, pp_ne _ _ (Or.inl (ly_ne hy (by decide) (by decide) (by decide)))]; exact e3943
                    have e3972 : I3952 (ad g 38) 30 = v3951 := by rw [eI3952, pp_self]
                    have fI3973 : FC g [0, 6, 7, 8, 9, 10, 11, 12, 13, 14, 15, 16, 17, 18, 19, 20, 21, 22, 23, 24, 25, 26, 27, 28, 29, 30, 31, 32, 33, 34, 37, 38, 44, 46, 47] I I3952 := by rw [eI3952]; exact FC_pp fI3944 (by decide)
                    have fQ3974 : FQ g [1, 2, 3, 4, 5, 6, 7, 8, 9, 10, 11, 12, 13, 14, 15, 16, 17, 18, 19, 51, 68] I I3952 := by rw [eI3952]; exact FQ_ppn (ly_ne hy (by decide) (by decide) (by decide)) fQ3945
                    refine WP_aload_n dX11_town_303 rfl ?_
                    refine WP_getr dX11_town_304 fX11_310 rfl (ly_is hy 0 11 rfl) (rf hr 0 71 46 (by decide)) ?_
                    refine WP_iload_n dX11_town_307 rfl ?_
                    refine WQ_iconst (0) (0) dX11_town_308 rfl rfl (fun v3975 hv3975 => ?_)
                    refine WE_is dX11_town_309 (ly_is hy 46 13 rfl) (ly_n hy 46 4 rfl) (by omega) (by omega) (fun I3976 eI3976 => ?_)
                    rw [show v3946.toInt.toNat = 2 by omega] at eI3976
                    have e3977 : I3976 (ad g 0) 1 = w3407 := by rw [eI3976, pp_ne _ _ (Or.inl (ly_ne hy (by decide) (by decide) (by decide)))]; exact e3953
                    have e3978 : I3976 (ad g 0) 8 = w3421 := by rw [eI3976, pp_ne _ _ (Or.inl (ly_ne hy (by decide) (by decide) (by decide)))]; exact e3954
                    have e3979 : I3976 (ad g 0) 9 = w3422 := by rw [eI3976, pp_ne _ _ (Or.inl (ly_ne hy (by decide) (by decide) (by decide)))]; exact e3955
                    have e3980 : I3976 (ad g 0) 15 = w3424 := by rw [eI3976, pp_ne _ _ (Or.inl (ly_ne hy (by decide) (by decide) (by decide)))]; exact e3956
                    have e3981 : I3976 (ad g 0) 10 = w3424 := by rw [eI3976, pp_ne _ _ (Or.inl (ly_ne hy (by decide) (by decide) (by decide)))]; exact e3957
                    have e3982 : I3976 (ad g 0) 16 = w3433 := by rw [eI3976, pp_ne _ _ (Or.inl (ly_ne hy (by decide) (by decide) (by decide)))]; exact e3958
                    have e3983 : I3976 (ad g 0) 11 = w3433 := by rw [eI3976, pp_ne _ _ (Or.inl (ly_ne hy (by decide) (by decide) (by decide)))]; exact e3959
                    have e3984 : I3976 (ad g 0) 17 = w3444 := by rw [eI3976, pp_ne _ _ (Or.inl (ly_ne hy (by decide) (by decide) (by decide)))]; exact e3960
                    have e3985 : I3976 (ad g 0) 13 = w3444 := by rw [eI3976, pp_ne _ _ (Or.inl (ly_ne hy (by decide) (by decide) (by decide)))]; exact e3961
                    have e3986 : I3976 (ad g 0) 18 = w3457 := by rw [eI3976, pp_ne _ _ (Or.inl (ly_ne hy (by decide) (by decide) (by decide)))]; exact e3962
                    have e3987 : I3976 (ad g 0) 14 = v3461 := by rw [eI3976, pp_ne _ _ (Or.inl (ly_ne hy (by decide) (by decide) (by decide)))]; exact e3963
                    have e3988 : I3976 (ad g 0) 19 = w3476 := by rw [eI3976, pp_ne _ _ (Or.inl (ly_ne hy (by decide) (by decide) (by decide)))]; exact e3964
                    have e3989 : I3976 (ad g 0) 12 = w3476 := by rw [eI3976, pp_ne _ _ (Or.inl (ly_ne hy (by decide) (by decide) (by decide)))]; exact e3965
                    have e3990 : I3976 (ad g 38) 28 = v3818 := by rw [eI3976, pp_ne _ _ (Or.inl (ly_ne hy (by decide) (by decide) (by decide)))]; exact e3966
                    have e3991 : I3976 (ad g 46) 0 = v3836 := by rw [eI3976, pp_ne _ _ (Or.inr (by decide))]; exact e3967
                    have e3992 : I3976 (ad g 47) 0 = v3855 := by rw [eI3976, pp_ne _ _ (Or.inl (ly_ne hy (by decide) (by decide) (by decide)))]; exact e3968
                    have e3993 : I3976 (ad g 38) 29 = v3880 := by rw [eI3976, pp_ne _ _ (Or.inl (ly_ne hy (by decide) (by decide) (by decide)))]; exact e3969
                    have e3994 : I3976 (ad g 46) 1 = v3901 := by rw [eI3976, pp_ne _ _ (Or.inr (by decide))]; exact e3970
                    have e3995 : I3976 (ad g 47) 1 = v3923 := by rw [eI3976, pp_ne _ _ (Or.inl (ly_ne hy (by decide) (by decide) (by decide)))]; exact e3971
                    have e3996 : I3976 (ad g 38) 30 = v3951 := by rw [eI3976, pp_ne _ _ (Or.inl (ly_ne hy (by decide) (by decide) (by decide)))]; exact e3972
                    have e3997 : I3976 (ad g 46) 2 = v3975 := by rw [eI3976, pp_self]
                    have fI3998 : FC g [0, 6, 7, 8, 9, 10, 11, 12, 13, 14, 15, 16, 17, 18, 19, 20, 21, 22, 23, 24, 25, 26, 27, 28, 29, 30, 31, 32, 33, 34, 37, 38, 44, 46, 47] I I3976 := by rw [eI3976]; exact FC_pp fI3973 (by decide)
                    have fQ3999 : FQ g [1, 2, 3, 4, 5, 6, 7, 8, 9, 10, 11, 12, 13, 14, 15, 16, 17, 18, 19, 51, 68] I I3976 := by rw [eI3976]; exact FQ_ppn (ly_ne hy (by decide) (by decide) (by decide)) fQ3974
                    refine WP_aload_n dX11_town_310 rfl ?_
                    refine WP_getr dX11_town_311 fX11_313 rfl (ly_is hy 0 11 rfl) (rf hr 0 72 47 (by decide)) ?_
                    refine WP_iload_n dX11_town_314 rfl ?_
                    refine WQ_iconst (0) (0) dX11_town_315 rfl rfl (fun v4000 hv4000 => ?_)
                    refine WE_is dX11_town_316 (ly_is hy 47 13 rfl) (ly_n hy 47 4 rfl) (by omega) (by omega) (fun I4001 eI4001 => ?_)
                    rw [show v3946.toInt.toNat = 2 by omega] at eI4001
                    have e4002 : I4001 (ad g 0) 1 = w3407 := by rw [eI4001, pp_ne _ _ (Or.inl (ly_ne hy (by decide) (by decide) (by decide)))]; exact e3977
                    have e4003 : I4001 (ad g 0) 8 = w3421 := by rw [eI4001, pp_ne _ _ (Or.inl (ly_ne hy (by decide) (by decide) (by decide)))]; exact e3978
                    have e4004 : I4001 (ad g 0) 9 = w3422 := by rw [eI4001, pp_ne _ _ (Or.inl (ly_ne hy (by decide) (by decide) (by decide)))]; exact e3979
                    have e4005 : I4001 (ad g 0) 15 = w3424 := by rw [eI4001, pp_ne _ _ (Or.inl (ly_ne hy (by decide) (by decide) (by decide)))]; exact e3980
                    have e4006 : I4001 (ad g 0) 10 = w3424 := by rw [eI4001, pp_ne _ _ (Or.inl (ly_ne hy (by decide) (by decide) (by decide)))]; exact e3981
                    have e4007 : I4001 (ad g 0) 16 = w3433 := by rw [eI4001, pp_ne _ _ (Or.inl (ly_ne hy (by decide) (by decide) (by decide)))]; exact e3982
                    have e4008 : I4001 (ad g 0) 11 = w3433 := by rw [eI4001, pp_ne _ _ (Or.inl (ly_ne hy (by decide) (by decide) (by decide)))]; exact e3983
                    have e4009 : I4001 (ad g 0) 17 = w3444 := by rw [eI4001, pp_ne _ _ (Or.inl (ly_ne hy (by decide) (by decide) (by decide)))]; exact e3984
                    have e4010 : I4001 (ad g 0) 13 = w3444 := by rw [eI4001, pp_ne _ _ (Or.inl (ly_ne hy (by decide) (by decide) (by decide)))]; exact e3985
                    have e4011 : I4001 (ad g 0) 18 = w3457 := by rw [eI4001, pp_ne _ _ (Or.inl (ly_ne hy (by decide) (by decide) (by decide)))]; exact e3986
                    have e4012 : I4001 (ad g 0) 14 = v3461 := by rw [eI4001, pp_ne _ _ (Or.inl (ly_ne hy (by decide) (by decide) (by decide)))]; exact e3987
                    have e4013 : I4001 (ad g 0) 19 = w3476 := by rw [eI4001, pp_ne _ _ (Or.inl (ly_ne hy (by decide) (by decide) (by decide)))]; exact e3988
                    have e4014 : I4001 (ad g 0) 12 = w3476 := by rw [eI4001, pp_ne _ _ (Or.inl (ly_ne hy (by decide) (by decide) (by decide)))]; exact e3989
                    have e4015 : I4001 (ad g 38) 28 = v3818 := by rw [eI4001, pp_ne _ _ (Or.inl (ly_ne hy (by decide) (by decide) (by decide)))]; exact e3990
                    have e4016 : I4001 (ad g 46) 0 = v3836 := by rw [eI4001, pp_ne _ _ (Or.inl (ly_ne hy (by decide) (by decide) (by decide)))]; exact e3991
                    have e4017 : I4001 (ad g 47) 0 = v3855 := by rw [eI4001, pp_ne _ _ (Or.inr (by decide))]; exact e3992
                    have e4018 : I4001 (ad g 38) 29 = v3880 := by rw [eI4001, pp_ne _ _ (Or.inl (ly_ne hy (by decide) (by decide) (by decide)))]; exact e3993
                    have e4019 : I4001 (ad g 46) 1 = v3901 := by rw [eI4001, pp_ne _ _ (Or.inl (ly_ne hy (by decide) (by decide) (by decide)))]; exact e3994
                    have e4020 : I4001 (ad g 47) 1 = v3923 := by rw [eI4001, pp_ne _ _ (Or.inr (by decide))]; exact e3995
                    have e4021 : I4001 (ad g 38) 30 = v3951 := by rw [eI4001, pp_ne _ _ (Or.inl (ly_ne hy (by decide) (by decide) (by decide)))]; exact e3996
                    have e4022 : I4001 (ad g 46) 2 = v3975 := by rw [eI4001, pp_ne _ _ (Or.inl (ly_ne hy (by decide) (by decide) (by decide)))]; exact e3997
                    have e4023 : I4001 (ad g 47) 2 = v4000 := by rw [eI4001, pp_self]
                    have fI4024 : FC g [0, 6, 7, 8, 9, 10, 11, 12, 13, 14, 15, 16, 17, 18, 19, 20, 21, 22, 23, 24, 25, 26, 27, 28, 29, 30, 31, 32, 33, 34, 37, 38, 44, 46, 47] I I4001 := by rw [eI4001]; exact FC_pp fI3998 (by decide)
                    have fQ4025 : FQ g [1, 2, 3, 4, 5, 6, 7, 8, 9, 10, 11, 12, 13, 14, 15, 16, 17, 18, 19, 51, 68] I I4001 := by rw [eI4001]; exact FQ_ppn (ly_ne hy (by decide) (by decide) (by decide)) fQ3999
                    refine WP_iinc (ls' := [(0, _), (1, _)]) dX11_town_317 rfl (by decide) rfl ?_
                    have hv4026 : (v3946 + Int32.ofInt (1)).toInt = v3946.toInt + (1) := ia_n rfl (by omega) (by omega)
                    generalize v3946 + Int32.ofInt (1) = v4026 at hv4026 ⊢
                    have kv4026 : v4026.toInt = 3 := by omega
                    clear hv4026; have hv4026 := kv4026; clear kv4026
                    refine WP_goto 288 dX11_town_320 rfl ?_
                    refine WP_iload_n dX11_town_288 rfl ?_
                    refine WQ_iconst (4) (4) dX11_town_289 rfl rfl (fun v4027 hv4027 => ?_)
                    refine WQ_icmp_ge 323 dX11_town_290 rfl (fun c4027 => False.elim (by omega)) (fun c4027 => ?_)
                    refine WP_aload_n dX11_town_293 rfl ?_
                    refine WP_getr dX11_town_294 fX11_283 rfl (ly_is hy 0 11 rfl) (rf hr 0 59 38 (by decide)) ?_
                    refine WQ_bipush (28) (28) dX11_town_297 rfl rfl (fun v4029 hv4029 => ?_)
                    refine WP_iload_n dX11_town_299 rfl ?_
                    refine WQ_iadd dX11_town_300 (by omega) (by omega) (fun v4030 hv4030 => ?_)
                    have kv4030 : v4030.toInt = 31 := by omega
                    clear hv4030; have hv4030 := kv4030; clear kv4030
                    refine WQ_iconst (1) (1) dX11_town_301 rfl rfl (fun v4031 hv4031 => ?_)
                    refine WE_is dX11_town_302 (ly_is hy 38 13 rfl) (ly_n hy 38 35 rfl) (by omega) (by omega) (fun I4032 eI4032 => ?_)
                    rw [show v4030.toInt.toNat = 31 by omega] at eI4032
                    have e4033 : I4032 (ad g 0) 1 = w3407 := by rw [eI4032, pp_ne _ _ (Or.inl (ly_ne hy (by decide) (by decide) (by decide)))]; exact e4002
                    have e4034 : I4032 (ad g 0) 8 = w3421 := by rw [eI4032, pp_ne _ _ (Or.inl (ly_ne hy (by decide) (by decide) (by decide)))]; exact e4003
                    have e4035 : I4032 (ad g 0) 9 = w3422 := by rw [eI4032, pp_ne _ _ (Or.inl (ly_ne hy (by decide) (by decide) (by decide)))]; exact e4004
                    have e4036 : I4032 (ad g 0) 15 = w3424 := by rw [eI4032, pp_ne _ _ (Or.inl (ly_ne hy (by decide) (by decide) (by decide)))]; exact e4005
                    have e4037 : I4032 (ad g 0) 10 = w3424 := by rw [eI4032, pp_ne _ _ (Or.inl (ly_ne hy (by decide) (by decide) (by decide)))]; exact e4006
                    have e4038 : I4032 (ad g 0) 16 = w3433 := by rw [eI4032, pp_ne _ _ (Or.inl (ly_ne hy (by decide) (by decide) (by decide)))]; exact e4007
                    have e4039 : I4032 (ad g 0) 11 = w3433 := by rw [eI4032, pp_ne _ _ (Or.inl (ly_ne hy (by decide) (by decide) (by decide)))]; exact e4008
                    have e4040 : I4032 (ad g 0) 17 = w3444 := by rw [eI4032, pp_ne _ _ (Or.inl (ly_ne hy (by decide) (by decide) (by decide)))]; exact e4009
                    have e4041 : I4032 (ad g 0) 13 = w3444 := by rw [eI4032, pp_ne _ _ (Or.inl (ly_ne hy (by decide) (by decide) (by decide)))]; exact e4010
                    have e4042 : I4032 (ad g 0) 18 = w3457 := by rw [eI4032, pp_ne _ _ (Or.inl (ly_ne hy (by decide) (by decide) (by decide)))]; exact e4011
                    have e4043 : I4032 (ad g 0) 14 = v3461 := by rw [eI4032, pp_ne _ _ (Or.inl (ly_ne hy (by decide) (by decide) (by decide)))]; exact e4012
                    have e4044 : I4032 (ad g 0) 19 = w3476 := by rw [eI4032, pp_ne _ _ (Or.inl (ly_ne hy (by decide) (by decide) (by decide)))]; exact e4013
                    have e4045 : I4032 (ad g 0) 12 = w3476 := by rw [eI4032, pp_ne _ _ (Or.inl (ly_ne hy (by decide) (by decide) (by decide)))]; exact e4014
                    have e4046 : I4032 (ad g 38) 28 = v3818 := by rw [eI4032, pp_ne _ _ (Or.inr (by decide))]; exact e4015
                    have e4047 : I4032 (ad g 46) 0 = v3836 := by rw [eI4032, pp_ne _ _ (Or.inl (ly_ne hy (by decide) (by decide) (by decide)))]; exact e4016
                    have e4048 : I4032 (ad g 47) 0 = v3855 := by rw [eI4032, pp_ne _ _ (Or.inl (ly_ne hy (by decide) (by decide) (by decide)))]; exact e4017
                    have e4049 : I4032 (ad g 38) 29 = v3880 := by rw [eI4032, pp_ne _ _ (Or.inr (by decide))]; exact e4018
                    have e4050 : I4032 (ad g 46) 1 = v3901 := by rw [eI4032, pp_ne _ _ (Or.inl (ly_ne hy (by decide) (by decide) (by decide)))]; exact e4019
                    have e4051 : I4032 (ad g 47) 1 = v3923 := by rw [eI4032, pp_ne _ _ (Or.inl (ly_ne hy (by decide) (by decide) (by decide)))]; exact e4020
                    have e4052 : I4032 (ad g 38) 30 = v3951 := by rw [eI4032, pp_ne _ _ (Or.inr (by decide))]; exact e4021
                    have e4053 : I4032 (ad g 46) 2 = v3975 := by rw [eI4032, pp_ne _ _ (Or.inl (ly_ne hy (by decide) (by decide) (by decide)))]; exact e4022
                    have e4054 : I4032 (ad g 47) 2 = v4000 := by rw [eI4032, pp_ne _ _ (Or.inl (ly_ne hy (by decide) (by decide) (by decide)))]; exact e4023
                    have e4055 : I4032 (ad g 38) 31 = v4031 := by rw [eI4032, pp_self]
                    have fI4056 : FC g [0, 6, 7, 8, 9, 10, 11, 12, 13, 14, 15, 16, 17, 18, 19, 20, 21, 22, 23, 24, 25, 26, 27, 28, 29, 30, 31, 32, 33, 34, 37, 38, 44, 46, 47] I I4032 := by rw [eI4032]; exact FC_pp fI4024 (by decide)
                    have fQ4057 : FQ g [1, 2, 3, 4, 5, 6, 7, 8, 9, 10, 11, 12, 13, 14, 15, 16, 17, 18, 19, 51, 68] I I4032 := by rw [eI4032]; exact FQ_ppn (ly_ne hy (by decide) (by decide) (by decide)) fQ4025
                    refine WP_aload_n dX11_town_303 rfl ?_
                    refine WP_getr dX11_town_304 fX11_310 rfl (ly_is hy 0 11 rfl) (rf hr 0 71 46 (by decide)) ?_
                    refine WP_iload_n dX11_town_307 rfl ?_
                    refine WQ_iconst (0) (0) dX11_town_308 rfl rfl (fun v4058 hv4058 => ?_)
                    refine WE_is dX11_town_309 (ly_is hy 46 13 rfl) (ly_n hy 46 4 rfl) (by omega) (by omega) (fun I4059 eI4059 => ?_)
                    rw [show v4026.toInt.toNat = 3 by omega] at eI4059
                    have e4060 : I4059 (ad g 0) 1 = w3407 := by rw [eI4059, pp_ne _ _ (Or.inl (ly_ne hy (by decide) (by decide) (by decide)))]; exact e4033
                    have e4061 : I4059 (ad g 0) 8 = w3421 := by rw [eI4059, pp_ne _ _ (Or.inl (ly_ne hy (by decide) (by decide) (by decide)))]; exact e4034
                    have e4062 : I4059 (ad g 0) 9 = w3422 := by rw [eI4059, pp_ne _ _ (Or.inl (ly_ne hy (by decide) (by decide) (by decide)))]; exact e4035
                    have e4063 : I4059 (ad g 0) 15 = w3424 := by rw [eI4059, pp_ne _ _ (Or.inl (ly_ne hy (by decide) (by decide) (by decide)))]; exact e4036
                    have e4064 : I4059 (ad g 0) 10 = w3424 := by rw [eI4059, pp_ne _ _ (Or.inl (ly_ne hy (by decide) (by decide) (by decide)))]; exact e4037
                    have e4065 : I4059 (ad g 0) 16 = w3433 := by rw [eI4059, pp_ne _ _ (Or.inl (ly_ne hy (by decide) (by decide) (by decide)))]; exact e4038
                    have e4066 : I4059 (ad g 0) 11 = w3433 := by rw [eI4059, pp_ne _ _ (Or.inl (ly_ne hy (by decide) (by decide) (by decide)))]; exact e4039
                    have e4067 : I4059 (ad g 0) 17 = w3444 := by rw [eI4059, pp_ne _ _ (Or.inl (ly_ne hy (by decide) (by decide) (by decide)))]; exact e4040
                    have e4068 : I4059 (ad g 0) 13 = w3444 := by rw [eI4059, pp_ne _ _ (Or.inl (ly_ne hy (by decide) (by decide) (by decide)))]; exact e4041
                    have e4069 : I4059 (ad g 0) 18 = w3457 := by rw [eI4059, pp_ne _ _ (Or.inl (ly_ne hy (by decide) (by decide) (by decide)))]; exact e4042
                    have e4070 : I4059 (ad g 0) 14 = v3461 := by rw [eI4059, pp_ne _ _ (Or.inl (ly_ne hy (by decide) (by decide) (by decide)))]; exact e4043
                    have e4071 : I4059 (ad g 0) 19 = w3476 := by rw [eI4059, pp_ne _ _ (Or.inl (ly_ne hy (by decide) (by decide) (by decide)))]; exact e4044
                    have e4072 : I4059 (ad g 0) 12 = w3476 := by rw [eI4059, pp_ne _ _ (Or.inl (ly_ne hy (by decide) (by decide) (by decide)))]; exact e4045
                    have e4073 : I4059 (ad g 38) 28 = v3818 := by rw [eI4059, pp_ne _ _ (Or.inl (ly_ne hy (by decide) (by decide) (by decide)))]; exact e4046
                    have e4074 : I4059 (ad g 46) 0 = v3836 := by rw [eI4059, pp_ne _ _ (Or.inr (by decide))]; exact e4047
                    have e4075 : I4059 (ad g 47) 0 = v3855 := by rw [eI4059, pp_ne _ _ (Or.inl (ly_ne hy (by decide) (by decide) (by decide)))]; exact e4048
                    have e4076 : I4059 (ad g 38) 29 = v3880 := by rw [eI4059, pp_ne _ _ (Or.inl (ly_ne hy (by decide) (by decide) (by decide)))]; exact e4049
                    have e4077 : I4059 (ad g 46) 1 = v3901 := by rw [eI4059, pp_ne _ _ (Or.inr (by decide))]; exact e4050
                    have e4078 : I4059 (ad g 47) 1 = v3923 := by rw [eI4059, pp_ne _ _ (Or.inl (ly_ne hy (by decide) (by decide) (by decide)))]; exact e4051
                    have e4079 : I4059 (ad g 38) 30 = v3951 := by rw [eI4059, pp_ne _ _ (Or.inl (ly_ne hy (by decide) (by decide) (by decide)))]; exact e4052
                    have e4080 : I4059 (ad g 46) 2 = v3975 := by rw [eI4059, pp_ne _ _ (Or.inr (by decide))]; exact e4053
                    have e4081 : I4059 (ad g 47) 2 = v4000 := by rw [eI4059, pp_ne _ _ (Or.inl (ly_ne hy (by decide) (by decide) (by decide)))]; exact e4054
                    have e4082 : I4059 (ad g 38) 31 = v4031 := by rw [eI4059, pp_ne _ _ (Or.inl (ly_ne hy (by decide) (by decide) (by decide)))]; exact e4055
                    have e4083 : I4059 (ad g 46) 3 = v4058 := by rw [eI4059, pp_self]
                    have fI4084 : FC g [0, 6, 7, 8, 9, 10, 11, 12, 13, 14, 15, 16, 17, 18, 19, 20, 21, 22, 23, 24, 25, 26, 27, 28, 29, 30, 31, 32, 33, 34, 37, 38, 44, 46, 47] I I4059 := by rw [eI4059]; exact FC_pp fI4056 (by decide)
                    have fQ4085 : FQ g [1, 2, 3, 4, 5, 6, 7, 8, 9, 10, 11, 12, 13, 14, 15, 16, 17, 18, 19, 51, 68] I I4059 := by rw [eI4059]; exact FQ_ppn (ly_ne hy (by decide) (by decide) (by decide)) fQ4057
                    refine WP_aload_n dX11_town_310 rfl ?_
                    refine WP_getr dX11_town_311 fX11_313 rfl (ly_is hy 0 11 rfl) (rf hr 0 72 47 (by decide)) ?_
                    refine WP_iload_n dX11_town_314 rfl ?_
                    refine WQ_iconst (0) (0) dX11_town_315 rfl rfl (fun v4086 hv4086 => ?_)
                    refine WE_is dX11_town_316 (ly_is hy 47 13 rfl) (ly_n hy 47 4 rfl) (by omega) (by omega) (fun I4087 eI4087 => ?_)
                    rw [show v4026.toInt.toNat = 3 by omega] at eI4087
                    have e4088 : I4087 (ad g 0) 1 = w3407 := by rw [eI4087, pp_ne _ _ (Or.inl (ly_ne hy (by decide) (by decide) (by decide)))]; exact e4060
                    have e4089 : I4087 (ad g 0) 8 = w3421 := by rw [eI4087, pp_ne _ _ (Or.inl (ly_ne hy (by decide) (by decide) (by decide)))]; exact e4061
                    have e4090 : I4087 (ad g 0) 9 = w3422 := by rw [eI4087, pp_ne _ _ (Or.inl (ly_ne hy (by decide) (by decide) (by decide)))]; exact e4062
                    have e4091 : I4087 (ad g 0) 15 = w3424 := by rw [eI4087, pp_ne _ _ (Or.inl (ly_ne hy (by decide) (by decide) (by decide)))]; exact e4063
                    have e4092 : I4087 (ad g 0) 10 = w3424 := by rw [eI4087, pp_ne _ _ (Or.inl (ly_ne hy (by decide) (by decide) (by decide)))]; exact e4064
                    have e4093 : I4087 (ad g 0) 16 = w3433 := by rw [eI4087, pp_ne _ _ (Or.inl (ly_ne hy (by decide) (by decide) (by decide)))]; exact e4065
                    have e4094 : I4087 (ad g 0) 11 = w3433 := by rw [eI4087, pp_ne _ _ (Or.inl (ly_ne hy (by decide) (by decide) (by decide)))]; exact e4066
                    have e4095 : I4087 (ad g 0) 17 = w3444 := by rw [eI4087, pp_ne _ _ (Or.inl (ly_ne hy (by decide) (by decide) (by decide)))]; exact e4067
                    have e4096 : I4087 (ad g 0) 13 = w3444 := by rw [eI4087, pp_ne _ _ (Or.inl (ly_ne hy (by decide) (by decide) (by decide)))]; exact e4068
                    have e4097 : I4087 (ad g 0) 18 = w3457 := by rw [eI4087, pp_ne _ _ (Or.inl (ly_ne hy (by decide) (by decide) (by decide)))]; exact e4069
                    have e4098 : I4087 (ad g 0) 14 = v3461 := by rw [eI4087, pp_ne _ _ (Or.inl (ly_ne hy (by decide) (by decide) (by decide)))]; exact e4070
                    have e4099 : I4087 (ad g 0) 19 = w3476 := by rw [eI4087, pp_ne _ _ (Or.inl (ly_ne hy (by decide) (by decide) (by decide)))]; exact e4071
                    have e4100 : I4087 (ad g 0) 12 = w3476 := by rw [eI4087, pp_ne _ _ (Or.inl (ly_ne hy (by decide) (by decide) (by decide)))]; exact e4072
                    have e4101 : I4087 (ad g 38) 28 = v3818 := by rw [eI4087, pp_ne _ _ (Or.inl (ly_ne hy (by decide) (by decide) (by decide)))]; exact e4073
                    have e4102 : I4087 (ad g 46) 0 = v3836 := by rw [eI4087, pp_ne _ _ (Or.inl (ly_ne hy (by decide) (by decide) (by decide)))]; exact e4074
                    have e4103 : I4087 (ad g 47) 0 = v3855 := by rw [eI4087, pp_ne _ _ (Or.inr (by decide))]; exact e4075
                    have e4104 : I4087 (ad g 38) 29 = v3880 := by rw [eI4087, pp_ne _ _ (Or.inl (ly_ne hy (by decide) (by decide) (by decide)))]; exact e4076
                    have e4105 : I4087 (ad g 46) 1 = v3901 := by rw [eI4087, pp_ne _ _ (Or.inl (ly_ne hy (by decide) (by decide) (by decide)))]; exact e4077
                    have e4106 : I4087 (ad g 47) 1 = v3923 := by rw [eI4087, pp_ne _ _ (Or.inr (by decide))]; exact e4078
                    have e4107 : I4087 (ad g 38) 30 = v3951 := by rw [eI4087, pp_ne _ _ (Or.inl (ly_ne hy (by decide) (by decide) (by decide)))]; exact e4079
                    have e4108 : I4087 (ad g 46) 2 = v3975 := by rw [eI4087, pp_ne _ _ (Or.inl (ly_ne hy (by decide) (by decide) (by decide)))]; exact e4080
                    have e4109 : I4087 (ad g 47) 2 = v4000 := by rw [eI4087, pp_ne _ _ (Or.inr (by decide))]; exact e4081
                    have e4110 : I4087 (ad g 38) 31 = v4031 := by rw [eI4087, pp_ne _ _ (Or.inl (ly_ne hy (by decide) (by decide) (by decide)))]; exact e4082
                    have e4111 : I4087 (ad g 46) 3 = v4058 := by rw [eI4087, pp_ne _ _ (Or.inl (ly_ne hy (by decide) (by decide) (by decide)))]; exact e4083
                    have e4112 : I4087 (ad g 47) 3 = v4086 := by rw [eI4087, pp_self]
                    have fI4113 : FC g [0, 6, 7, 8, 9, 10, 11, 12, 13, 14, 15, 16, 17, 18, 19, 20, 21, 22, 23, 24, 25, 26, 27, 28, 29, 30, 31, 32, 33, 34, 37, 38, 44, 46, 47] I I4087 := by rw [eI4087]; exact FC_pp fI4084 (by decide)
                    have fQ4114 : FQ g [1, 2, 3, 4, 5, 6, 7, 8, 9, 10, 11, 12, 13, 14, 15, 16, 17, 18, 19, 51, 68] I I4087 := by rw [eI4087]; exact FQ_ppn (ly_ne hy (by decide) (by decide) (by decide)) fQ4085
                    refine WP_iinc (ls' := [(0, _), (1, _)]) dX11_town_317 rfl (by decide) rfl ?_
                    have hv4115 : (v4026 + Int32.ofInt (1)).toInt = v4026.toInt + (1) := ia_n rfl (by omega) (by omega)
                    generalize v4026 + Int32.ofInt (1) = v4115 at hv4115 ⊢
                    have kv4115 : v4115.toInt = 4 := by omega
                    clear hv4115; have hv4115 := kv4115; clear kv4115
                    refine WP_goto 288 dX11_town_320 rfl ?_
                    refine WP_iload_n dX11_town_288 rfl ?_
                    refine WQ_iconst (4) (4) dX11_town_289 rfl rfl (fun v4116 hv4116 => ?_)
                    refine WQ_icmp_ge 323 dX11_town_290 rfl (fun c4116 => ?_) (fun c4116 => False.elim (by omega))
                    have d10b : ∀ q, q < 4 → I4087 (ad g 10) q = I3412 (ad g 16) q := fun q hq => by rw [eI4087, pp_off _ _ (ly_ne hy (by decide) (by decide) (by decide)), eI4059, pp_off _ _ (ly_ne hy (by decide) (by decide) (by decide)), eI4032, pp_off _ _ (ly_ne hy (by decide) (by decide) (by decide)), eI4001, pp_off _ _ (ly_ne hy (by decide) (by decide) (by decide)), eI3976, pp_off _ _ (ly_ne hy (by decide) (by decide) (by decide)), eI3952, pp_off _ _ (ly_ne hy (by decide) (by decide) (by decide)), eI3924, pp_off _ _ (ly_ne hy (by decide) (by decide) (by decide)), eI3902, pp_off _ _ (ly_ne hy (by decide) (by decide) (by decide)), eI3881, pp_off _ _ (ly_ne hy (by decide) (by decide) (by decide)), eI3856, pp_off _ _ (ly_ne hy (by decide) (by decide) (by decide)), eI3837, pp_off _ _ (ly_ne hy (by decide) (by decide) (by decide)), eI3819, pp_off _ _ (ly_ne hy (by decide) (by decide) (by decide)), FC_at hy g3794 10 (by decide) (by decide), FC_at hy g3772 10 (by decide) (by decide), FC_at hy g3750 10 (by decide) (by decide), FC_at hy g3728 10 (by decide) (by decide), FC_at hy g3706 10 (by decide) (by decide), FC_at hy g3684 10 (by decide) (by decide), FC_at hy g3662 10 (by decide) (by decide), FC_at hy g3640 10 (by decide) (by decide), FC_at hy g3618 10 (by decide) (by decide), FC_at hy g3596 10 (by decide) (by decide)]; exact d10 q hq
                    refine WP_aload_n dX11_town_323 rfl ?_
                    refine WP_aload_n dX11_town_324 rfl ?_
                    refine WP_getr dX11_town_325 fX11_283 rfl (ly_is hy 0 11 rfl) (rf hr 0 59 38 (by decide)) ?_
                    refine WP_callV1 (k := 11) dX11_town_328 ⟨⟨⟨by decide, by decide⟩, zX11_begin⟩, lX11_342, by decide, rfl, vX11_begin.1, vX11_begin.2⟩ (ly_is hy 0 11 rfl) (em_begin38 hy hr   (mm := S2.1 0 1) (by rw [e4092]; exact hR.1.1) ⟨hb1, hb2⟩) (Nat.le_of_ble_eq_true rfl) ?_
                    intro r I4119 J4120 Ra hq
                    obtain ⟨ec, g4121, g4122, g4123, er, p4118⟩ := hq
                    rw [ec, er]
                    clear ec er Ra r
                    have e4124 : I4119 (ad g 0) 1 = w3407 := by rw [FC_at hy g4121 0 (by decide) (by decide)]; exact e4088
                    have e4125 : I4119 (ad g 0) 8 = w3421 := by rw [FC_at hy g4121 0 (by decide) (by decide)]; exact e4089
                    have e4126 : I4119 (ad g 0) 9 = w3422 := by rw [FC_at hy g4121 0 (by decide) (by decide)]; exact e4090
                    have e4127 : I4119 (ad g 0) 15 = w3424 := by rw [FC_at hy g4121 0 (by decide) (by decide)]; exact e4091
                    have e4128 : I4119 (ad g 0) 10 = w3424 := by rw [FC_at hy g4121 0 (by decide) (by decide)]; exact e4092
                    have e4129 : I4119 (ad g 0) 16 = w3433 := by rw [FC_at hy g4121 0 (by decide) (by decide)]; exact e4093
                    have e4130 : I4119 (ad g 0) 11 = w3433 := by rw [FC_at hy g4121 0 (by decide) (by decide)]; exact e4094
                    have e4131 : I4119 (ad g 0) 17 = w3444 := by rw [FC_at hy g4121 0 (by decide) (by decide)]; exact e4095
                    have e4132 : I4119 (ad g 0) 13 = w3444 := by rw [FC_at hy g4121 0 (by decide) (by decide)]; exact e4096
                    have e4133 : I4119 (ad g 0) 18 = w3457 := by rw [FC_at hy g4121 0 (by decide) (by decide)]; exact e4097
                    have e4134 : I4119 (ad g 0) 14 = v3461 := by rw [FC_at hy g4121 0 (by decide) (by decide)]; exact e4098
                    have e4135 : I4119 (ad g 0) 19 = w3476 := by rw [FC_at hy g4121 0 (by decide) (by decide)]; exact e4099
                    have e4136 : I4119 (ad g 0) 12 = w3476 := by rw [FC_at hy g4121 0 (by decide) (by decide)]; exact e4100
                    have e4137 : I4119 (ad g 46) 0 = v3836 := by rw [FC_at hy g4121 46 (by decide) (by decide)]; exact e4102
                    have e4138 : I4119 (ad g 47) 0 = v3855 := by rw [FC_at hy g4121 47 (by decide) (by decide)]; exact e4103
                    have e4139 : I4119 (ad g 46) 1 = v3901 := by rw [FC_at hy g4121 46 (by decide) (by decide)]; exact e4105
                    have e4140 : I4119 (ad g 47) 1 = v3923 := by rw [FC_at hy g4121 47 (by decide) (by decide)]; exact e4106
                    have e4141 : I4119 (ad g 46) 2 = v3975 := by rw [FC_at hy g4121 46 (by decide) (by decide)]; exact e4108
                    have e4142 : I4119 (ad g 47) 2 = v4000 := by rw [FC_at hy g4121 47 (by decide) (by decide)]; exact e4109
                    have e4143 : I4119 (ad g 46) 3 = v4058 := by rw [FC_at hy g4121 46 (by decide) (by decide)]; exact e4111
                    have e4144 : I4119 (ad g 47) 3 = v4086 := by rw [FC_at hy g4121 47 (by decide) (by decide)]; exact e4112
                    have fI4145 : FC g [0, 6, 7, 8, 9, 10, 11, 12, 13, 14, 15, 16, 17, 18, 19, 20, 21, 22, 23, 24, 25, 26, 27, 28, 29, 30, 31, 32, 33, 34, 37, 38, 44, 46, 47] I I4119 := FC_tr fI4113 (FC_mono g4121 (by decide))
                    have fJ4146 : FC g [0, 2, 3, 4, 5] J J4120 := FC_tr fJ3811 (FC_mono g4122 (by decide))
                    have fQ4147 : FQ g [1, 2, 3, 4, 5, 6, 7, 8, 9, 10, 11, 12, 13, 14, 15, 16, 17, 18, 19, 51, 68] I I4119 := FQ_tr fQ4114 (FQ_mono g4123 (by decide))
                    try simp only [e4124, e4125, e4126, ew3395, ew3396, ew3397] at p4118
                    refine WP_aload_n dX11_town_331 rfl ?_
                    refine WP_lconst (0) dX11_town_332 rfl ?_
                    obtain ⟨l4148, hl4148, el4148⟩ : ∃ v : Int64, v.toInt = 0 ∧ (0 : Int64) = v := ⟨_, rfl, rfl⟩
                    rw [el4148]
                    refine WQ_putl dX11_town_333 fX11_346 rfl rfl (ly_is hy 0 11 rfl) (fun J4149 eJ4149 => ?_)
                    have e4150 : J4149 (ad g 0) 61 = l4148 := by rw [eJ4149, pp_self]
                    have fJ4151 : FC g [0, 2, 3, 4, 5] J J4149 := by rw [eJ4149]; exact FC_pp fJ4146 (by decide)
                    refine WP_aload_n dX11_town_336 rfl ?_
                    refine WP_callV0 (k := 11) dX11_town_337 ⟨⟨⟨by decide, by decide⟩, zX11_forgetWeeks⟩, lX11_350, by decide, rfl, vX11_forgetWeeks.1, vX11_forgetWeeks.2⟩ (ly_is hy 0 11 rfl) (em_forgetWeeks hy hr   ) (Nat.le_of_ble_eq_true rfl) ?_
                    intro r I4153 J4154 Ra hq
                    obtain ⟨ec, g4155, g4156, g4157, er, p4152⟩ := hq
                    rw [ec, er]
                    clear ec er Ra r
                    have e4158 : I4153 (ad g 0) 1 = w3407 := by rw [FC_at hy g4155 0 (by decide) (by decide)]; exact e4124
                    have e4159 : I4153 (ad g 0) 8 = w3421 := by rw [FC_at hy g4155 0 (by decide) (by decide)]; exact e4125
                    have e4160 : I4153 (ad g 0) 9 = w3422 := by rw [FC_at hy g4155 0 (by decide) (by decide)]; exact e4126
                    have e4161 : I4153 (ad g 0) 15 = w3424 := by rw [FC_at hy g4155 0 (by decide) (by decide)]; exact e4127
                    have e4162 : I4153 (ad g 0) 10 = w3424 := by rw [FC_at hy g4155 0 (by decide) (by decide)]; exact e4128
                    have e4163 : I4153 (ad g 0) 16 = w3433 := by rw [FC_at hy g4155 0 (by decide) (by decide)]; exact e4129
                    have e4164 : I4153 (ad g 0) 11 = w3433 := by rw [FC_at hy g4155 0 (by decide) (by decide)]; exact e4130
                    have e4165 : I4153 (ad g 0) 17 = w3444 := by rw [FC_at hy g4155 0 (by decide) (by decide)]; exact e4131
                    have e4166 : I4153 (ad g 0) 13 = w3444 := by rw [FC_at hy g4155 0 (by decide) (by decide)]; exact e4132
                    have e4167 : I4153 (ad g 0) 18 = w3457 := by rw [FC_at hy g4155 0 (by decide) (by decide)]; exact e4133
                    have e4168 : I4153 (ad g 0) 14 = v3461 := by rw [FC_at hy g4155 0 (by decide) (by decide)]; exact e4134
                    have e4169 : I4153 (ad g 0) 19 = w3476 := by rw [FC_at hy g4155 0 (by decide) (by decide)]; exact e4135
                    have e4170 : I4153 (ad g 0) 12 = w3476 := by rw [FC_at hy g4155 0 (by decide) (by decide)]; exact e4136
                    have e4171 : I4153 (ad g 46) 0 = v3836 := by rw [FC_at hy g4155 46 (by decide) (by decide)]; exact e4137
                    have e4172 : I4153 (ad g 47) 0 = v3855 := by rw [FC_at hy g4155 47 (by decide) (by decide)]; exact e4138
                    have e4173 : I4153 (ad g 46) 1 = v3901 := by rw [FC_at hy g4155 46 (by decide) (by decide)]; exact e4139
                    have e4174 : I4153 (ad g 47) 1 = v3923 := by rw [FC_at hy g4155 47 (by decide) (by decide)]; exact e4140
                    have e4175 : I4153 (ad g 46) 2 = v3975 := by rw [FC_at hy g4155 46 (by decide) (by decide)]; exact e4141
                    have e4176 : I4153 (ad g 47) 2 = v4000 := by rw [FC_at hy g4155 47 (by decide) (by decide)]; exact e4142
                    have e4177 : I4153 (ad g 46) 3 = v4058 := by rw [FC_at hy g4155 46 (by decide) (by decide)]; exact e4143
                    have e4178 : I4153 (ad g 47) 3 = v4086 := by rw [FC_at hy g4155 47 (by decide) (by decide)]; exact e4144
                    have e4179 : J4154 (ad g 0) 61 = l4148 := by rw [FC_at hy g4156 0 (by decide) (by decide)]; exact e4150
                    have fI4180 : FC g [0, 6, 7, 8, 9, 10, 11, 12, 13, 14, 15, 16, 17, 18, 19, 20, 21, 22, 23, 24, 25, 26, 27, 28, 29, 30, 31, 32, 33, 34, 37, 38, 44, 46, 47] I I4153 := FC_tr fI4145 (FC_mono g4155 (by decide))
                    have fJ4181 : FC g [0, 2, 3, 4, 5] J J4154 := FC_tr fJ4151 (FC_mono g4156 (by decide))
                    have fQ4182 : FQ g [1, 2, 3, 4, 5, 6, 7, 8, 9, 10, 11, 12, 13, 14, 15, 16, 17, 18, 19, 51, 68] I I4153 := FQ_tr fQ4147 (FQ_mono g4157 (by decide))
                    try simp only [e4158, e4159, e4160, ew3395, ew3396, ew3397] at p4152
                    refine WQ_iconst (0) (0) dX11_town_340 rfl rfl (fun v4183 hv4183 => ?_)
                    refine WP_istore_n (ls' := [(0, _), (1, _)]) dX11_town_341 (by decide) rfl ?_
                    refine WP_iload_n dX11_town_342 rfl ?_
                    refine WQ_iconst (3) (3) dX11_town_343 rfl rfl (fun v4184 hv4184 => ?_)
                    refine WQ_icmp_ge 360 dX11_town_344 rfl (fun c4184 => False.elim (by omega)) (fun c4184 => ?_)
                    refine WP_aload_n dX11_town_347 rfl ?_
                    refine WP_getr dX11_town_348 fX11_301 rfl (ly_is hy 0 11 rfl) (rf hr 0 67 44 (by decide)) ?_
                    refine WP_iload_n dX11_town_351 rfl ?_
                    refine WQ_iconst (0) (0) dX11_town_352 rfl rfl (fun v4186 hv4186 => ?_)
                    refine WE_zs dX11_town_353 (ly_is hy 44 15 rfl) (ly_n hy 44 3 rfl) (by omega) (by omega) (fun I4187 eI4187 => ?_)
                    rw [show v4183.toInt.toNat = 0 by omega] at eI4187
                    have e4188 : I4187 (ad g 0) 1 = w3407 := by rw [eI4187, pp_ne _ _ (Or.inl (ly_ne hy (by decide) (by decide) (by decide)))]; exact e4158
                    have e4189 : I4187 (ad g 0) 8 = w3421 := by rw [eI4187, pp_ne _ _ (Or.inl (ly_ne hy (by decide) (by decide) (by decide)))]; exact e4159
                    have e4190 : I4187 (ad g 0) 9 = w3422 := by rw [eI4187, pp_ne _ _ (Or.inl (ly_ne hy (by decide) (by decide) (by decide)))]; exact e4160
                    have e4191 : I4187 (ad g 0) 15 = w3424 := by rw [eI4187, pp_ne _ _ (Or.inl (ly_ne hy (by decide) (by decide) (by decide)))]; exact e4161
                    have e4192 : I4187 (ad g 0) 10 = w3424 := by rw [eI4187, pp_ne _ _ (Or.inl (ly_ne hy (by decide) (by decide) (by decide)))]; exact e4162
                    have e4193 : I4187 (ad g 0) 16 = w3433 := by rw [eI4187, pp_ne _ _ (Or.inl (ly_ne hy (by decide) (by decide) (by decide)))]; exact e4163
                    have e4194 : I4187 (ad g 0) 11 = w3433 := by rw [eI4187, pp_ne _ _ (Or.inl (ly_ne hy (by decide) (by decide) (by decide)))]; exact e4164
                    have e4195 : I4187 (ad g 0) 17 = w3444 := by rw [eI4187, pp_ne _ _ (Or.inl (ly_ne hy (by decide) (by decide) (by decide)))]; exact e4165
                    have e4196 : I4187 (ad g 0) 13 = w3444 := by rw [eI4187, pp_ne _ _ (Or.inl (ly_ne hy (by decide) (by decide) (by decide)))]; exact e4166
                    have e4197 : I4187 (ad g 0) 18 = w3457 := by rw [eI4187, pp_ne _ _ (Or.inl (ly_ne hy (by decide) (by decide) (by decide)))]; exact e4167
                    have e4198 : I4187 (ad g 0) 14 = v3461 := by rw [eI4187, pp_ne _ _ (Or.inl (ly_ne hy (by decide) (by decide) (by decide)))]; exact e4168
                    have e4199 : I4187 (ad g 0) 19 = w3476 := by rw [eI4187, pp_ne _ _ (Or.inl (ly_ne hy (by decide) (by decide) (by decide)))]; exact e4169
                    have e4200 : I4187 (ad g 0) 12 = w3476 := by rw [eI4187, pp_ne _ _ (Or.inl (ly_ne hy (by decide) (by decide) (by decide)))]; exact e4170
                    have e4201 : I4187 (ad g 46) 0 = v3836 := by rw [eI4187, pp_ne _ _ (Or.inl (ly_ne hy (by decide) (by decide) (by decide)))]; exact e4171
                    have e4202 : I4187 (ad g 47) 0 = v3855 := by rw [eI4187, pp_ne _ _ (Or.inl (ly_ne hy (by decide) (by decide) (by decide)))]; exact e4172
                    have e4203 : I4187 (ad g 46) 1 = v3901 := by rw [eI4187, pp_ne _ _ (Or.inl (ly_ne hy (by decide) (by decide) (by decide)))]; exact e4173
                    have e4204 : I4187 (ad g 47) 1 = v3923 := by rw [eI4187, pp_ne _ _ (Or.inl (ly_ne hy (by decide) (by decide) (by decide)))]; exact e4174
                    have e4205 : I4187 (ad g 46) 2 = v3975 := by rw [eI4187, pp_ne _ _ (Or.inl (ly_ne hy (by decide) (by decide) (by decide)))]; exact e4175
                    have e4206 : I4187 (ad g 47) 2 = v4000 := by rw [eI4187, pp_ne _ _ (Or.inl (ly_ne hy (by decide) (by decide) (by decide)))]; exact e4176
                    have e4207 : I4187 (ad g 46) 3 = v4058 := by rw [eI4187, pp_ne _ _ (Or.inl (ly_ne hy (by decide) (by decide) (by decide)))]; exact e4177
                    have e4208 : I4187 (ad g 47) 3 = v4086 := by rw [eI4187, pp_ne _ _ (Or.inl (ly_ne hy (by decide) (by decide) (by decide)))]; exact e4178
                    have e4209 : I4187 (ad g 44) 0 = (vp_nar .boolean v4186) := by rw [eI4187, pp_self]
                    have fI4210 : FC g [0, 6, 7, 8, 9, 10, 11, 12, 13, 14, 15, 16, 17, 18, 19, 20, 21, 22, 23, 24, 25, 26, 27, 28, 29, 30, 31, 32, 33, 34, 37, 38, 44, 46, 47] I I4187 := by rw [eI4187]; exact FC_pp fI4180 (by decide)
                    have fQ4211 : FQ g [1, 2, 3, 4, 5, 6, 7, 8, 9, 10, 11, 12, 13, 14, 15, 16, 17, 18, 19, 51, 68] I I4187 := by rw [eI4187]; exact FQ_ppn (ly_ne hy (by decide) (by decide) (by decide)) fQ4182
                    refine WP_iinc (ls' := [(0, _), (1, _)]) dX11_town_354 rfl (by decide) rfl ?_
                    have hv4212 : (v4183 + Int32.ofInt (1)).toInt = v4183.toInt + (1) := ia_n rfl (by omega) (by omega)
                    generalize v4183 + Int32.ofInt (1) = v4212 at hv4212 ⊢
                    have kv4212 : v4212.toInt = 1 := by omega
                    clear hv4212; have hv4212 := kv4212; clear kv4212
                    refine WP_goto 342 dX11_town_357 rfl ?_
                    refine WP_iload_n dX11_town_342 rfl ?_
                    refine WQ_iconst (3) (3) dX11_town_343 rfl rfl (fun v4213 hv4213 => ?_)
                    refine WQ_icmp_ge 360 dX11_town_344 rfl (fun c4213 => False.elim (by omega)) (fun c4213 => ?_)
                    refine WP_aload_n dX11_town_347 rfl ?_
                    refine WP_getr dX11_town_348 fX11_301 rfl (ly_is hy 0 11 rfl) (rf hr 0 67 44 (by decide)) ?_
                    refine WP_iload_n dX11_town_351 rfl ?_
                    refine WQ_iconst (0) (0) dX11_town_352 rfl rfl (fun v4215 hv4215 => ?_)
                    refine WE_zs dX11_town_353 (ly_is hy 44 15 rfl) (ly_n hy 44 3 rfl) (by omega) (by omega) (fun I4216 eI4216 => ?_)
                    rw [show v4212.toInt.toNat = 1 by omega] at eI4216
                    have e4217 : I4216 (ad g 0) 1 = w3407 := by rw [eI4216, pp_ne _ _ (Or.inl (ly_ne hy (by decide) (by decide) (by decide)))]; exact e4188
                    have e4218 : I4216 (ad g 0) 8 = w3421 := by rw [eI4216, pp_ne _ _ (Or.inl (ly_ne hy (by decide) (by decide) (by decide)))]; exact e4189
                    have e4219 : I4216 (ad g 0) 9 = w3422 := by rw [eI4216, pp_ne _ _ (Or.inl (ly_ne hy (by decide) (by decide) (by decide)))]; exact e4190
                    have e4220 : I4216 (ad g 0) 15 = w3424 := by rw [eI4216, pp_ne _ _ (Or.inl (ly_ne hy (by decide) (by decide) (by decide)))]; exact e4191
                    have e4221 : I4216 (ad g 0) 10 = w3424 := by rw [eI4216, pp_ne _ _ (Or.inl (ly_ne hy (by decide) (by decide) (by decide)))]; exact e4192
                    have e4222 : I4216 (ad g 0) 16 = w3433 := by rw [eI4216, pp_ne _ _ (Or.inl (ly_ne hy (by decide) (by decide) (by decide)))]; exact e4193
                    have e4223 : I4216 (ad g 0) 11 = w3433 := by rw [eI4216, pp_ne _ _ (Or.inl (ly_ne hy (by decide) (by decide) (by decide)))]; exact e4194
                    have e4224 : I4216 (ad g 0) 17 = w3444 := by rw [eI4216, pp_ne _ _ (Or.inl (ly_ne hy (by decide) (by decide) (by decide)))]; exact e4195
                    have e4225 : I4216 (ad g 0) 13 = w3444 := by rw [eI4216, pp_ne _ _ (Or.inl (ly_ne hy (by decide) (by decide) (by decide)))]; exact e4196
                    have e4226 : I4216 (ad g 0) 18 = w3457 := by rw [eI4216, pp_ne _ _ (Or.inl (ly_ne hy (by decide) (by decide) (by decide)))]; exact e4197
                    have e4227 : I4216 (ad g 0) 14 = v3461 := by rw [eI4216, pp_ne _ _ (Or.inl (ly_ne hy (by decide) (by decide) (by decide)))]; exact e4198
                    have e4228 : I4216 (ad g 0) 19 = w3476 := by rw [eI4216, pp_ne _ _ (Or.inl (ly_ne hy (by decide) (by decide) (by decide)))]; exact e4199
                    have e4229 : I4216 (ad g 0) 12 = w3476 := by rw [eI4216, pp_ne _ _ (Or.inl (ly_ne hy (by decide) (by decide) (by decide)))]; exact e4200
                    have e4230 : I4216 (ad g 46) 0 = v3836 := by rw [eI4216, pp_ne _ _ (Or.inl (ly_ne hy (by decide) (by decide) (by decide)))]; exact e4201
                    have e4231 : I4216 (ad g 47) 0 = v3855 := by rw [eI4216, pp_ne _ _ (Or.inl (ly_ne hy (by decide) (by decide) (by decide)))]; exact e4202
                    have e4232 : I4216 (ad g 46) 1 = v3901 := by rw [eI4216, pp_ne _ _ (Or.inl (ly_ne hy (by decide) (by decide) (by decide)))]; exact e4203
                    have e4233 : I4216 (ad g 47) 1 = v3923 := by rw [eI4216, pp_ne _ _ (Or.inl (ly_ne hy (by decide) (by decide) (by decide)))]; exact e4204
                    have e4234 : I4216 (ad g 46) 2 = v3975 := by rw [eI4216, pp_ne _ _ (Or.inl (ly_ne hy (by decide) (by decide) (by decide)))]; exact e4205
                    have e4235 : I4216 (ad g 47) 2 = v4000 := by rw [eI4216, pp_ne _ _ (Or.inl (ly_ne hy (by decide) (by decide) (by decide)))]; exact e4206
                    have e4236 : I4216 (ad g 46) 3 = v4058 := by rw [eI4216, pp_ne _ _ (Or.inl (ly_ne hy (by decide) (by decide) (by decide)))]; exact e4207
                    have e4237 : I4216 (ad g 47) 3 = v4086 := by rw [eI4216, pp_ne _ _ (Or.inl (ly_ne hy (by decide) (by decide) (by decide)))]; exact e4208
                    have e4238 : I4216 (ad g 44) 0 = (vp_nar .boolean v4186) := by rw [eI4216, pp_ne _ _ (Or.inr (by decide))]; exact e4209
                    have e4239 : I4216 (ad g 44) 1 = (vp_nar .boolean v4215) := by rw [eI4216, pp_self]
                    have fI4240 : FC g [0, 6, 7, 8, 9, 10, 11, 12, 13, 14, 15, 16, 17, 18, 19, 20, 21, 22, 23, 24, 25, 26, 27, 28, 29, 30, 31, 32, 33, 34, 37, 38, 44, 46, 47] I I4216 := by rw [eI4216]; exact FC_pp fI4210 (by decide)
                    have fQ4241 : FQ g [1, 2, 3, 4, 5, 6, 7, 8, 9, 10, 11, 12, 13, 14, 15, 16, 17, 18, 19, 51, 68] I I4216 := by rw [eI4216]; exact FQ_ppn (ly_ne hy (by decide) (by decide) (by decide)) fQ4211
                    refine WP_iinc (ls' := [(0, _), (1, _)]) dX11_town_354 rfl (by decide) rfl ?_
                    have hv4242 : (v4212 + Int32.ofInt (1)).toInt = v4212.toInt + (1) := ia_n rfl (by omega) (by omega)
                    generalize v4212 + Int32.ofInt (1) = v4242 at hv4242 ⊢
                    have kv4242 : v4242.toInt = 2 := by omega
                    clear hv4242; have hv4242 := kv4242; clear kv4242
                    refine WP_goto 342 dX11_town_357 rfl ?_
                    refine WP_iload_n dX11_town_342 rfl ?_
                    refine WQ_iconst (3) (3) dX11_town_343 rfl rfl (fun v4243 hv4243 => ?_)
                    refine WQ_icmp_ge 360 dX11_town_344 rfl (fun c4243 => False.elim (by omega)) (fun c4243 => ?_)
                    refine WP_aload_n dX11_town_347 rfl ?_
                    refine WP_getr dX11_town_348 fX11_301 rfl (ly_is hy 0 11 rfl) (rf hr 0 67 44 (by decide)) ?_
                    refine WP_iload_n dX11_town_351 rfl ?_
                    refine WQ_iconst (0) (0) dX11_town_352 rfl rfl (fun v4245 hv4245 => ?_)
                    refine WE_zs dX11_town_353 (ly_is hy 44 15 rfl) (ly_n hy 44 3 rfl) (by omega) (by omega) (fun I4246 eI4246 => ?_)
                    rw [show v4242.toInt.toNat = 2 by omega] at eI4246
                    have e4247 : I4246 (ad g 0) 1 = w3407 := by rw [eI4246, pp_ne _ _ (Or.inl (ly_ne hy (by decide) (by decide) (by decide)))]; exact e4217
                    have e4248 : I4246 (ad g 0) 8 = w3421 := by rw [eI4246, pp_ne _ _ (Or.inl (ly_ne hy (by decide) (by decide) (by decide)))]; exact e4218
                    have e4249 : I4246 (ad g 0) 9 = w3422 := by rw [eI4246, pp_ne _ _ (Or.inl (ly_ne hy (by decide) (by decide) (by decide)))]; exact e4219
                    have e4250 : I4246 (ad g 0) 15 = w3424 := by rw [eI4246, pp_ne _ _ (Or.inl (ly_ne hy (by decide) (by decide) (by decide)))]; exact e4220
                    have e4251 : I4246 (ad g 0) 10 = w3424 := by rw [eI4246, pp_ne _ _ (Or.inl (ly_ne hy (by decide) (by decide) (by decide)))]; exact e4221
                    have e4252 : I4246 (ad g 0) 16 = w3433 := by rw [eI4246, pp_ne _ _ (Or.inl (ly_ne hy (by decide) (by decide) (by decide)))]; exact e4222
                    have e4253 : I4246 (ad g 0) 11 = w3433 := by rw [eI4246, pp_ne _ _ (Or.inl (ly_ne hy (by decide) (by decide) (by decide)))]; exact e4223
                    have e4254 : I4246 (ad g 0) 17 = w3444 := by rw [eI4246, pp_ne _ _ (Or.inl (ly_ne hy (by decide) (by decide) (by decide)))]; exact e4224
                    have e4255 : I4246 (ad g 0) 13 = w3444 := by rw [eI4246, pp_ne _ _ (Or.inl (ly_ne hy (by decide) (by decide) (by decide)))]; exact e4225
                    have e4256 : I4246 (ad g 0) 18 = w3457 := by rw [eI4246, pp_ne _ _ (Or.inl (ly_ne hy (by decide) (by decide) (by decide)))]; exact e4226
                    have e4257 : I4246 (ad g 0) 14 = v3461 := by rw [eI4246, pp_ne _ _ (Or.inl (ly_ne hy (by decide) (by decide) (by decide)))]; exact e4227
                    have e4258 : I4246 (ad g 0) 19 = w3476 := by rw [eI4246, pp_ne _ _ (Or.inl (ly_ne hy (by decide) (by decide) (by decide)))]; exact e4228
                    have e4259 : I4246 (ad g 0) 12 = w3476 := by rw [eI4246, pp_ne _ _ (Or.inl (ly_ne hy (by decide) (by decide) (by decide)))]; exact e4229
                    have e4260 : I4246 (ad g 46) 0 = v3836 := by rw [eI4246, pp_ne _ _ (Or.inl (ly_ne hy (by decide) (by decide) (by decide)))]; exact e4230
                    have e4261 : I4246 (ad g 47) 0 = v3855 := by rw [eI4246, pp_ne _ _ (Or.inl (ly_ne hy (by decide) (by decide) (by decide)))]; exact e4231
                    have e4262 : I4246 (ad g 46) 1 = v3901 := by rw [eI4246, pp_ne _ _ (Or.inl (ly_ne hy (by decide) (by decide) (by decide)))]; exact e4232
                    have e4263 : I4246 (ad g 47) 1 = v3923 := by rw [eI4246, pp_ne _ _ (Or.inl (ly_ne hy (by decide) (by decide) (by decide)))]; exact e4233
                    have e4264 : I4246 (ad g 46) 2 = v3975 := by rw [eI4246, pp_ne _ _ (Or.inl (ly_ne hy (by decide) (by decide) (by decide)))]; exact e4234
                    have e4265 : I4246 (ad g 47) 2 = v4000 := by rw [eI4246, pp_ne _ _ (Or.inl (ly_ne hy (by decide) (by decide) (by decide)))]; exact e4235
                    have e4266 : I4246 (ad g 46) 3 = v4058 := by rw [eI4246, pp_ne _ _ (Or.inl (ly_ne hy (by decide) (by decide) (by decide)))]; exact e4236
                    have e4267 : I4246 (ad g 47) 3 = v4086 := by rw [eI4246, pp_ne _ _ (Or.inl (ly_ne hy (by decide) (by decide) (by decide)))]; exact e4237
                    have e4268 : I4246 (ad g 44) 0 = (vp_nar .boolean v4186) := by rw [eI4246, pp_ne _ _ (Or.inr (by decide))]; exact e4238
                    have e4269 : I4246 (ad g 44) 1 = (vp_nar .boolean v4215) := by rw [eI4246, pp_ne _ _ (Or.inr (by decide))]; exact e4239
                    have e4270 : I4246 (ad g 44) 2 = (vp_nar .boolean v4245) := by rw [eI4246, pp_self]
                    have fI4271 : FC g [0, 6, 7, 8, 9, 10, 11, 12, 13, 14, 15, 16, 17, 18, 19, 20, 21, 22, 23, 24, 25, 26, 27, 28, 29, 30, 31, 32, 33, 34, 37, 38, 44, 46, 47] I I4246 := by rw [eI4246]; exact FC_pp fI4240 (by decide)
                    have fQ4272 : FQ g [1, 2, 3, 4, 5, 6, 7, 8, 9, 10, 11, 12, 13, 14, 15, 16, 17, 18, 19, 51, 68] I I4246 := by rw [eI4246]; exact FQ_ppn (ly_ne hy (by decide) (by decide) (by decide)) fQ4241
                    refine WP_iinc (ls' := [(0, _), (1, _)]) dX11_town_354 rfl (by decide) rfl ?_
                    have hv4273 : (v4242 + Int32.ofInt (1)).toInt = v4242.toInt + (1) := ia_n rfl (by omega) (by omega)
                    generalize v4242 + Int32.ofInt (1) = v4273 at hv4273 ⊢
                    have kv4273 : v4273.toInt = 3 := by omega
                    clear hv4273; have hv4273 := kv4273; clear kv4273
                    refine WP_goto 342 dX11_town_357 rfl ?_
                    refine WP_iload_n dX11_town_342 rfl ?_
                    refine WQ_iconst (3) (3) dX11_town_343 rfl rfl (fun v4274 hv4274 => ?_)
                    refine WQ_icmp_ge 360 dX11_town_344 rfl (fun c4274 => ?_) (fun c4274 => False.elim (by omega))
                    refine WP_aload_n dX11_town_360 rfl ?_
                    refine WQ_iconst (-1) (-1) dX11_town_361 rfl rfl (fun v4276 hv4276 => ?_)
                    refine WQ_puti dX11_town_362 fX11_304 rfl rfl (ly_is hy 0 11 rfl) (fun I4277 eI4277 => ?_)
                    have e4278 : I4277 (ad g 0) 1 = w3407 := by rw [eI4277, pp_ne _ _ (Or.inr (by decide))]; exact e4247
                    have e4279 : I4277 (ad g 0) 8 = w3421 := by rw [eI4277, pp_ne _ _ (Or.inr (by decide))]; exact e4248
                    have e4280 : I4277 (ad g 0) 9 = w3422 := by rw [eI4277, pp_ne _ _ (Or.inr (by decide))]; exact e4249
                    have e4281 : I4277 (ad g 0) 15 = w3424 := by rw [eI4277, pp_ne _ _ (Or.inr (by decide))]; exact e4250
                    have e4282 : I4277 (ad g 0) 10 = w3424 := by rw [eI4277, pp_ne _ _ (Or.inr (by decide))]; exact e4251
                    have e4283 : I4277 (ad g 0) 16 = w3433 := by rw [eI4277, pp_ne _ _ (Or.inr (by decide))]; exact e4252
                    have e4284 : I4277 (ad g 0) 11 = w3433 := by rw [eI4277, pp_ne _ _ (Or.inr (by decide))]; exact e4253
                    have e4285 : I4277 (ad g 0) 17 = w3444 := by rw [eI4277, pp_ne _ _ (Or.inr (by decide))]; exact e4254
                    have e4286 : I4277 (ad g 0) 13 = w3444 := by rw [eI4277, pp_ne _ _ (Or.inr (by decide))]; exact e4255
                    have e4287 : I4277 (ad g 0) 18 = w3457 := by rw [eI4277, pp_ne _ _ (Or.inr (by decide))]; exact e4256
                    have e4288 : I4277 (ad g 0) 14 = v3461 := by rw [eI4277, pp_ne _ _ (Or.inr (by decide))]; exact e4257
                    have e4289 : I4277 (ad g 0) 19 = w3476 := by rw [eI4277, pp_ne _ _ (Or.inr (by decide))]; exact e4258
                    have e4290 : I4277 (ad g 0) 12 = w3476 := by rw [eI4277, pp_ne _ _ (Or.inr (by decide))]; exact e4259
                    have e4291 : I4277 (ad g 46) 0 = v3836 := by rw [eI4277, pp_ne _ _ (Or.inl (ly_ne hy (by decide) (by decide) (by decide)))]; exact e4260
                    have e4292 : I4277 (ad g 47) 0 = v3855 := by rw [eI4277, pp_ne _ _ (Or.inl (ly_ne hy (by decide) (by decide) (by decide)))]; exact e4261
                    have e4293 : I4277 (ad g 46) 1 = v3901 := by rw [eI4277, pp_ne _ _ (Or.inl (ly_ne hy (by decide) (by decide) (by decide)))]; exact e4262
                    have e4294 : I4277 (ad g 47) 1 = v3923 := by rw [eI4277, pp_ne _ _ (Or.inl (ly_ne hy (by decide) (by decide) (by decide)))]; exact e4263
                    have e4295 : I4277 (ad g 46) 2 = v3975 := by rw [eI4277, pp_ne _ _ (Or.inl (ly_ne hy (by decide) (by decide) (by decide)))]; exact e4264
                    have e4296 : I4277 (ad g 47) 2 = v4000 := by rw [eI4277, pp_ne _ _ (Or.inl (ly_ne hy (by decide) (by decide) (by decide)))]; exact e4265
                    have e4297 : I4277 (ad g 46) 3 = v4058 := by rw [eI4277, pp_ne _ _ (Or.inl (ly_ne hy (by decide) (by decide) (by decide)))]; exact e4266
                    have e4298 : I4277 (ad g 47) 3 = v4086 := by rw [eI4277, pp_ne _ _ (Or.inl (ly_ne hy (by decide) (by decide) (by decide)))]; exact e4267
                    have e4299 : I4277 (ad g 44) 0 = (vp_nar .boolean v4186) := by rw [eI4277, pp_ne _ _ (Or.inl (ly_ne hy (by decide) (by decide) (by decide)))]; exact e4268
                    have e4300 : I4277 (ad g 44) 1 = (vp_nar .boolean v4215) := by rw [eI4277, pp_ne _ _ (Or.inl (ly_ne hy (by decide) (by decide) (by decide)))]; exact e4269
                    have e4301 : I4277 (ad g 44) 2 = (vp_nar .boolean v4245) := by rw [eI4277, pp_ne _ _ (Or.inl (ly_ne hy (by decide) (by decide) (by decide)))]; exact e4270
                    have e4302 : I4277 (ad g 0) 68 = v4276 := by rw [eI4277, pp_self]
                    have fI4303 : FC g [0, 6, 7, 8, 9, 10, 11, 12, 13, 14, 15, 16, 17, 18, 19, 20, 21, 22, 23, 24, 25, 26, 27, 28, 29, 30, 31, 32, 33, 34, 37, 38, 44, 46, 47] I I4277 := by rw [eI4277]; exact FC_pp fI4271 (by decide)
                    have fQ4304 : FQ g [1, 2, 3, 4, 5, 6, 7, 8, 9, 10, 11, 12, 13, 14, 15, 16, 17, 18, 19, 51, 68] I I4277 := by rw [eI4277]; exact FQ_pp0 fQ4272 (by decide)
                    refine WP_aload_n dX11_town_365 rfl ?_
                    refine WQ_getim dX11_town_366 fX11_335 rfl (ly_is hy 0 11 rfl) e4290 ?_
                    exact WP_iret dX11_town_369 rfl ⟨rfl, fI4303, fJ4181, fQ4304, w3476, rfl, by
                      try simp only [e4278, e4279, e4280, e4281, e4282, e4283, e4284, e4285, e4286, e4287, e4288, e4289, e4290, e4291, e4292, e4293, e4294, e4295, e4296, e4297, e4298, e4299, e4300, e4301, e4302, e4179, ew3395, ew3396, ew3397]
                      have hb4 : ∀ e ∈ rsT, ∀ q : Nat, (q : Int) < (e.2.2 : Int) * S2.1 0 1 → (I3412 (ad g e.1) q).toInt = S2.1 e.2.1 q := hR.2.2.2.1
                      have hb5 : ∀ e ∈ rtT, ∀ q : Nat, (q : Int) < (e.2.2 : Int) * S2.1 0 2 → (I3412 (ad g e.1) q).toInt = S2.1 e.2.1 q := hR.2.2.2.2.1
                      refine Or.inr ⟨S2, hok, ?_, ⟨⟨?_, ?_, ?_, ?_, ?_⟩, fun q hq => ?_, ?_, ?_, ?_, ?_⟩, fun q hq => ?_, fun q hq => ?_, ?_, fun q hq => ?_, fun q hq => ?_, fun q hq => ?_, ?_⟩
                      · omega
                      · omega
                      · omega
                      · omega
                      · omega
                      · omega
                      · rw [eI4277, pp_off _ _ (ly_ne hy (by decide) (by decide) (by decide)), eI4246, pp_off _ _ (ly_ne hy (by decide) (by decide) (by decide)), eI4216, pp_off _ _ (ly_ne hy (by decide) (by decide) (by decide)), eI4187, pp_off _ _ (ly_ne hy (by decide) (by decide) (by decide)), FC_at hy g4155 6 (by decide) (by decide), FC_at hy g4121 6 (by decide) (by decide), eI4087, pp_off _ _ (ly_ne hy (by decide) (by decide) (by decide)), eI4059, pp_off _ _ (ly_ne hy (by decide) (by decide) (by decide)), eI4032, pp_off _ _ (ly_ne hy (by decide) (by decide) (by decide)), eI4001, pp_off _ _ (ly_ne hy (by decide) (by decide) (by decide)), eI3976, pp_off _ _ (ly_ne hy (by decide) (by decide) (by decide)), eI3952, pp_off _ _ (ly_ne hy (by decide) (by decide) (by decide)), eI3924, pp_off _ _ (ly_ne hy (by decide) (by decide) (by decide)), eI3902, pp_off _ _ (ly_ne hy (by decide) (by decide) (by decide)), eI3881, pp_off _ _ (ly_ne hy (by decide) (by decide) (by decide)), eI3856, pp_off _ _ (ly_ne hy (by decide) (by decide) (by decide)), eI3837, pp_off _ _ (ly_ne hy (by decide) (by decide) (by decide)), eI3819, pp_off _ _ (ly_ne hy (by decide) (by decide) (by decide)), FC_at hy g3794 6 (by decide) (by decide), FC_at hy g3772 6 (by decide) (by decide), FC_at hy g3750 6 (by decide) (by decide), FC_at hy g3728 6 (by decide) (by decide), FC_at hy g3706 6 (by decide) (by decide), FC_at hy g3684 6 (by decide) (by decide), FC_at hy g3662 6 (by decide) (by decide), FC_at hy g3640 6 (by decide) (by decide), FC_at hy g3618 6 (by decide) (by decide), FC_at hy g3596 6 (by decide) (by decide), FC_at hy g3574 6 (by decide) (by decide), FC_at hy g3552 6 (by decide) (by decide), FC_at hy g3530 6 (by decide) (by decide), d6 q hq]; exact hR.2.1 q hq
                      · intro e he q hq
                        have hmul := hb2
                        rcases (show e = (8, 2, 1) ∨ e = (9, 3, 1) ∨ e = (10, 4, 1) ∨ e = (11, 5, 1) ∨ e = (20, 6, 7) ∨ e = (24, 7, 7) ∨ e = (25, 8, 7) ∨ e = (26, 9, 7) by simpa [tsT] using he) with rfl | rfl | rfl | rfl | rfl | rfl | rfl | rfl
                        · show (I4277 (ad g 8) q).toInt = S2.1 2 q
                          have hq2 : (q : Int) < 1 * S2.1 0 1 := hq
                          rw [eI4277, pp_off _ _ (ly_ne hy (by decide) (by decide) (by decide)), eI4246, pp_off _ _ (ly_ne hy (by decide) (by decide) (by decide)), eI4216, pp_off _ _ (ly_ne hy (by decide) (by decide) (by decide)), eI4187, pp_off _ _ (ly_ne hy (by decide) (by decide) (by decide)), FC_at hy g4155 8 (by decide) (by decide), FC_at hy g4121 8 (by decide) (by decide), eI4087, pp_off _ _ (ly_ne hy (by decide) (by decide) (by decide)), eI4059, pp_off _ _ (ly_ne hy (by decide) (by decide) (by decide)), eI4032, pp_off _ _ (ly_ne hy (by decide) (by decide) (by decide)), eI4001, pp_off _ _ (ly_ne hy (by decide) (by decide) (by decide)), eI3976, pp_off _ _ (ly_ne hy (by decide) (by decide) (by decide)), eI3952, pp_off _ _ (ly_ne hy (by decide) (by decide) (by decide)), eI3924, pp_off _ _ (ly_ne hy (by decide) (by decide) (by decide)), eI3902, pp_off _ _ (ly_ne hy (by decide) (by decide) (by decide)), eI3881, pp_off _ _ (ly_ne hy (by decide) (by decide) (by decide)), eI3856, pp_off _ _ (ly_ne hy (by decide) (by decide) (by decide)), eI3837, pp_off _ _ (ly_ne hy (by decide) (by decide) (by decide)), eI3819, pp_off _ _ (ly_ne hy (by decide) (by decide) (by decide)), FC_at hy g3794 8 (by decide) (by decide), FC_at hy g3772 8 (by decide) (by decide), FC_at hy g3750 8 (by decide) (by decide), FC_at hy g3728 8 (by decide) (by decide), FC_at hy g3706 8 (by decide) (by decide), FC_at hy g3684 8 (by decide) (by decide), FC_at hy g3662 8 (by decide) (by decide), FC_at hy g3640 8 (by decide) (by decide), FC_at hy g3618 8 (by decide) (by decide), FC_at hy g3596 8 (by decide) (by decide), FC_at hy g3574 8 (by decide) (by decide), FC_at hy g3552 8 (by decide) (by decide), d8 q (by omega)]
                          exact hb4 (14, 2, 1) (by decide) q hq
                        · show (I4277 (ad g 9) q).toInt = S2.1 3 q
                          have hq2 : (q : Int) < 1 * S2.1 0 1 := hq
                          rw [eI4277, pp_off _ _ (ly_ne hy (by decide) (by decide) (by decide)), eI4246, pp_off _ _ (ly_ne hy (by decide) (by decide) (by decide)), eI4216, pp_off _ _ (ly_ne hy (by decide) (by decide) (by decide)), eI4187, pp_off _ _ (ly_ne hy (by decide) (by decide) (by decide)), FC_at hy g4155 9 (by decide) (by decide), FC_at hy g4121 9 (by decide) (by decide), eI4087, pp_off _ _ (ly_ne hy (by decide) (by decide) (by decide)), eI4059, pp_off _ _ (ly_ne hy (by decide) (by decide) (by decide)), eI4032, pp_off _ _ (ly_ne hy (by decide) (by decide) (by decide)), eI4001, pp_off _ _ (ly_ne hy (by decide) (by decide) (by decide)), eI3976, pp_off _ _ (ly_ne hy (by decide) (by decide) (by decide)), eI3952, pp_off _ _ (ly_ne hy (by decide) (by decide) (by decide)), eI3924, pp_off _ _ (ly_ne hy (by decide) (by decide) (by decide)), eI3902, pp_off _ _ (ly_ne hy (by decide) (by decide) (by decide)), eI3881, pp_off _ _ (ly_ne hy (by decide) (by decide) (by decide)), eI3856, pp_off _ _ (ly_ne hy (by decide) (by decide) (by decide)), eI3837, pp_off _ _ (ly_ne hy (by decide) (by decide) (by decide)), eI3819, pp_off _ _ (ly_ne hy (by decide) (by decide) (by decide)), FC_at hy g3794 9 (by decide) (by decide), FC_at hy g3772 9 (by decide) (by decide), FC_at hy g3750 9 (by decide) (by decide), FC_at hy g3728 9 (by decide) (by decide), FC_at hy g3706 9 (by decide) (by decide), FC_at hy g3684 9 (by decide) (by decide), FC_at hy g3662 9 (by decide) (by decide), FC_at hy g3640 9 (by decide) (by decide), FC_at hy g3618 9 (by decide) (by decide), FC_at hy g3596 9 (by decide) (by decide), FC_at hy g3574 9 (by decide) (by decide), d9 q (by omega)]
                          exact hb4 (15, 3, 1) (by decide) q hq
                        · show (I4277 (ad g 10) q).toInt = S2.1 4 q
                          have hq2 : (q : Int) < 1 * S2.1 0 1 := hq
                          rw [eI4277, pp_off _ _ (ly_ne hy (by decide) (by decide) (by decide)), eI4246, pp_off _ _ (ly_ne hy (by decide) (by decide) (by decide)), eI4216, pp_off _ _ (ly_ne hy (by decide) (by decide) (by decide)), eI4187, pp_off _ _ (ly_ne hy (by decide) (by decide) (by decide)), FC_at hy g4155 10 (by decide) (by decide), FC_at hy g4121 10 (by decide) (by decide), eI4087, pp_off _ _ (ly_ne hy (by decide) (by decide) (by decide)), eI4059, pp_off _ _ (ly_ne hy (by decide) (by decide) (by decide)), eI4032, pp_off _ _ (ly_ne hy (by decide) (by decide) (by decide)), eI4001, pp_off _ _ (ly_ne hy (by decide) (by decide) (by decide)), eI3976, pp_off _ _ (ly_ne hy (by decide) (by decide) (by decide)), eI3952, pp_off _ _ (ly_ne hy (by decide) (by decide) (by decide)), eI3924, pp_off _ _ (ly_ne hy (by decide) (by decide) (by decide)), eI3902, pp_off _ _ (ly_ne hy (by decide) (by decide) (by decide)), eI3881, pp_off _ _ (ly_ne hy (by decide) (by decide) (by decide)), eI3856, pp_off _ _ (ly_ne hy (by decide) (by decide) (by decide)), eI3837, pp_off _ _ (ly_ne hy (by decide) (by decide) (by decide)), eI3819, pp_off _ _ (ly_ne hy (by decide) (by decide) (by decide)), FC_at hy g3794 10 (by decide) (by decide), FC_at hy g3772 10 (by decide) (by decide), FC_at hy g3750 10 (by decide) (by decide), FC_at hy g3728 10 (by decide) (by decide), FC_at hy g3706 10 (by decide) (by decide), FC_at hy g3684 10 (by decide) (by decide), FC_at hy g3662 10 (by decide) (by decide), FC_at hy g3640 10 (by decide) (by decide), FC_at hy g3618 10 (by decide) (by decide), FC_at hy g3596 10 (by decide) (by decide), d10 q (by omega)]
                          exact hb4 (16, 4, 1) (by decide) q hq
                        · show (I4277 (ad g 11) q).toInt = S2.1 5 q
                          have hq2 : (q : Int) < 1 * S2.1 0 1 := hq
                          rw [eI4277, pp_off _ _ (ly_ne hy (by decide) (by decide) (by decide)), eI4246, pp_off _ _ (ly_ne hy (by decide) (by decide) (by decide)), eI4216, pp_off _ _ (ly_ne hy (by decide) (by decide) (by decide)), eI4187, pp_off _ _ (ly_ne hy (by decide) (by decide) (by decide)), FC_at hy g4155 11 (by decide) (by decide), FC_at hy g4121 11 (by decide) (by decide), eI4087, pp_off _ _ (ly_ne hy (by decide) (by decide) (by decide)), eI4059, pp_off _ _ (ly_ne hy (by decide) (by decide) (by decide)), eI4032, pp_off _ _ (ly_ne hy (by decide) (by decide) (by decide)), eI4001, pp_off _ _ (ly_ne hy (by decide) (by decide) (by decide)), eI3976, pp_off _ _ (ly_ne hy (by decide) (by decide) (by decide)), eI3952, pp_off _ _ (ly_ne hy (by decide) (by decide) (by decide)), eI3924, pp_off _ _ (ly_ne hy (by decide) (by decide) (by decide)), eI3902, pp_off _ _ (ly_ne hy (by decide) (by decide) (by decide)), eI3881, pp_off _ _ (ly_ne hy (by decide) (by decide) (by decide)), eI3856, pp_off _ _ (ly_ne hy (by decide) (by decide) (by decide)), eI3837, pp_off _ _ (ly_ne hy (by decide) (by decide) (by decide)), eI3819, pp_off _ _ (ly_ne hy (by decide) (by decide) (by decide)), FC_at hy g3794 11 (by decide) (by decide), FC_at hy g3772 11 (by decide) (by decide), FC_at hy g3750 11 (by decide) (by decide), FC_at hy g3728 11 (by decide) (by decide), FC_at hy g3706 11 (by decide) (by decide), FC_at hy g3684 11 (by decide) (by decide), FC_at hy g3662 11 (by decide) (by decide), FC_at hy g3640 11 (by decide) (by decide), FC_at hy g3618 11 (by decide) (by decide), d11 q (by omega)]
                          exact hb4 (17, 5, 1) (by decide) q hq
                        · show (I4277 (ad g 20) q).toInt = S2.1 6 q
                          have hq2 : (q : Int) < 7 * S2.1 0 1 := hq
                          rw [eI4277, pp_off _ _ (ly_ne hy (by decide) (by decide) (by decide)), eI4246, pp_off _ _ (ly_ne hy (by decide) (by decide) (by decide)), eI4216, pp_off _ _ (ly_ne hy (by decide) (by decide) (by decide)), eI4187, pp_off _ _ (ly_ne hy (by decide) (by decide) (by decide)), FC_at hy g4155 20 (by decide) (by decide), FC_at hy g4121 20 (by decide) (by decide), eI4087, pp_off _ _ (ly_ne hy (by decide) (by decide) (by decide)), eI4059, pp_off _ _ (ly_ne hy (by decide) (by decide) (by decide)), eI4032, pp_off _ _ (ly_ne hy (by decide) (by decide) (by decide)), eI4001, pp_off _ _ (ly_ne hy (by decide) (by decide) (by decide)), eI3976, pp_off _ _ (ly_ne hy (by decide) (by decide) (by decide)), eI3952, pp_off _ _ (ly_ne hy (by decide) (by decide) (by decide)), eI3924, pp_off _ _ (ly_ne hy (by decide) (by decide) (by decide)), eI3902, pp_off _ _ (ly_ne hy (by decide) (by decide) (by decide)), eI3881, pp_off _ _ (ly_ne hy (by decide) (by decide) (by decide)), eI3856, pp_off _ _ (ly_ne hy (by decide) (by decide) (by decide)), eI3837, pp_off _ _ (ly_ne hy (by decide) (by decide) (by decide)), eI3819, pp_off _ _ (ly_ne hy (by decide) (by decide) (by decide)), FC_at hy g3794 20 (by decide) (by decide), FC_at hy g3772 20 (by decide) (by decide), FC_at hy g3750 20 (by decide) (by decide), FC_at hy g3728 20 (by decide) (by decide), FC_at hy g3706 20 (by decide) (by decide), FC_at hy g3684 20 (by decide) (by decide), d20 q (by omega)]
                          exact hb4 (27, 6, 7) (by decide) q hq
                        · show (I4277 (ad g 24) q).toInt = S2.1 7 q
                          have hq2 : (q : Int) < 7 * S2.1 0 1 := hq
                          rw [eI4277, pp_off _ _ (ly_ne hy (by decide) (by decide) (by decide)), eI4246, pp_off _ _ (ly_ne hy (by decide) (by decide) (by decide)), eI4216, pp_off _ _ (ly_ne hy (by decide) (by decide) (by decide)), eI4187, pp_off _ _ (ly_ne hy (by decide) (by decide) (by decide)), FC_at hy g4155 24 (by decide) (by decide), FC_at hy g4121 24 (by decide) (by decide), eI4087, pp_off _ _ (ly_ne hy (by decide) (by decide) (by decide)), eI4059, pp_off _ _ (ly_ne hy (by decide) (by decide) (by decide)), eI4032, pp_off _ _ (ly_ne hy (by decide) (by decide) (by decide)), eI4001, pp_off _ _ (ly_ne hy (by decide) (by decide) (by decide)), eI3976, pp_off _ _ (ly_ne hy (by decide) (by decide) (by decide)), eI3952, pp_off _ _ (ly_ne hy (by decide) (by decide) (by decide)), eI3924, pp_off _ _ (ly_ne hy (by decide) (by decide) (by decide)), eI3902, pp_off _ _ (ly_ne hy (by decide) (by decide) (by decide)), eI3881, pp_off _ _ (ly_ne hy (by decide) (by decide) (by decide)), eI3856, pp_off _ _ (ly_ne hy (by decide) (by decide) (by decide)), eI3837, pp_off _ _ (ly_ne hy (by decide) (by decide) (by decide)), eI3819, pp_off _ _ (ly_ne hy (by decide) (by decide) (by decide)), FC_at hy g3794 24 (by decide) (by decide), FC_at hy g3772 24 (by decide) (by decide), d24 q (by omega)]
                          exact hb4 (30, 7, 7) (by decide) q hq
                        · show (I4277 (ad g 25) q).toInt = S2.1 8 q
                          have hq2 : (q : Int) < 7 * S2.1 0 1 := hq
                          rw [eI4277, pp_off _ _ (ly_ne hy (by decide) (by decide) (by decide)), eI4246, pp_off _ _ (ly_ne hy (by decide) (by decide) (by decide)), eI4216, pp_off _ _ (ly_ne hy (by decide) (by decide) (by decide)), eI4187, pp_off _ _ (ly_ne hy (by decide) (by decide) (by decide)), FC_at hy g4155 25 (by decide) (by decide), FC_at hy g4121 25 (by decide) (by decide), eI4087, pp_off _ _ (ly_ne hy (by decide) (by decide) (by decide)), eI4059, pp_off _ _ (ly_ne hy (by decide) (by decide) (by decide)), eI4032, pp_off _ _ (ly_ne hy (by decide) (by decide) (by decide)), eI4001, pp_off _ _ (ly_ne hy (by decide) (by decide) (by decide)), eI3976, pp_off _ _ (ly_ne hy (by decide) (by decide) (by decide)), eI3952, pp_off _ _ (ly_ne hy (by decide) (by decide) (by decide)), eI3924, pp_off _ _ (ly_ne hy (by decide) (by decide) (by decide)), eI3902, pp_off _ _ (ly_ne hy (by decide) (by decide) (by decide)), eI3881, pp_off _ _ (ly_ne hy (by decide) (by decide) (by decide)), eI3856, pp_off _ _ (ly_ne hy (by decide) (by decide) (by decide)), eI3837, pp_off _ _ (ly_ne hy (by decide) (by decide) (by decide)), eI3819, pp_off _ _ (ly_ne hy (by decide) (by decide) (by decide)), FC_at hy g3794 25 (by decide) (by decide), d25 q (by omega)]
                          exact hb4 (31, 8, 7) (by decide) q hq
                        · show (I4277 (ad g 26) q).toInt = S2.1 9 q
                          have hq2 : (q : Int) < 7 * S2.1 0 1 := hq
                          rw [eI4277, pp_off _ _ (ly_ne hy (by decide) (by decide) (by decide)), eI4246, pp_off _ _ (ly_ne hy (by decide) (by decide) (by decide)), eI4216, pp_off _ _ (ly_ne hy (by decide) (by decide) (by decide)), eI4187, pp_off _ _ (ly_ne hy (by decide) (by decide) (by decide)), FC_at hy g4155 26 (by decide) (by decide), FC_at hy g4121 26 (by decide) (by decide), eI4087, pp_off _ _ (ly_ne hy (by decide) (by decide) (by decide)), eI4059, pp_off _ _ (ly_ne hy (by decide) (by decide) (by decide)), eI4032, pp_off _ _ (ly_ne hy (by decide) (by decide) (by decide)), eI4001, pp_off _ _ (ly_ne hy (by decide) (by decide) (by decide)), eI3976, pp_off _ _ (ly_ne hy (by decide) (by decide) (by decide)), eI3952, pp_off _ _ (ly_ne hy (by decide) (by decide) (by decide)), eI3924, pp_off _ _ (ly_ne hy (by decide) (by decide) (by decide)), eI3902, pp_off _ _ (ly_ne hy (by decide) (by decide) (by decide)), eI3881, pp_off _ _ (ly_ne hy (by decide) (by decide) (by decide)), eI3856, pp_off _ _ (ly_ne hy (by decide) (by decide) (by decide)), eI3837, pp_off _ _ (ly_ne hy (by decide) (by decide) (by decide)), eI3819, pp_off _ _ (ly_ne hy (by decide) (by decide) (by decide)), d26 q (by omega)]
                          exact hb4 (32, 9, 7) (by decide) q hq
                      · intro e he q hq
                        have hmul := hb3
                        rcases (show e = (12, 10, 1) ∨ e = (13, 11, 1) ∨ e = (21, 12, 7) ∨ e = (23, 13, 7) by simpa [ttT] using he) with rfl | rfl | rfl | rfl
                        · show (I4277 (ad g 12) q).toInt = S2.1 10 q
                          have hq2 : (q : Int) < 1 * S2.1 0 2 := hq
                          rw [eI4277, pp_off _ _ (ly_ne hy (by decide) (by decide) (by decide)), eI4246, pp_off _ _ (ly_ne hy (by decide) (by decide) (by decide)), eI4216, pp_off _ _ (ly_ne hy (by decide) (by decide) (by decide)), eI4187, pp_off _ _ (ly_ne hy (by decide) (by decide) (by decide)), FC_at hy g4155 12 (by decide) (by decide), FC_at hy g4121 12 (by decide) (by decide), eI4087, pp_off _ _ (ly_ne hy (by decide) (by decide) (by decide)), eI4059, pp_off _ _ (ly_ne hy (by decide) (by decide) (by decide)), eI4032, pp_off _ _ (ly_ne hy (by decide) (by decide) (by decide)), eI4001, pp_off _ _ (ly_ne hy (by decide) (by decide) (by decide)), eI3976, pp_off _ _ (ly_ne hy (by decide) (by decide) (by decide)), eI3952, pp_off _ _ (ly_ne hy (by decide) (by decide) (by decide)), eI3924, pp_off _ _ (ly_ne hy (by decide) (by decide) (by decide)), eI3902, pp_off _ _ (ly_ne hy (by decide) (by decide) (by decide)), eI3881, pp_off _ _ (ly_ne hy (by decide) (by decide) (by decide)), eI3856, pp_off _ _ (ly_ne hy (by decide) (by decide) (by decide)), eI3837, pp_off _ _ (ly_ne hy (by decide) (by decide) (by decide)), eI3819, pp_off _ _ (ly_ne hy (by decide) (by decide) (by decide)), FC_at hy g3794 12 (by decide) (by decide), FC_at hy g3772 12 (by decide) (by decide), FC_at hy g3750 12 (by decide) (by decide), FC_at hy g3728 12 (by decide) (by decide), FC_at hy g3706 12 (by decide) (by decide), FC_at hy g3684 12 (by decide) (by decide), FC_at hy g3662 12 (by decide) (by decide), FC_at hy g3640 12 (by decide) (by decide), d12 q (by omega)]
                          exact hb5 (18, 10, 1) (by decide) q hq
                        · show (I4277 (ad g 13) q).toInt = S2.1 11 q
                          have hq2 : (q : Int) < 1 * S2.1 0 2 := hq
                          rw [eI4277, pp_off _ _ (ly_ne hy (by decide) (by decide) (by decide)), eI4246, pp_off _ _ (ly_ne hy (by decide) (by decide) (by decide)), eI4216, pp_off _ _ (ly_ne hy (by decide) (by decide) (by decide)), eI4187, pp_off _ _ (ly_ne hy (by decide) (by decide) (by decide)), FC_at hy g4155 13 (by decide) (by decide), FC_at hy g4121 13 (by decide) (by decide), eI4087, pp_off _ _ (ly_ne hy (by decide) (by decide) (by decide)), eI4059, pp_off _ _ (ly_ne hy (by decide) (by decide) (by decide)), eI4032, pp_off _ _ (ly_ne hy (by decide) (by decide) (by decide)), eI4001, pp_off _ _ (ly_ne hy (by decide) (by decide) (by decide)), eI3976, pp_off _ _ (ly_ne hy (by decide) (by decide) (by decide)), eI3952, pp_off _ _ (ly_ne hy (by decide) (by decide) (by decide)), eI3924, pp_off _ _ (ly_ne hy (by decide) (by decide) (by decide)), eI3902, pp_off _ _ (ly_ne hy (by decide) (by decide) (by decide)), eI3881, pp_off _ _ (ly_ne hy (by decide) (by decide) (by decide)), eI3856, pp_off _ _ (ly_ne hy (by decide) (by decide) (by decide)), eI3837, pp_off _ _ (ly_ne hy (by decide) (by decide) (by decide)), eI3819, pp_off _ _ (ly_ne hy (by decide) (by decide) (by decide)), FC_at hy g3794 13 (by decide) (by decide), FC_at hy g3772 13 (by decide) (by decide), FC_at hy g3750 13 (by decide) (by decide), FC_at hy g3728 13 (by decide) (by decide), FC_at hy g3706 13 (by decide) (by decide), FC_at hy g3684 13 (by decide) (by decide), FC_at hy g3662 13 (by decide) (by decide), d13 q (by omega)]
                          exact hb5 (19, 11, 1) (by decide) q hq
                        · show (I4277 (ad g 21) q).toInt = S2.1 12 q
                          have hq2 : (q : Int) < 7 * S2.1 0 2 := hq
                          rw [eI4277, pp_off _ _ (ly_ne hy (by decide) (by decide) (by decide)), eI4246, pp_off _ _ (ly_ne hy (by decide) (by decide) (by decide)), eI4216, pp_off _ _ (ly_ne hy (by decide) (by decide) (by decide)), eI4187, pp_off _ _ (ly_ne hy (by decide) (by decide) (by decide)), FC_at hy g4155 21 (by decide) (by decide), FC_at hy g4121 21 (by decide) (by decide), eI4087, pp_off _ _ (ly_ne hy (by decide) (by decide) (by decide)), eI4059, pp_off _ _ (ly_ne hy (by decide) (by decide) (by decide)), eI4032, pp_off _ _ (ly_ne hy (by decide) (by decide) (by decide)), eI4001, pp_off _ _ (ly_ne hy (by decide) (by decide) (by decide)), eI3976, pp_off _ _ (ly_ne hy (by decide) (by decide) (by decide)), eI3952, pp_off _ _ (ly_ne hy (by decide) (by decide) (by decide)), eI3924, pp_off _ _ (ly_ne hy (by decide) (by decide) (by decide)), eI3902, pp_off _ _ (ly_ne hy (by decide) (by decide) (by decide)), eI3881, pp_off _ _ (ly_ne hy (by decide) (by decide) (by decide)), eI3856, pp_off _ _ (ly_ne hy (by decide) (by decide) (by decide)), eI3837, pp_off _ _ (ly_ne hy (by decide) (by decide) (by decide)), eI3819, pp_off _ _ (ly_ne hy (by decide) (by decide) (by decide)), FC_at hy g3794 21 (by decide) (by decide), FC_at hy g3772 21 (by decide) (by decide), FC_at hy g3750 21 (by decide) (by decide), FC_at hy g3728 21 (by decide) (by decide), FC_at hy g3706 21 (by decide) (by decide), d21 q (by omega)]
                          exact hb5 (28, 12, 7) (by decide) q hq
                        · show (I4277 (ad g 23) q).toInt = S2.1 13 q
                          have hq2 : (q : Int) < 7 * S2.1 0 2 := hq
                          rw [eI4277, pp_off _ _ (ly_ne hy (by decide) (by decide) (by decide)), eI4246, pp_off _ _ (ly_ne hy (by decide) (by decide) (by decide)), eI4216, pp_off _ _ (ly_ne hy (by decide) (by decide) (by decide)), eI4187, pp_off _ _ (ly_ne hy (by decide) (by decide) (by decide)), FC_at hy g4155 23 (by decide) (by decide), FC_at hy g4121 23 (by decide) (by decide), eI4087, pp_off _ _ (ly_ne hy (by decide) (by decide) (by decide)), eI4059, pp_off _ _ (ly_ne hy (by decide) (by decide) (by decide)), eI4032, pp_off _ _ (ly_ne hy (by decide) (by decide) (by decide)), eI4001, pp_off _ _ (ly_ne hy (by decide) (by decide) (by decide)), eI3976, pp_off _ _ (ly_ne hy (by decide) (by decide) (by decide)), eI3952, pp_off _ _ (ly_ne hy (by decide) (by decide) (by decide)), eI3924, pp_off _ _ (ly_ne hy (by decide) (by decide) (by decide)), eI3902, pp_off _ _ (ly_ne hy (by decide) (by decide) (by decide)), eI3881, pp_off _ _ (ly_ne hy (by decide) (by decide) (by decide)), eI3856, pp_off _ _ (ly_ne hy (by decide) (by decide) (by decide)), eI3837, pp_off _ _ (ly_ne hy (by decide) (by decide) (by decide)), eI3819, pp_off _ _ (ly_ne hy (by decide) (by decide) (by decide)), FC_at hy g3794 23 (by decide) (by decide), FC_at hy g3772 23 (by decide) (by decide), FC_at hy g3750 23 (by decide) (by decide), d23 q (by omega)]
                          exact hb5 (29, 13, 7) (by decide) q hq
                      · intro q hq; rw [FC_at hy g4156 2 (by decide) (by decide), eJ4149, pp_off _ _ (ly_ne hy (by decide) (by decide) (by decide)), FC_at hy g4122 2 (by decide) (by decide), FC_at hy g3795 2 (by decide) (by decide), FC_at hy g3773 2 (by decide) (by decide), FC_at hy g3751 2 (by decide) (by decide), FC_at hy g3729 2 (by decide) (by decide), FC_at hy g3707 2 (by decide) (by decide), FC_at hy g3685 2 (by decide) (by decide), FC_at hy g3663 2 (by decide) (by decide), FC_at hy g3641 2 (by decide) (by decide), FC_at hy g3619 2 (by decide) (by decide), FC_at hy g3597 2 (by decide) (by decide), FC_at hy g3575 2 (by decide) (by decide), FC_at hy g3553 2 (by decide) (by decide), FC_at hy g3531 2 (by decide) (by decide), FC_at hy g3509 2 (by decide) (by decide), FC_at hy kG 2 (by decide) (by decide), jA q (by omega)]; exact hR.2.2.2.2.2.2.2.1 q hq
                      · intro q hq; rw [FC_at hy g4156 3 (by decide) (by decide), eJ4149, pp_off _ _ (ly_ne hy (by decide) (by decide) (by decide)), FC_at hy g4122 3 (by decide) (by decide), FC_at hy g3795 3 (by decide) (by decide), FC_at hy g3773 3 (by decide) (by decide), FC_at hy g3751 3 (by decide) (by decide), FC_at hy g3729 3 (by decide) (by decide), FC_at hy g3707 3 (by decide) (by decide), FC_at hy g3685 3 (by decide) (by decide), FC_at hy g3663 3 (by decide) (by decide), FC_at hy g3641 3 (by decide) (by decide), FC_at hy g3619 3 (by decide) (by decide), FC_at hy g3597 3 (by decide) (by decide), FC_at hy g3575 3 (by decide) (by decide), FC_at hy g3553 3 (by decide) (by decide), FC_at hy g3531 3 (by decide) (by decide), FC_at hy g3509 3 (by decide) (by decide), kA q (by omega)]; exact hR.2.2.2.2.2.2.2.2 q hq
                      · rw [eI4277, pp_off _ _ (ly_ne hy (by decide) (by decide) (by decide)), eI4246, pp_off _ _ (ly_ne hy (by decide) (by decide) (by decide)), eI4216, pp_off _ _ (ly_ne hy (by decide) (by decide) (by decide)), eI4187, pp_off _ _ (ly_ne hy (by decide) (by decide) (by decide)), FC_at hy g4155 22 (by decide) (by decide), FC_at hy g4121 22 (by decide) (by decide), eI4087, pp_off _ _ (ly_ne hy (by decide) (by decide) (by decide)), eI4059, pp_off _ _ (ly_ne hy (by decide) (by decide) (by decide)), eI4032, pp_off _ _ (ly_ne hy (by decide) (by decide) (by decide)), eI4001, pp_off _ _ (ly_ne hy (by decide) (by decide) (by decide)), eI3976, pp_off _ _ (ly_ne hy (by decide) (by decide) (by decide)), eI3952, pp_off _ _ (ly_ne hy (by decide) (by decide) (by decide)), eI3924, pp_off _ _ (ly_ne hy (by decide) (by decide) (by decide)), eI3902, pp_off _ _ (ly_ne hy (by decide) (by decide) (by decide)), eI3881, pp_off _ _ (ly_ne hy (by decide) (by decide) (by decide)), eI3856, pp_off _ _ (ly_ne hy (by decide) (by decide) (by decide)), eI3837, pp_off _ _ (ly_ne hy (by decide) (by decide) (by decide)), eI3819, pp_off _ _ (ly_ne hy (by decide) (by decide) (by decide)), FC_at hy g3794 22 (by decide) (by decide), FC_at hy g3772 22 (by decide) (by decide), FC_at hy g3750 22 (by decide) (by decide), FC_at hy g3728 22 (by decide) (by decide), d22 q (by omega)]; exact hb5 (28, 12, 7) (by decide) q hq
                      · rw [eI4277, pp_off _ _ (ly_ne hy (by decide) (by decide) (by decide)), eI4246, pp_off _ _ (ly_ne hy (by decide) (by decide) (by decide)), eI4216, pp_off _ _ (ly_ne hy (by decide) (by decide) (by decide)), eI4187, pp_off _ _ (ly_ne hy (by decide) (by decide) (by decide)), FC_at hy g4155 38 (by decide) (by decide)]
                        unfold NW0
                        by_cases h9 : q < 28 ∨ 32 ≤ q
                        · rw [if_pos h9, p4118.1 q hq h9]
                          split
                          · rw [d10b q (by omega)]; exact hb4 (16, 4, 1) (by decide) q (by show (q : Int) < 1 * S2.1 0 1; omega)
                          · rfl
                        · rw [if_neg h9, p4118.2 q (by omega) (by omega)]
                          rcases (show q = 28 ∨ q = 29 ∨ q = 30 ∨ q = 31 by omega) with rfl | rfl | rfl | rfl
                          · rw [e4101]; omega
                          · rw [e4104]; omega
                          · rw [e4107]; omega
                          · rw [e4110]; omega
                      · omega
                      · rcases (show q = 0 ∨ q = 1 ∨ q = 2 by omega) with rfl | rfl | rfl
                        · first | exact narz (by omega) | (rw [e4299]; exact narz (by omega))
                        · first | exact narz (by omega) | (rw [e4300]; exact narz (by omega))
                        · first | exact narz (by omega) | (rw [e4301]; exact narz (by omega))
                      · rw [eI4277, pp_off _ _ (ly_ne hy (by decide) (by decide) (by decide)), eI4246, pp_off _ _ (ly_ne hy (by decide) (by decide) (by decide)), eI4216, pp_off _ _ (ly_ne hy (by decide) (by decide) (by decide)), eI4187, pp_off _ _ (ly_ne hy (by decide) (by decide) (by decide))]; exact p4152 q hq
                      · rcases (show q = 0 ∨ q = 1 ∨ q = 2 ∨ q = 3 by omega) with rfl | rfl | rfl | rfl
                        · constructor <;> first | omega | (rw [e4291]; omega) | (rw [e4292]; omega)
                        · constructor <;> first | omega | (rw [e4293]; omega) | (rw [e4294]; omega)
                        · constructor <;> first | omega | (rw [e4295]; omega) | (rw [e4296]; omega)
                        · constructor <;> first | omega | (rw [e4297]; omega) | (rw [e4298]; omega)
                      · omega⟩
                  · refine WP_aload_n dX11_town_114 rfl ?_
                    refine WP_getr dX11_town_115 fX11_230 rfl (ly_is hy 0 11 rfl) (rf hr 0 21 3 (by decide)) ?_
                    refine WP_iload_n dX11_town_118 rfl ?_
                    refine WP_aload_n dX11_town_119 rfl ?_
                    refine WP_getr dX11_town_120 fX11_129 rfl (ly_is hy 0 11 rfl) (rf hr 0 23 5 (by decide)) ?_
                    refine WP_iload_n dX11_town_123 rfl ?_
                    refine WE_la dX11_town_124 (ly_is hy 5 14 rfl) (ly_n hy 5 3 rfl) (by omega) (by omega) (fun l4305 el4305 => ?_)
                    refine WE_ls dX11_town_125 (ly_is hy 3 14 rfl) (ly_n hy 3 3 rfl) (by omega) (by omega) (fun J4306 eJ4306 => ?_)
                    have e4307 : J4306 (ad g 5) i3500.toInt.toNat = l4305 := by rw [eJ4306, pp_ne _ _ (Or.inl (ly_ne hy (by decide) (by decide) (by decide)))]; exact el4305
                    have fJ4308 : FC g [0, 2, 3, 4, 5] J J4306 := by rw [eJ4306]; exact FC_pp fJ3502 (by decide)
                    refine WP_iinc (ls' := [(0, _), (1, _)]) dX11_town_126 rfl (by decide) rfl ?_
                    have hv4309 : (i3500 + Int32.ofInt (1)).toInt = i3500.toInt + (1) := ia_n rfl (by omega) (by omega)
                    generalize i3500 + Int32.ofInt (1) = v4309 at hv4309 ⊢
                    refine WP_goto 106 dX11_town_129 rfl ?_
                    refine WP_sub (fc rfl (fc rfl fn)) (ihlp3503 v4309 J4306 fJ4308 ?_ ?_)
                    · try simp only [e3478, e3479, e3480, ew3395, ew3396, ew3397]
                      refine ⟨k2 + 1, by omega, by omega, fun q hq => ?_, by rw [eJ4306]; exact FC_pp kF (by decide), by rw [eJ4306]; exact FC_pp kG (by decide)⟩
                      rw [eJ4306, show i3500.toInt.toNat = k2 by omega, pp_at]
                      split
                      · rename_i e9
                        rw [e9, ← el4305, show i3500.toInt.toNat = k2 by omega, FC_at hy kF 5 (by decide) (by decide)]
                      · exact kA q (by omega)
                    · try simp only [e3478, e3479, e3480, ew3395, ew3396, ew3397]
                      omega
              refine WP_sub (fc rfl (fc rfl fn)) (lp3503 _ v3499 J3495 fJ3496 ?_ (Nat.lt_succ_self _))
              · try simp only [e3478, e3479, e3480, ew3395, ew3396, ew3397]
                exact ⟨0, by omega, by omega, fun q h => absurd h (Nat.not_lt_zero _), FC_mono jF (by decide), FC_rf⟩
            · refine WP_aload_n dX11_town_86 rfl ?_
              refine WP_getr dX11_town_87 fX11_227 rfl (ly_is hy 0 11 rfl) (rf hr 0 20 2 (by decide)) ?_
              refine WP_iload_n dX11_town_90 rfl ?_
              refine WP_aload_n dX11_town_91 rfl ?_
              refine WP_getr dX11_town_92 fX11_91 rfl (ly_is hy 0 11 rfl) (rf hr 0 22 4 (by decide)) ?_
              refine WP_iload_n dX11_town_95 rfl ?_
              refine WE_la dX11_town_96 (ly_is hy 4 14 rfl) (ly_n hy 4 4 rfl) (by omega) (by omega) (fun l4310 el4310 => ?_)
              refine WE_ls dX11_town_97 (ly_is hy 2 14 rfl) (ly_n hy 2 4 rfl) (by omega) (by omega) (fun J4311 eJ4311 => ?_)
              have e4312 : J4311 (ad g 4) i3494.toInt.toNat = l4310 := by rw [eJ4311, pp_ne _ _ (Or.inl (ly_ne hy (by decide) (by decide) (by decide)))]; exact el4310
              have fJ4313 : FC g [0, 2, 3, 4, 5] J J4311 := by rw [eJ4311]; exact FC_pp fJ3496 (by decide)
              refine WP_iinc (ls' := [(0, _), (1, _)]) dX11_town_98 rfl (by decide) rfl ?_
              have hv4314 : (i3494 + Int32.ofInt (1)).toInt = i3494.toInt + (1) := ia_n rfl (by omega) (by omega)
              generalize i3494 + Int32.ofInt (1) = v4314 at hv4314 ⊢
              refine WP_goto 78 dX11_town_101 rfl ?_
              refine WP_sub (fc rfl (fc rfl fn)) (ihlp3497 v4314 J4311 fJ4313 ?_ ?_)
              · try simp only [e3478, e3479, e3480, ew3395, ew3396, ew3397]
                refine ⟨k + 1, by omega, by omega, fun q hq => ?_, by rw [eJ4311]; exact FC_pp jF (by decide)⟩
                rw [eJ4311, show i3494.toInt.toNat = k by omega, pp_at]
                split
                · rename_i e9
                  rw [e9, ← el4310, show i3494.toInt.toNat = k by omega, FC_at hy jF 4 (by decide) (by decide)]
                · exact jA q (by omega)
              · try simp only [e3478, e3479, e3480, ew3395, ew3396, ew3397]
                omega
        refine WP_sub (fc rfl (fc rfl fn)) (lp3497 _ v3493 J3413 fJ3419 ?_ (Nat.lt_succ_self _))
        · try simp only [e3478, e3479, e3480, ew3395, ew3396, ew3397]
          exact ⟨0, by omega, by omega, fun q h => absurd h (Nat.not_lt_zero _), FC_rf⟩
      · refine WQ_iconst (0) (0) dX11_town_60 rfl rfl (fun v4315 hv4315 => ?_)
        refine WP_goto 65 dX11_town_61 rfl ?_
        refine WQ_puti dX11_town_65 fX11_224 rfl rfl (ly_is hy 0 11 rfl) (fun I4316 eI4316 => ?_)
        have e4317 : I4316 (ad g 0) 1 = w3407 := by rw [eI4316, pp_ne _ _ (Or.inr (by decide))]; exact e3446
        have e4318 : I4316 (ad g 0) 8 = w3421 := by rw [eI4316, pp_ne _ _ (Or.inr (by decide))]; exact e3447
        have e4319 : I4316 (ad g 0) 9 = w3422 := by rw [eI4316, pp_ne _ _ (Or.inr (by decide))]; exact e3448
        have e4320 : I4316 (ad g 0) 15 = w3424 := by rw [eI4316, pp_ne _ _ (Or.inr (by decide))]; exact e3449
        have e4321 : I4316 (ad g 0) 10 = w3424 := by rw [eI4316, pp_ne _ _ (Or.inr (by decide))]; exact e3450
        have e4322 : I4316 (ad g 0) 16 = w3433 := by rw [eI4316, pp_ne _ _ (Or.inr (by decide))]; exact e3451
        have e4323 : I4316 (ad g 0) 11 = w3433 := by rw [eI4316, pp_ne _ _ (Or.inr (by decide))]; exact e3452
        have e4324 : I4316 (ad g 0) 17 = w3444 := by rw [eI4316, pp_ne _ _ (Or.inr (by decide))]; exact e3453
        have e4325 : I4316 (ad g 0) 13 = w3444 := by rw [eI4316, pp_ne _ _ (Or.inr (by decide))]; exact e3454
        have e4326 : I4316 (ad g 0) 18 = w3457 := by rw [eI4316, pp_ne _ _ (Or.inr (by decide))]; exact ew3457
        have e4327 : I4316 (ad g 0) 14 = v4315 := by rw [eI4316, pp_self]
        have fI4328 : FC g [0, 6, 7, 8, 9, 10, 11, 12, 13, 14, 15, 16, 17, 18, 19, 20, 21, 22, 23, 24, 25, 26, 27, 28, 29, 30, 31, 32, 33, 34, 37, 38, 44, 46, 47] I I4316 := by rw [eI4316]; exact FC_pp fI3455 (by decide)
        have fQ4329 : FQ g [1, 2, 3, 4, 5, 6, 7, 8, 9, 10, 11, 12, 13, 14, 15, 16, 17, 18, 19, 51, 68] I I4316 := by rw [eI4316]; exact FQ_pp0 fQ3456 (by decide)
        refine WP_aload_n dX11_town_68 rfl ?_
        refine WP_aload_n dX11_town_69 rfl ?_
        obtain ⟨w4330, ew4330⟩ : ∃ w : Int32, I4316 (ad g 0) 19 = w := ⟨_, rfl⟩
        refine WQ_getim dX11_town_70 fX11_207 rfl (ly_is hy 0 11 rfl) ew4330 ?_
        refine WQ_puti dX11_town_73 fX11_335 rfl rfl (ly_is hy 0 11 rfl) (fun I4331 eI4331 => ?_)
        have e4332 : I4331 (ad g 0) 1 = w3407 := by rw [eI4331, pp_ne _ _ (Or.inr (by decide))]; exact e4317
        have e4333 : I4331 (ad g 0) 8 = w3421 := by rw [eI4331, pp_ne _ _ (Or.inr (by decide))]; exact e4318
        have e4334 : I4331 (ad g 0) 9 = w3422 := by rw [eI4331, pp_ne _ _ (Or.inr (by decide))]; exact e4319
        have e4335 : I4331 (ad g 0) 15 = w3424 := by rw [eI4331, pp_ne _ _ (Or.inr (by decide))]; exact e4320
        have e4336 : I4331 (ad g 0) 10 = w3424 := by rw [eI4331, pp_ne _ _ (Or.inr (by decide))]; exact e4321
        have e4337 : I4331 (ad g 0) 16 = w3433 := by rw [eI4331, pp_ne _ _ (Or.inr (by decide))]; exact e4322
        have e4338 : I4331 (ad g 0) 11 = w3433 := by rw [eI4331, pp_ne _ _ (Or.inr (by decide))]; exact e4323
        have e4339 : I4331 (ad g 0) 17 = w3444 := by rw [eI4331, pp_ne _ _ (Or.inr (by decide))]; exact e4324
        have e4340 : I4331 (ad g 0) 13 = w3444 := by rw [eI4331, pp_ne _ _ (Or.inr (by decide))]; exact e4325
        have e4341 : I4331 (ad g 0) 18 = w3457 := by rw [eI4331, pp_ne _ _ (Or.inr (by decide))]; exact e4326
        have e4342 : I4331 (ad g 0) 14 = v4315 := by rw [eI4331, pp_ne _ _ (Or.inr (by decide))]; exact e4327
        have e4343 : I4331 (ad g 0) 19 = w4330 := by rw [eI4331, pp_ne _ _ (Or.inr (by decide))]; exact ew4330
        have e4344 : I4331 (ad g 0) 12 = w4330 := by rw [eI4331, pp_self]
        have fI4345 : FC g [0, 6, 7, 8, 9, 10, 11, 12, 13, 14, 15, 16, 17, 18, 19, 20, 21, 22, 23, 24, 25, 26, 27, 28, 29, 30, 31, 32, 33, 34, 37, 38, 44, 46, 47] I I4331 := by rw [eI4331]; exact FC_pp fI4328 (by decide)
        have fQ4346 : FQ g [1, 2, 3, 4, 5, 6, 7, 8, 9, 10, 11, 12, 13, 14, 15, 16, 17, 18, 19, 51, 68] I I4331 := by rw [eI4331]; exact FQ_pp0 fQ4329 (by decide)
        refine WQ_iconst (0) (0) dX11_town_76 rfl rfl (fun v4347 hv4347 => ?_)
        refine WP_istore_n (ls' := [(0, _), (1, _)]) dX11_town_77 (by decide) rfl ?_
        have lp4351 : ∀ (mz : Nat) (i4348 : Int32) (J4349 : pJ), FC g [0, 2, 3, 4, 5] J J4349 → (∃ k : Nat, i4348.toInt = (k : Int) ∧ (k : Int) ≤ S2.1 0 1 ∧ (∀ q, q < k → J4349 (ad g 2) q = J3413 (ad g 4) q) ∧ FC g [2] J3413 J4349) → (5 - i4348.toInt.toNat) < mz → WP g mX11_town 78 [(0, .ref (ad g 0)), (1, .int i4348)] [] I4331 J4349 R (fun r I' J' R' => R' = R ∧ FC g [0, 6, 7, 8, 9, 10, 11, 12, 13, 14, 15, 16, 17, 18, 19, 20, 21, 22, 23, 24, 25, 26, 27, 28, 29, 30, 31, 32, 33, 34, 37, 38, 44, 46, 47] I I' ∧ FC g [0, 2, 3, 4, 5] J J' ∧ FQ g [1, 2, 3, 4, 5, 6, 7, 8, 9, 10, 11, 12, 13, 14, 15, 16, 17, 18, 19, 51, 68] I I' ∧ ∃ v : Int32, r = some (.int v) ∧ ((v.toInt = -1 ∧ ERR g (town B n j) I' ∧ FC g [0, 7, 14, 15, 16, 17, 18, 19, 27, 28, 29, 30, 31, 32, 33, 34] I I' ∧ FC g [4, 5] J J' ∧ FQ g [1, 2, 3, 4, 5, 6, 7, 8, 9, 15, 16, 17, 18, 19, 51] I I') ∨ (∃ S2 : TS, town B n j = .ok S2 ∧ v.toInt = S2.1 0 0 ∧ RTT g S2 I' J' ∧ STM g S2 I' J'))) := by
          intro mz
          induction mz with
          | zero =>
            intro i4348 J4349 fJ4350 hvlp4351 hmlp4351
            exact absurd hmlp4351 (Nat.not_lt_zero _)
          | succ mz ihlp4351 =>
            intro i4348 J4349 fJ4350 hvlp4351 hmlp4351
            try simp only [e4332, e4333, e4334, ew3395, ew3396, ew3397] at hvlp4351 hmlp4351
            obtain ⟨k, ik, ik4, jA, jF⟩ := hvlp4351
            refine WP_iload_n dX11_town_78 rfl ?_
            refine WP_aload_n dX11_town_79 rfl ?_
            refine WQ_getim dX11_town_80 fX11_329 rfl (ly_is hy 0 11 rfl) e4336 ?_
            refine WQ_icmp_ge 104 dX11_town_83 rfl (fun c4351 => ?_) (fun c4351 => ?_)
            · refine WQ_iconst (0) (0) dX11_town_104 rfl rfl (fun v4353 hv4353 => ?_)
              refine WP_istore_n (ls' := [(0, _), (1, _)]) dX11_town_105 (by decide) rfl ?_
              have k78 : (k : Int) = S2.1 0 1 := by omega
              have lp4357 : ∀ (mz : Nat) (i4354 : Int32) (J4355 : pJ), FC g [0, 2, 3, 4, 5] J J4355 → (∃ k : Nat, i4354.toInt = (k : Int) ∧ (k : Int) ≤ S2.1 0 2 ∧ (∀ q, q < k → J4355 (ad g 3) q = J3413 (ad g 5) q) ∧ FC g [2, 3] J3413 J4355 ∧ FC g [3] J4349 J4355) → (4 - i4354.toInt.toNat) < mz → WP g mX11_town 106 [(0, .ref (ad g 0)), (1, .int i4354)] [] I4331 J4355 R (fun r I' J' R' => R' = R ∧ FC g [0, 6, 7, 8, 9, 10, 11, 12, 13, 14, 15, 16, 17, 18, 19, 20, 21, 22, 23, 24, 25, 26, 27, 28, 29, 30, 31, 32, 33, 34, 37, 38, 44, 46, 47] I I' ∧ FC g [0, 2, 3, 4, 5] J J' ∧ FQ g [1, 2, 3, 4, 5, 6, 7, 8, 9, 10, 11, 12, 13, 14, 15, 16, 17, 18, 19, 51, 68] I I' ∧ ∃ v : Int32, r = some (.int v) ∧ ((v.toInt = -1 ∧ ERR g (town B n j) I' ∧ FC g [0, 7, 14, 15, 16, 17, 18, 19, 27, 28, 29, 30, 31, 32, 33, 34] I I' ∧ FC g [4, 5] J J' ∧ FQ g [1, 2, 3, 4, 5, 6, 7, 8, 9, 15, 16, 17, 18, 19, 51] I I') ∨ (∃ S2 : TS, town B n j = .ok S2 ∧ v.toInt = S2.1 0 0 ∧ RTT g S2 I' J' ∧ STM g S2 I' J'))) := by
                intro mz
                induction mz with
                | zero =>
                  intro i4354 J4355 fJ4356 hvlp4357 hmlp4357
                  exact absurd hmlp4357 (Nat.not_lt_zero _)
                | succ mz ihlp4357 =>
                  intro i4354 J4355 fJ4356 hvlp4357 hmlp4357
                  try simp only [e4332, e4333, e4334, ew3395, ew3396, ew3397] at hvlp4357 hmlp4357
                  obtain ⟨k2, ik2, ik42, kA, kF, kG⟩ := hvlp4357
                  refine WP_iload_n dX11_town_106 rfl ?_
                  refine WP_aload_n dX11_town_107 rfl ?_
                  refine WQ_getim dX11_town_108 fX11_332 rfl (ly_is hy 0 11 rfl) e4338 ?_
                  refine WQ_icmp_ge 132 dX11_town_111 rfl (fun c4357 => ?_) (fun c4357 => ?_)
                  · refine WP_aload_n dX11_town_132 rfl ?_
                    refine WP_getr dX11_town_133 fX11_233 rfl (ly_is hy 0 11 rfl) (rf hr 0 24 6 (by decide)) ?_
                    refine WP_aload_n dX11_town_136 rfl ?_
                    refine WP_getr dX11_town_137 fX11_84 rfl (ly_is hy 0 11 rfl) (rf hr 0 25 7 (by decide)) ?_
                    refine WP_callS2 dX11_town_140 ⟨⟨⟨by decide, by decide⟩, zX11_copy⟩, lX11_338, tX11_copy⟩ (em_copy6 hy hr   ) (Nat.le_of_ble_eq_true rfl) ?_
                    intro r I4360 J4361 Ra hq
                    obtain ⟨ec, g4362, g4363, g4364, er, p4359⟩ := hq
                    rw [ec, er]
                    clear ec er Ra r
                    have e4365 : I4360 (ad g 0) 1 = w3407 := by rw [FC_at hy g4362 0 (by decide) (by decide)]; exact e4332
                    have e4366 : I4360 (ad g 0) 8 = w3421 := by rw [FC_at hy g4362 0 (by decide) (by decide)]; exact e4333
                    have e4367 : I4360 (ad g 0) 9 = w3422 := by rw [FC_at hy g4362 0 (by decide) (by decide)]; exact e4334
                    have e4368 : I4360 (ad g 0) 15 = w3424 := by rw [FC_at hy g4362 0 (by decide) (by decide)]; exact e4335
                    have e4369 : I4360 (ad g 0) 10 = w3424 := by rw [FC_at hy g4362 0 (by decide) (by decide)]; exact e4336
                    have e4370 : I4360 (ad g 0) 16 = w3433 := by rw [FC_at hy g4362 0 (by decide) (by decide)]; exact e4337
                    have e4371 : I4360 (ad g 0) 11 = w3433 := by rw [FC_at hy g4362 0 (by decide) (by decide)]; exact e4338
                    have e4372 : I4360 (ad g 0) 17 = w3444 := by rw [FC_at hy g4362 0 (by decide) (by decide)]; exact e4339
                    have e4373 : I4360 (ad g 0) 13 = w3444 := by rw [FC_at hy g4362 0 (by decide) (by decide)]; exact e4340
                    have e4374 : I4360 (ad g 0) 18 = w3457 := by rw [FC_at hy g4362 0 (by decide) (by decide)]; exact e4341
                    have e4375 : I4360 (ad g 0) 14 = v4315 := by rw [FC_at hy g4362 0 (by decide) (by decide)]; exact e4342
                    have e4376 : I4360 (ad g 0) 19 = w4330 := by rw [FC_at hy g4362 0 (by decide) (by decide)]; exact e4343
                    have e4377 : I4360 (ad g 0) 12 = w4330 := by rw [FC_at hy g4362 0 (by decide) (by decide)]; exact e4344
                    have fI4378 : FC g [0, 6, 7, 8, 9, 10, 11, 12, 13, 14, 15, 16, 17, 18, 19, 20, 21, 22, 23, 24, 25, 26, 27, 28, 29, 30, 31, 32, 33, 34, 37, 38, 44, 46, 47] I I4360 := FC_tr fI4345 (FC_mono g4362 (by decide))
                    have fJ4379 : FC g [0, 2, 3, 4, 5] J J4361 := FC_tr fJ4356 (FC_mono g4363 (by decide))
                    have fQ4380 : FQ g [1, 2, 3, 4, 5, 6, 7, 8, 9, 10, 11, 12, 13, 14, 15, 16, 17, 18, 19, 51, 68] I I4360 := FQ_tr fQ4346 (FQ_mono g4364 (by decide))
                    try simp only [e4365, e4366, e4367, ew3395, ew3396, ew3397] at p4359
                    have d6 : ∀ q, q < 7 → I4360 (ad g 6) q = I3412 (ad g 7) q := fun q hq => by rw [p4359 q hq, eI4331, pp_off _ _ (ly_ne hy (by decide) (by decide) (by decide)), eI4316, pp_off _ _ (ly_ne hy (by decide) (by decide) (by decide)), eI3445, pp_off _ _ (ly_ne hy (by decide) (by decide) (by decide)), eI3434, pp_off _ _ (ly_ne hy (by decide) (by decide) (by decide)), eI3425, pp_off _ _ (ly_ne hy (by decide) (by decide) (by decide))]
                    refine WP_aload_n dX11_town_143 rfl ?_
                    refine WP_getr dX11_town_144 fX11_235 rfl (ly_is hy 0 11 rfl) (rf hr 0 26 8 (by decide)) ?_
                    refine WP_aload_n dX11_town_147 rfl ?_
                    refine WP_getr dX11_town_148 fX11_99 rfl (ly_is hy 0 11 rfl) (rf hr 0 32 14 (by decide)) ?_
                    refine WP_callS2 dX11_town_151 ⟨⟨⟨by decide, by decide⟩, zX11_copy⟩, lX11_338, tX11_copy⟩ (em_copy8 hy hr   ) (Nat.le_of_ble_eq_true rfl) ?_
                    intro r I4382 J4383 Ra hq
                    obtain ⟨ec, g4384, g4385, g4386, er, p4381⟩ := hq
                    rw [ec, er]
                    clear ec er Ra r
                    have e4387 : I4382 (ad g 0) 1 = w3407 := by rw [FC_at hy g4384 0 (by decide) (by decide)]; exact e4365
                    have e4388 : I4382 (ad g 0) 8 = w3421 := by rw [FC_at hy g4384 0 (by decide) (by decide)]; exact e4366
                    have e4389 : I4382 (ad g 0) 9 = w3422 := by rw [FC_at hy g4384 0 (by decide) (by decide)]; exact e4367
                    have e4390 : I4382 (ad g 0) 15 = w3424 := by rw [FC_at hy g4384 0 (by decide) (by decide)]; exact e4368
                    have e4391 : I4382 (ad g 0) 10 = w3424 := by rw [FC_at hy g4384 0 (by decide) (by decide)]; exact e4369
                    have e4392 : I4382 (ad g 0) 16 = w3433 := by rw [FC_at hy g4384 0 (by decide) (by decide)]; exact e4370
                    have e4393 : I4382 (ad g 0) 11 = w3433 := by rw [FC_at hy g4384 0 (by decide) (by decide)]; exact e4371
                    have e4394 : I4382 (ad g 0) 17 = w3444 := by rw [FC_at hy g4384 0 (by decide) (by decide)]; exact e4372
                    have e4395 : I4382 (ad g 0) 13 = w3444 := by rw [FC_at hy g4384 0 (by decide) (by decide)]; exact e4373
                    have e4396 : I4382 (ad g 0) 18 = w3457 := by rw [FC_at hy g4384 0 (by decide) (by decide)]; exact e4374
                    have e4397 : I4382 (ad g 0) 14 = v4315 := by rw [FC_at hy g4384 0 (by decide) (by decide)]; exact e4375
                    have e4398 : I4382 (ad g 0) 19 = w4330 := by rw [FC_at hy g4384 0 (by decide) (by decide)]; exact e4376
                    have e4399 : I4382 (ad g 0) 12 = w4330 := by rw [FC_at hy g4384 0 (by decide) (by decide)]; exact e4377
                    have fI4400 : FC g [0, 6, 7, 8, 9, 10, 11, 12, 13, 14, 15, 16, 17, 18, 19, 20, 21, 22, 23, 24, 25, 26, 27, 28, 29, 30, 31, 32, 33, 34, 37, 38, 44, 46, 47] I I4382 := FC_tr fI4378 (FC_mono g4384 (by decide))
                    have fJ4401 : FC g [0, 2, 3, 4, 5] J J4383 := FC_tr fJ4379 (FC_mono g4385 (by decide))
                    have fQ4402 : FQ g [1, 2, 3, 4, 5, 6, 7, 8, 9, 10, 11, 12, 13, 14, 15, 16, 17, 18, 19, 51, 68] I I4382 := FQ_tr fQ4380 (FQ_mono g4386 (by decide))
                    try simp only [e4387, e4388, e4389, ew3395, ew3396, ew3397] at p4381
                    have d8 : ∀ q, q < 4 → I4382 (ad g 8) q = I3412 (ad g 14) q := fun q hq => by rw [p4381 q hq, FC_at hy g4362 14 (by decide) (by decide), eI4331, pp_off _ _ (ly_ne hy (by decide) (by decide) (by decide)), eI4316, pp_off _ _ (ly_ne hy (by decide) (by decide) (by decide)), eI3445, pp_off _ _ (ly_ne hy (by decide) (by decide) (by decide)), eI3434, pp_off _ _ (ly_ne hy (by decide) (by decide) (by decide)), eI3425, pp_off _ _ (ly_ne hy (by decide) (by decide) (by decide))]
                    refine WP_aload_n dX11_town_154 rfl ?_
                    refine WP_getr dX11_town_155 fX11_238 rfl (ly_is hy 0 11 rfl) (rf hr 0 27 9 (by decide)) ?_
                    refine WP_aload_n dX11_town_158 rfl ?_
                    refine WP_getr dX11_town_159 fX11_102 rfl (ly_is hy 0 11 rfl) (rf hr 0 33 15 (by decide)) ?_
                    refine WP_callS2 dX11_town_162 ⟨⟨⟨by decide, by decide⟩, zX11_copy⟩, lX11_338, tX11_copy⟩ (em_copy9 hy hr   ) (Nat.le_of_ble_eq_true rfl) ?_
                    intro r I4404 J4405 Ra hq
                    obtain ⟨ec, g4406, g4407, g4408, er, p4403⟩ := hq
                    rw [ec, er]
                    clear ec er Ra r
                    have e4409 : I4404 (ad g 0) 1 = w3407 := by rw [FC_at hy g4406 0 (by decide) (by decide)]; exact e4387
                    have e4410 : I4404 (ad g 0) 8 = w3421 := by rw [FC_at hy g4406 0 (by decide) (by decide)]; exact e4388
                    have e4411 : I4404 (ad g 0) 9 = w3422 := by rw [FC_at hy g4406 0 (by decide) (by decide)]; exact e4389
                    have e4412 : I4404 (ad g 0) 15 = w3424 := by rw [FC_at hy g4406 0 (by decide) (by decide)]; exact e4390
                    have e4413 : I4404 (ad g 0) 10 = w3424 := by rw [FC_at hy g4406 0 (by decide) (by decide)]; exact e4391
                    have e4414 : I4404 (ad g 0) 16 = w3433 := by rw [FC_at hy g4406 0 (by decide) (by decide)]; exact e4392
                    have e4415 : I4404 (ad g 0) 11 = w3433 := by rw [FC_at hy g4406 0 (by decide) (by decide)]; exact e4393
                    have e4416 : I4404 (ad g 0) 17 = w3444 := by rw [FC_at hy g4406 0 (by decide) (by decide)]; exact e4394
                    have e4417 : I4404 (ad g 0) 13 = w3444 := by rw [FC_at hy g4406 0 (by decide) (by decide)]; exact e4395
                    have e4418 : I4404 (ad g 0) 18 = w3457 := by rw [FC_at hy g4406 0 (by decide) (by decide)]; exact e4396
                    have e4419 : I4404 (ad g 0) 14 = v4315 := by rw [FC_at hy g4406 0 (by decide) (by decide)]; exact e4397
                    have e4420 : I4404 (ad g 0) 19 = w4330 := by rw [FC_at hy g4406 0 (by decide) (by decide)]; exact e4398
                    have e4421 : I4404 (ad g 0) 12 = w4330 := by rw [FC_at hy g4406 0 (by decide) (by decide)]; exact e4399
                    have fI4422 : FC g [0, 6, 7, 8, 9, 10, 11, 12, 13, 14, 15, 16, 17, 18, 19, 20, 21, 22, 23, 24, 25, 26, 27, 28, 29, 30, 31, 32, 33, 34, 37, 38, 44, 46, 47] I I4404 := FC_tr fI4400 (FC_mono g4406 (by decide))
                    have fJ4423 : FC g [0, 2, 3, 4, 5] J J4405 := FC_tr fJ4401 (FC_mono g4407 (by decide))
                    have fQ4424 : FQ g [1, 2, 3, 4, 5, 6, 7, 8, 9, 10, 11, 12, 13, 14, 15, 16, 17, 18, 19, 51, 68] I I4404 := FQ_tr fQ4402 (FQ_mono g4408 (by decide))
                    try simp only [e4409, e4410, e4411, ew3395, ew3396, ew3397] at p4403
                    have d9 : ∀ q, q < 4 → I4404 (ad g 9) q = I3412 (ad g 15) q := fun q hq => by rw [p4403 q hq, FC_at hy g4384 15 (by decide) (by decide), FC_at hy g4362 15 (by decide) (by decide), eI4331, pp_off _ _ (ly_ne hy (by decide) (by decide) (by decide)), eI4316, pp_off _ _ (ly_ne hy (by decide) (by decide) (by decide)), eI3445, pp_off _ _ (ly_ne hy (by decide) (by decide) (by decide)), eI3434, pp_off _ _ (ly_ne hy (by decide) (by decide) (by decide)), eI3425, pp_off _ _ (ly_ne hy (by decide) (by decide) (by decide))]
                    refine WP_aload_n dX11_town_165 rfl ?_
                    refine WP_getr dX11_town_166 fX11_241 rfl (ly_is hy 0 11 rfl) (rf hr 0 28 10 (by decide)) ?_
                    refine WP_aload_n dX11_town_169 rfl ?_
                    refine WP_getr dX11_town_170 fX11_105 rfl (ly_is hy 0 11 rfl) (rf hr 0 34 16 (by decide)) ?_
                    refine WP_callS2 dX11_town_173 ⟨⟨⟨by decide, by decide⟩, zX11_copy⟩, lX11_338, tX11_copy⟩ (em_copy10 hy hr   ) (Nat.le_of_ble_eq_true rfl) ?_
                    intro r I4426 J4427 Ra hq
                    obtain ⟨ec, g4428, g4429, g4430, er, p4425⟩ := hq
                    rw [ec, er]
                    clear ec er Ra r
                    have e4431 : I4426 (ad g 0) 1 = w3407 := by rw [FC_at hy g4428 0 (by decide) (by decide)]; exact e4409
                    have e4432 : I4426 (ad g 0) 8 = w3421 := by rw [FC_at hy g4428 0 (by decide) (by decide)]; exact e4410
                    have e4433 : I4426 (ad g 0) 9 = w3422 := by rw [FC_at hy g4428 0 (by decide) (by decide)]; exact e4411
                    have e4434 : I4426 (ad g 0) 15 = w3424 := by rw [FC_at hy g4428 0 (by decide) (by decide)]; exact e4412
                    have e4435 : I4426 (ad g 0) 10 = w3424 := by rw [FC_at hy g4428 0 (by decide) (by decide)]; exact e4413
                    have e4436 : I4426 (ad g 0) 16 = w3433 := by rw [FC_at hy g4428 0 (by decide) (by decide)]; exact e4414
                    have e4437 : I4426 (ad g 0) 11 = w3433 := by rw [FC_at hy g4428 0 (by decide) (by decide)]; exact e4415
                    have e4438 : I4426 (ad g 0) 17 = w3444 := by rw [FC_at hy g4428 0 (by decide) (by decide)]; exact e4416
                    have e4439 : I4426 (ad g 0) 13 = w3444 := by rw [FC_at hy g4428 0 (by decide) (by decide)]; exact e4417
                    have e4440 : I4426 (ad g 0) 18 = w3457 := by rw [FC_at hy g4428 0 (by decide) (by decide)]; exact e4418
                    have e4441 : I4426 (ad g 0) 14 = v4315 := by rw [FC_at hy g4428 0 (by decide) (by decide)]; exact e4419
                    have e4442 : I4426 (ad g 0) 19 = w4330 := by rw [FC_at hy g4428 0 (by decide) (by decide)]; exact e4420
                    have e4443 : I4426 (ad g 0) 12 = w4330 := by rw [FC_at hy g4428 0 (by decide) (by decide)]; exact e4421
                    have fI4444 : FC g [0, 6, 7, 8, 9, 10, 11, 12, 13, 14, 15, 16, 17, 18, 19, 20, 21, 22, 23, 24, 25, 26, 27, 28, 29, 30, 31, 32, 33, 34, 37, 38, 44, 46, 47] I I4426 := FC_tr fI4422 (FC_mono g4428 (by decide))
                    have fJ4445 : FC g [0, 2, 3, 4, 5] J J4427 := FC_tr fJ4423 (FC_mono g4429 (by decide))
                    have fQ4446 : FQ g [1, 2, 3, 4, 5, 6, 7, 8, 9, 10, 11, 12, 13, 14, 15, 16, 17, 18, 19, 51, 68] I I4426 := FQ_tr fQ4424 (FQ_mono g4430 (by decide))
                    try simp only [e4431, e4432, e4433, ew3395, ew3396, ew3397] at p4425
                    have d10 : ∀ q, q < 4 → I4426 (ad g 10) q = I3412 (ad g 16) q := fun q hq => by rw [p4425 q hq, FC_at hy g4406 16 (by decide) (by decide), FC_at hy g4384 16 (by decide) (by decide), FC_at hy g4362 16 (by decide) (by decide), eI4331, pp_off _ _ (ly_ne hy (by decide) (by decide) (by decide)), eI4316, pp_off _ _ (ly_ne hy (by decide) (by decide) (by decide)), eI3445, pp_off _ _ (ly_ne hy (by decide) (by decide) (by decide)), eI3434, pp_off _ _ (ly_ne hy (by decide) (by decide) (by decide)), eI3425, pp_off _ _ (ly_ne hy (by decide) (by decide) (by decide))]
                    refine WP_aload_n dX11_town_176 rfl ?_
                    refine WP_getr dX11_town_177 fX11_244 rfl (ly_is hy 0 11 rfl) (rf hr 0 29 11 (by decide)) ?_
                    refine WP_aload_n dX11_town_180 rfl ?_
                    refine WP_getr dX11_town_181 fX11_108 rfl (ly_is hy 0 11 rfl) (rf hr 0 35 17 (by decide)) ?_
                    refine WP_callS2 dX11_town_184 ⟨⟨⟨by decide, by decide⟩, zX11_copy⟩, lX11_338, tX11_copy⟩ (em_copy11 hy hr   ) (Nat.le_of_ble_eq_true rfl) ?_
                    intro r I4448 J4449 Ra hq
                    obtain ⟨ec, g4450, g4451, g4452, er, p4447⟩ := hq
                    rw [ec, er]
                    clear ec er Ra r
                    have e4453 : I4448 (ad g 0) 1 = w3407 := by rw [FC_at hy g4450 0 (by decide) (by decide)]; exact e4431
                    have e4454 : I4448 (ad g 0) 8 = w3421 := by rw [FC_at hy g4450 0 (by decide) (by decide)]; exact e4432
                    have e4455 : I4448 (ad g 0) 9 = w3422 := by rw [FC_at hy g4450 0 (by decide) (by decide)]; exact e4433
                    have e4456 : I4448 (ad g 0) 15 = w3424 := by rw [FC_at hy g4450 0 (by decide) (by decide)]; exact e4434
                    have e4457 : I4448 (ad g 0) 10 = w3424 := by rw [FC_at hy g4450 0 (by decide) (by decide)]; exact e4435
                    have e4458 : I4448 (ad g 0) 16 = w3433 := by rw [FC_at hy g4450 0 (by decide) (by decide)]; exact e4436
                    have e4459 : I4448 (ad g 0) 11 = w3433 := by rw [FC_at hy g4450 0 (by decide) (by decide)]; exact e4437
                    have e4460 : I4448 (ad g 0) 17 = w3444 := by rw [FC_at hy g4450 0 (by decide) (by decide)]; exact e4438
                    have e4461 : I4448 (ad g 0) 13 = w3444 := by rw [FC_at hy g4450 0 (by decide) (by decide)]; exact e4439
                    have e4462 : I4448 (ad g 0) 18 = w3457 := by rw [FC_at hy g4450 0 (by decide) (by decide)]; exact e4440
                    have e4463 : I4448 (ad g 0) 14 = v4315 := by rw [FC_at hy g4450 0 (by decide) (by decide)]; exact e4441
                    have e4464 : I4448 (ad g 0) 19 = w4330 := by rw [FC_at hy g4450 0 (by decide) (by decide)]; exact e4442
                    have e4465 : I4448 (ad g 0) 12 = w4330 := by rw [FC_at hy g4450 0 (by decide) (by decide)]; exact e4443
                    have fI4466 : FC g [0, 6, 7, 8, 9, 10, 11, 12, 13, 14, 15, 16, 17, 18, 19, 20, 21, 22, 23, 24, 25, 26, 27, 28, 29, 30, 31, 32, 33, 34, 37, 38, 44, 46, 47] I I4448 := FC_tr fI4444 (FC_mono g4450 (by decide))
                    have fJ4467 : FC g [0, 2, 3, 4, 5] J J4449 := FC_tr fJ4445 (FC_mono g4451 (by decide))
                    have fQ4468 : FQ g [1, 2, 3, 4, 5, 6, 7, 8, 9, 10, 11, 12, 13, 14, 15, 16, 17, 18, 19, 51, 68] I I4448 := FQ_tr fQ4446 (FQ_mono g4452 (by decide))
                    try simp only [e4453, e4454, e4455, ew3395, ew3396, ew3397] at p4447
                    have d11 : ∀ q, q < 4 → I4448 (ad g 11) q = I3412 (ad g 17) q := fun q hq => by rw [p4447 q hq, FC_at hy g4428 17 (by decide) (by decide), FC_at hy g4406 17 (by decide) (by decide), FC_at hy g4384 17 (by decide) (by decide), FC_at hy g4362 17 (by decide) (by decide), eI4331, pp_off _ _ (ly_ne hy (by decide) (by decide) (by decide)), eI4316, pp_off _ _ (ly_ne hy (by decide) (by decide) (by decide)), eI3445, pp_off _ _ (ly_ne hy (by decide) (by decide) (by decide)), eI3434, pp_off _ _ (ly_ne hy (by decide) (by decide) (by decide)), eI3425, pp_off _ _ (ly_ne hy (by decide) (by decide) (by decide))]
                    refine WP_aload_n dX11_town_187 rfl ?_
                    refine WP_getr dX11_town_188 fX11_246 rfl (ly_is hy 0 11 rfl) (rf hr 0 30 12 (by decide)) ?_
                    refine WP_aload_n dX11_town_191 rfl ?_
                    refine WP_getr dX11_town_192 fX11_132 rfl (ly_is hy 0 11 rfl) (rf hr 0 36 18 (by decide)) ?_
                    refine WP_callS2 dX11_town_195 ⟨⟨⟨by decide, by decide⟩, zX11_copy⟩, lX11_338, tX11_copy⟩ (em_copy12 hy hr   ) (Nat.le_of_ble_eq_true rfl) ?_
                    intro r I4470 J4471 Ra hq
                    obtain ⟨ec, g4472, g4473, g4474, er, p4469⟩ := hq
                    rw [ec, er]
                    clear ec er Ra r
                    have e4475 : I4470 (ad g 0) 1 = w3407 := by rw [FC_at hy g4472 0 (by decide) (by decide)]; exact e4453
                    have e4476 : I4470 (ad g 0) 8 = w3421 := by rw [FC_at hy g4472 0 (by decide) (by decide)]; exact e4454
                    have e4477 : I4470 (ad g 0) 9 = w3422 := by rw [FC_at hy g4472 0 (by decide) (by decide)]; exact e4455
                    have e4478 : I4470 (ad g 0) 15 = w3424 := by rw [FC_at hy g4472 0 (by decide) (by decide)]; exact e4456
                    have e4479 : I4470 (ad g 0) 10 = w3424 := by rw [FC_at hy g4472 0 (by decide) (by decide)]; exact e4457
                    have e4480 : I4470 (ad g 0) 16 = w3433 := by rw [FC_at hy g4472 0 (by decide) (by decide)]; exact e4458
                    have e4481 : I4470 (ad g 0) 11 = w3433 := by rw [FC_at hy g4472 0 (by decide) (by decide)]; exact e4459
                    have e4482 : I4470 (ad g 0) 17 = w3444 := by rw [FC_at hy g4472 0 (by decide) (by decide)]; exact e4460
                    have e4483 : I4470 (ad g 0) 13 = w3444 := by rw [FC_at hy g4472 0 (by decide) (by decide)]; exact e4461
                    have e4484 : I4470 (ad g 0) 18 = w3457 := by rw [FC_at hy g4472 0 (by decide) (by decide)]; exact e4462
                    have e4485 : I4470 (ad g 0) 14 = v4315 := by rw [FC_at hy g4472 0 (by decide) (by decide)]; exact e4463
                    have e4486 : I4470 (ad g 0) 19 = w4330 := by rw [FC_at hy g4472 0 (by decide) (by decide)]; exact e4464
                    have e4487 : I4470 (ad g 0) 12 = w4330 := by rw [FC_at hy g4472 0 (by decide) (by decide)]; exact e4465
                    have fI4488 : FC g [0, 6, 7, 8, 9, 10, 11, 12, 13, 14, 15, 16, 17, 18, 19, 20, 21, 22, 23, 24, 25, 26, 27, 28, 29, 30, 31, 32, 33, 34, 37, 38, 44, 46, 47] I I4470 := FC_tr fI4466 (FC_mono g4472 (by decide))
                    have fJ4489 : FC g [0, 2, 3, 4, 5] J J4471 := FC_tr fJ4467 (FC_mono g4473 (by decide))
                    have fQ4490 : FQ g [1, 2, 3, 4, 5, 6, 7, 8, 9, 10, 11, 12, 13, 14, 15, 16, 17, 18, 19, 51, 68] I I4470 := FQ_tr fQ4468 (FQ_mono g4474 (by decide))
                    try simp only [e4475, e4476, e4477, ew3395, ew3396, ew3397] at p4469
                    have d12 : ∀ q, q < 3 → I4470 (ad g 12) q = I3412 (ad g 18) q := fun q hq => by rw [p4469 q hq, FC_at hy g4450 18 (by decide) (by decide), FC_at hy g4428 18 (by decide) (by decide), FC_at hy g4406 18 (by decide) (by decide), FC_at hy g4384 18 (by decide) (by decide), FC_at hy g4362 18 (by decide) (by decide), eI4331, pp_off _ _ (ly_ne hy (by decide) (by decide) (by decide)), eI4316, pp_off _ _ (ly_ne hy (by decide) (by decide) (by decide)), eI3445, pp_off _ _ (ly_ne hy (by decide) (by decide) (by decide)), eI3434, pp_off _ _ (ly_ne hy (by decide) (by decide) (by decide)), eI3425, pp_off _ _ (ly_ne hy (by decide) (by decide) (by decide))]
                    refine WP_aload_n dX11_town_198 rfl ?_
                    refine WP_getr dX11_town_199 fX11_249 rfl (ly_is hy 0 11 rfl) (rf hr 0 31 13 (by decide)) ?_
                    refine WP_aload_n dX11_town_202 rfl ?_
                    refine WP_getr dX11_town_203 fX11_135 rfl (ly_is hy 0 11 rfl) (rf hr 0 37 19 (by decide)) ?_
                    refine WP_callS2 dX11_town_206 ⟨⟨⟨by decide, by decide⟩, zX11_copy⟩, lX11_338, tX11_copy⟩ (em_copy13 hy hr   ) (Nat.le_of_ble_eq_true rfl) ?_
                    intro r I4492 J4493 Ra hq
                    obtain ⟨ec, g4494, g4495, g4496, er, p4491⟩ := hq
                    rw [ec, er]
                    clear ec er Ra r
                    have e4497 : I4492 (ad g 0) 1 = w3407 := by rw [FC_at hy g4494 0 (by decide) (by decide)]; exact e4475
                    have e4498 : I4492 (ad g 0) 8 = w3421 := by rw [FC_at hy g4494 0 (by decide) (by decide)]; exact e4476
                    have e4499 : I4492 (ad g 0) 9 = w3422 := by rw [FC_at hy g4494 0 (by decide) (by decide)]; exact e4477
                    have e4500 : I4492 (ad g 0) 15 = w3424 := by rw [FC_at hy g4494 0 (by decide) (by decide)]; exact e4478
                    have e4501 : I4492 (ad g 0) 10 = w3424 := by rw [FC_at hy g4494 0 (by decide) (by decide)]; exact e4479
                    have e4502 : I4492 (ad g 0) 16 = w3433 := by rw [FC_at hy g4494 0 (by decide) (by decide)]; exact e4480
                    have e4503 : I4492 (ad g 0) 11 = w3433 := by rw [FC_at hy g4494 0 (by decide) (by decide)]; exact e4481
                    have e4504 : I4492 (ad g 0) 17 = w3444 := by rw [FC_at hy g4494 0 (by decide) (by decide)]; exact e4482
                    have e4505 : I4492 (ad g 0) 13 = w3444 := by rw [FC_at hy g4494 0 (by decide) (by decide)]; exact e4483
                    have e4506 : I4492 (ad g 0) 18 = w3457 := by rw [FC_at hy g4494 0 (by decide) (by decide)]; exact e4484
                    have e4507 : I4492 (ad g 0) 14 = v4315 := by rw [FC_at hy g4494 0 (by decide) (by decide)]; exact e4485
                    have e4508 : I4492 (ad g 0) 19 = w4330 := by rw [FC_at hy g4494 0 (by decide) (by decide)]; exact e4486
                    have e4509 : I4492 (ad g 0) 12 = w4330 := by rw [FC_at hy g4494 0 (by decide) (by decide)]; exact e4487
                    have fI4510 : FC g [0, 6, 7, 8, 9, 10, 11, 12, 13, 14, 15, 16, 17, 18, 19, 20, 21, 22, 23, 24, 25, 26, 27, 28, 29, 30, 31, 32, 33, 34, 37, 38, 44, 46, 47] I I4492 := FC_tr fI4488 (FC_mono g4494 (by decide))
                    have fJ4511 : FC g [0, 2, 3, 4, 5] J J4493 := FC_tr fJ4489 (FC_mono g4495 (by decide))
                    have fQ4512 : FQ g [1, 2, 3, 4, 5, 6, 7, 8, 9, 10, 11, 12, 13, 14, 15, 16, 17, 18, 19, 51, 68] I I4492 := FQ_tr fQ4490 (FQ_mono g4496 (by decide))
                    try simp only [e4497, e4498, e4499, ew3395, ew3396, ew3397] at p4491
                    have d13 : ∀ q, q < 3 → I4492 (ad g 13) q = I3412 (ad g 19) q := fun q hq => by rw [p4491 q hq, FC_at hy g4472 19 (by decide) (by decide), FC_at hy g4450 19 (by decide) (by decide), FC_at hy g4428 19 (by decide) (by decide), FC_at hy g4406 19 (by decide) (by decide), FC_at hy g4384 19 (by decide) (by decide), FC_at hy g4362 19 (by decide) (by decide), eI4331, pp_off _ _ (ly_ne hy (by decide) (by decide) (by decide)), eI4316, pp_off _ _ (ly_ne hy (by decide) (by decide) (by decide)), eI3445, pp_off _ _ (ly_ne hy (by decide) (by decide) (by decide)), eI3434, pp_off _ _ (ly_ne hy (by decide) (by decide) (by decide)), eI3425, pp_off _ _ (ly_ne hy (by decide) (by decide) (by decide))]
                    refine WP_aload_n dX11_town_209 rfl ?_
                    refine WP_getr dX11_town_210 fX11_252 rfl (ly_is hy 0 11 rfl) (rf hr 0 38 20 (by decide)) ?_
                    refine WP_aload_n dX11_town_213 rfl ?_
                    refine WP_getr dX11_town_214 fX11_114 rfl (ly_is hy 0 11 rfl) (rf hr 0 45 27 (by decide)) ?_
                    refine WP_callS2 dX11_town_217 ⟨⟨⟨by decide, by decide⟩, zX11_copy⟩, lX11_338, tX11_copy⟩ (em_copy20 hy hr   ) (Nat.le_of_ble_eq_true rfl) ?_
                    intro r I4514 J4515 Ra hq
                    obtain ⟨ec, g4516, g4517, g4518, er, p4513⟩ := hq
                    rw [ec, er]
                    clear ec er Ra r
                    have e4519 : I4514 (ad g 0) 1 = w3407 := by rw [FC_at hy g4516 0 (by decide) (by decide)]; exact e4497
                    have e4520 : I4514 (ad g 0) 8 = w3421 := by rw [FC_at hy g4516 0 (by decide) (by decide)]; exact e4498
                    have e4521 : I4514 (ad g 0) 9 = w3422 := by rw [FC_at hy g4516 0 (by decide) (by decide)]; exact e4499
                    have e4522 : I4514 (ad g 0) 15 = w3424 := by rw [FC_at hy g4516 0 (by decide) (by decide)]; exact e4500
                    have e4523 : I4514 (ad g 0) 10 = w3424 := by rw [FC_at hy g4516 0 (by decide) (by decide)]; exact e4501
                    have e4524 : I4514 (ad g 0) 16 = w3433 := by rw [FC_at hy g4516 0 (by decide) (by decide)]; exact e4502
                    have e4525 : I4514 (ad g 0) 11 = w3433 := by rw [FC_at hy g4516 0 (by decide) (by decide)]; exact e4503
                    have e4526 : I4514 (ad g 0) 17 = w3444 := by rw [FC_at hy g4516 0 (by decide) (by decide)]; exact e4504
                    have e4527 : I4514 (ad g 0) 13 = w3444 := by rw [FC_at hy g4516 0 (by decide) (by decide)]; exact e4505
                    have e4528 : I4514 (ad g 0) 18 = w3457 := by rw [FC_at hy g4516 0 (by decide) (by decide)]; exact e4506
                    have e4529 : I4514 (ad g 0) 14 = v4315 := by rw [FC_at hy g4516 0 (by decide) (by decide)]; exact e4507
                    have e4530 : I4514 (ad g 0) 19 = w4330 := by rw [FC_at hy g4516 0 (by decide) (by decide)]; exact e4508
                    have e4531 : I4514 (ad g 0) 12 = w4330 := by rw [FC_at hy g4516 0 (by decide) (by decide)]; exact e4509
                    have fI4532 : FC g [0, 6, 7, 8, 9, 10, 11, 12, 13, 14, 15, 16, 17, 18, 19, 20, 21, 22, 23, 24, 25, 26, 27, 28, 29, 30, 31, 32, 33, 34, 37, 38, 44, 46, 47] I I4514 := FC_tr fI4510 (FC_mono g4516 (by decide))
                    have fJ4533 : FC g [0, 2, 3, 4, 5] J J4515 := FC_tr fJ4511 (FC_mono g4517 (by decide))
                    have fQ4534 : FQ g [1, 2, 3, 4, 5, 6, 7, 8, 9, 10, 11, 12, 13, 14, 15, 16, 17, 18, 19, 51, 68] I I4514 := FQ_tr fQ4512 (FQ_mono g4518 (by decide))
                    try simp only [e4519, e4520, e4521, ew3395, ew3396, ew3397] at p4513
                    have d20 : ∀ q, q < 28 → I4514 (ad g 20) q = I3412 (ad g 27) q := fun q hq => by rw [p4513 q hq, FC_at hy g4494 27 (by decide) (by decide), FC_at hy g4472 27 (by decide) (by decide), FC_at hy g4450 27 (by decide) (by decide), FC_at hy g4428 27 (by decide) (by decide), FC_at hy g4406 27 (by decide) (by decide), FC_at hy g4384 27 (by decide) (by decide), FC_at hy g4362 27 (by decide) (by decide), eI4331, pp_off _ _ (ly_ne hy (by decide) (by decide) (by decide)), eI4316, pp_off _ _ (ly_ne hy (by decide) (by decide) (by decide)), eI3445, pp_off _ _ (ly_ne hy (by decide) (by decide) (by decide)), eI3434, pp_off _ _ (ly_ne hy (by decide) (by decide) (by decide)), eI3425, pp_off _ _ (ly_ne hy (by decide) (by decide) (by decide))]
                    refine WP_aload_n dX11_town_220 rfl ?_
                    refine WP_getr dX11_town_221 fX11_254 rfl (ly_is hy 0 11 rfl) (rf hr 0 39 21 (by decide)) ?_
                    refine WP_aload_n dX11_town_224 rfl ?_
                    refine WP_getr dX11_town_225 fX11_141 rfl (ly_is hy 0 11 rfl) (rf hr 0 46 28 (by decide)) ?_
                    refine WP_callS2 dX11_town_228 ⟨⟨⟨by decide, by decide⟩, zX11_copy⟩, lX11_338, tX11_copy⟩ (em_copy21 hy hr   ) (Nat.le_of_ble_eq_true rfl) ?_
                    intro r I4536 J4537 Ra hq
                    obtain ⟨ec, g4538, g4539, g4540, er, p4535⟩ := hq
                    rw [ec, er]
                    clear ec er Ra r
                    have e4541 : I4536 (ad g 0) 1 = w3407 := by rw [FC_at hy g4538 0 (by decide) (by decide)]; exact e4519
                    have e4542 : I4536 (ad g 0) 8 = w3421 := by rw [FC_at hy g4538 0 (by decide) (by decide)]; exact e4520
                    have e4543 : I4536 (ad g 0) 9 = w3422 := by rw [FC_at hy g4538 0 (by decide) (by decide)]; exact e4521
                    have e4544 : I4536 (ad g 0) 15 = w3424 := by rw [FC_at hy g4538 0 (by decide) (by decide)]; exact e4522
                    have e4545 : I4536 (ad g 0) 10 = w3424 := by rw [FC_at hy g4538 0 (by decide) (by decide)]; exact e4523
                    have e4546 : I4536 (ad g 0) 16 = w3433 := by rw [FC_at hy g4538 0 (by decide) (by decide)]; exact e4524
                    have e4547 : I4536 (ad g 0) 11 = w3433 := by rw [FC_at hy g4538 0 (by decide) (by decide)]; exact e4525
                    have e4548 : I4536 (ad g 0) 17 = w3444 := by rw [FC_at hy g4538 0 (by decide) (by decide)]; exact e4526
                    have e4549 : I4536 (ad g 0) 13 = w3444 := by rw [FC_at hy g4538 0 (by decide) (by decide)]; exact e4527
                    have e4550 : I4536 (ad g 0) 18 = w3457 := by rw [FC_at hy g4538 0 (by decide) (by decide)]; exact e4528
                    have e4551 : I4536 (ad g 0) 14 = v4315 := by rw [FC_at hy g4538 0 (by decide) (by decide)]; exact e4529
                    have e4552 : I4536 (ad g 0) 19 = w4330 := by rw [FC_at hy g4538 0 (by decide) (by decide)]; exact e4530
                    have e4553 : I4536 (ad g 0) 12 = w4330 := by rw [FC_at hy g4538 0 (by decide) (by decide)]; exact e4531
                    have fI4554 : FC g [0, 6, 7, 8, 9, 10, 11, 12, 13, 14, 15, 16, 17, 18, 19, 20, 21, 22, 23, 24, 25, 26, 27, 28, 29, 30, 31, 32, 33, 34, 37, 38, 44, 46, 47] I I4536 := FC_tr fI4532 (FC_mono g4538 (by decide))
                    have fJ4555 : FC g [0, 2, 3, 4, 5] J J4537 := FC_tr fJ4533 (FC_mono g4539 (by decide))
                    have fQ4556 : FQ g [1, 2, 3, 4, 5, 6, 7, 8, 9, 10, 11, 12, 13, 14, 15, 16, 17, 18, 19, 51, 68] I I4536 := FQ_tr fQ4534 (FQ_mono g4540 (by decide))
                    try simp only [e4541, e4542, e4543, ew3395, ew3396, ew3397] at p4535
                    have d21 : ∀ q, q < 21 → I4536 (ad g 21) q = I3412 (ad g 28) q := fun q hq => by rw [p4535 q hq, FC_at hy g4516 28 (by decide) (by decide), FC_at hy g4494 28 (by decide) (by decide), FC_at hy g4472 28 (by decide) (by decide), FC_at hy g4450 28 (by decide) (by decide), FC_at hy g4428 28 (by decide) (by decide), FC_at hy g4406 28 (by decide) (by decide), FC_at hy g4384 28 (by decide) (by decide), FC_at hy g4362 28 (by decide) (by decide), eI4331, pp_off _ _ (ly_ne hy (by decide) (by decide) (by decide)), eI4316, pp_off _ _ (ly_ne hy (by decide) (by decide) (by decide)), eI3445, pp_off _ _ (ly_ne hy (by decide) (by decide) (by decide)), eI3434, pp_off _ _ (ly_ne hy (by decide) (by decide) (by decide)), eI3425, pp_off _ _ (ly_ne hy (by decide) (by decide) (by decide))]
                    refine WP_aload_n dX11_town_231 rfl ?_
                    refine WP_getr dX11_town_232 fX11_257 rfl (ly_is hy 0 11 rfl) (rf hr 0 40 22 (by decide)) ?_
                    refine WP_aload_n dX11_town_235 rfl ?_
                    refine WP_getr dX11_town_236 fX11_141 rfl (ly_is hy 0 11 rfl) (rf hr 0 46 28 (by decide)) ?_
                    refine WP_callS2 dX11_town_239 ⟨⟨⟨by decide, by decide⟩, zX11_copy⟩, lX11_338, tX11_copy⟩ (em_copy22 hy hr   ) (Nat.le_of_ble_eq_true rfl) ?_
                    intro r I4558 J4559 Ra hq
                    obtain ⟨ec, g4560, g4561, g4562, er, p4557⟩ := hq
                    rw [ec, er]
                    clear ec er Ra r
                    have e4563 : I4558 (ad g 0) 1 = w3407 := by rw [FC_at hy g4560 0 (by decide) (by decide)]; exact e4541
                    have e4564 : I4558 (ad g 0) 8 = w3421 := by rw [FC_at hy g4560 0 (by decide) (by decide)]; exact e4542
                    have e4565 : I4558 (ad g 0) 9 = w3422 := by rw [FC_at hy g4560 0 (by decide) (by decide)]; exact e4543
                    have e4566 : I4558 (ad g 0) 15 = w3424 := by rw [FC_at hy g4560 0 (by decide) (by decide)]; exact e4544
                    have e4567 : I4558 (ad g 0) 10 = w3424 := by rw [FC_at hy g4560 0 (by decide) (by decide)]; exact e4545
                    have e4568 : I4558 (ad g 0) 16 = w3433 := by rw [FC_at hy g4560 0 (by decide) (by decide)]; exact e4546
                    have e4569 : I4558 (ad g 0) 11 = w3433 := by rw [FC_at hy g4560 0 (by decide) (by decide)]; exact e4547
                    have e4570 : I4558 (ad g 0) 17 = w3444 := by rw [FC_at hy g4560 0 (by decide) (by decide)]; exact e4548
                    have e4571 : I4558 (ad g 0) 13 = w3444 := by rw [FC_at hy g4560 0 (by decide) (by decide)]; exact e4549
                    have e4572 : I4558 (ad g 0) 18 = w3457 := by rw [FC_at hy g4560 0 (by decide) (by decide)]; exact e4550
                    have e4573 : I4558 (ad g 0) 14 = v4315 := by rw [FC_at hy g4560 0 (by decide) (by decide)]; exact e4551
                    have e4574 : I4558 (ad g 0) 19 = w4330 := by rw [FC_at hy g4560 0 (by decide) (by decide)]; exact e4552
                    have e4575 : I4558 (ad g 0) 12 = w4330 := by rw [FC_at hy g4560 0 (by decide) (by decide)]; exact e4553
                    have fI4576 : FC g [0, 6, 7, 8, 9, 10, 11, 12, 13, 14, 15, 16, 17, 18, 19, 20, 21, 22, 23, 24, 25, 26, 27, 28, 29, 30, 31, 32, 33, 34, 37, 38, 44, 46, 47] I I4558 := FC_tr fI4554 (FC_mono g4560 (by decide))
                    have fJ4577 : FC g [0, 2, 3, 4, 5] J J4559 := FC_tr fJ4555 (FC_mono g4561 (by decide))
                    have fQ4578 : FQ g [1, 2, 3, 4, 5, 6, 7, 8, 9, 10, 11, 12, 13, 14, 15, 16, 17, 18, 19, 51, 68] I I4558 := FQ_tr fQ4556 (FQ_mono g4562 (by decide))
                    try simp only [e4563, e4564, e4565, ew3395, ew3396, ew3397] at p4557
                    have d22 : ∀ q, q < 21 → I4558 (ad g 22) q = I3412 (ad g 28) q := fun q hq => by rw [p4557 q hq, FC_at hy g4538 28 (by decide) (by decide), FC_at hy g4516 28 (by decide) (by decide), FC_at hy g4494 28 (by decide) (by decide), FC_at hy g4472 28 (by decide) (by decide), FC_at hy g4450 28 (by decide) (by decide), FC_at hy g4428 28 (by decide) (by decide), FC_at hy g4406 28 (by decide) (by decide), FC_at hy g4384 28 (by decide) (by decide), FC_at hy g4362 28 (by decide) (by decide), eI4331, pp_off _ _ (ly_ne hy (by decide) (by decide) (by decide)), eI4316, pp_off _ _ (ly_ne hy (by decide) (by decide) (by decide)), eI3445, pp_off _ _ (ly_ne hy (by decide) (by decide) (by decide)), eI3434, pp_off _ _ (ly_ne hy (by decide) (by decide) (by decide)), eI3425, pp_off _ _ (ly_ne hy (by decide) (by decide) (by decide))]
                    refine WP_aload_n dX11_town_242 rfl ?_
                    refine WP_getr dX11_town_243 fX11_259 rfl (ly_is hy 0 11 rfl) (rf hr 0 41 23 (by decide)) ?_
                    refine WP_aload_n dX11_town_246 rfl ?_
                    refine WP_getr dX11_town_247 fX11_144 rfl (ly_is hy 0 11 rfl) (rf hr 0 47 29 (by decide)) ?_
                    refine WP_callS2 dX11_town_250 ⟨⟨⟨by decide, by decide⟩, zX11_copy⟩, lX11_338, tX11_copy⟩ (em_copy23 hy hr   ) (Nat.le_of_ble_eq_true rfl) ?_
                    intro r I4580 J4581 Ra hq
                    obtain ⟨ec, g4582, g4583, g4584, er, p4579⟩ := hq
                    rw [ec, er]
                    clear ec er Ra r
                    have e4585 : I4580 (ad g 0) 1 = w3407 := by rw [FC_at hy g4582 0 (by decide) (by decide)]; exact e4563
                    have e4586 : I4580 (ad g 0) 8 = w3421 := by rw [FC_at hy g4582 0 (by decide) (by decide)]; exact e4564
                    have e4587 : I4580 (ad g 0) 9 = w3422 := by rw [FC_at hy g4582 0 (by decide) (by decide)]; exact e4565
                    have e4588 : I4580 (ad g 0) 15 = w3424 := by rw [FC_at hy g4582 0 (by decide) (by decide)]; exact e4566
                    have e4589 : I4580 (ad g 0) 10 = w3424 := by rw [FC_at hy g4582 0 (by decide) (by decide)]; exact e4567
                    have e4590 : I4580 (ad g 0) 16 = w3433 := by rw [FC_at hy g4582 0 (by decide) (by decide)]; exact e4568
                    have e4591 : I4580 (ad g 0) 11 = w3433 := by rw [FC_at hy g4582 0 (by decide) (by decide)]; exact e4569
                    have e4592 : I4580 (ad g 0) 17 = w3444 := by rw [FC_at hy g4582 0 (by decide) (by decide)]; exact e4570
                    have e4593 : I4580 (ad g 0) 13 = w3444 := by rw [FC_at hy g4582 0 (by decide) (by decide)]; exact e4571
                    have e4594 : I4580 (ad g 0) 18 = w3457 := by rw [FC_at hy g4582 0 (by decide) (by decide)]; exact e4572
                    have e4595 : I4580 (ad g 0) 14 = v4315 := by rw [FC_at hy g4582 0 (by decide) (by decide)]; exact e4573
                    have e4596 : I4580 (ad g 0) 19 = w4330 := by rw [FC_at hy g4582 0 (by decide) (by decide)]; exact e4574
                    have e4597 : I4580 (ad g 0) 12 = w4330 := by rw [FC_at hy g4582 0 (by decide) (by decide)]; exact e4575
                    have fI4598 : FC g [0, 6, 7, 8, 9, 10, 11, 12, 13, 14, 15, 16, 17, 18, 19, 20, 21, 22, 23, 24, 25, 26, 27, 28, 29, 30, 31, 32, 33, 34, 37, 38, 44, 46, 47] I I4580 := FC_tr fI4576 (FC_mono g4582 (by decide))
                    have fJ4599 : FC g [0, 2, 3, 4, 5] J J4581 := FC_tr fJ4577 (FC_mono g4583 (by decide))
                    have fQ4600 : FQ g [1, 2, 3, 4, 5, 6, 7, 8, 9, 10, 11, 12, 13, 14, 15, 16, 17, 18, 19, 51, 68] I I4580 := FQ_tr fQ4578 (FQ_mono g4584 (by decide))
                    try simp only [e4585, e4586, e4587, ew3395, ew3396, ew3397] at p4579
                    have d23 : ∀ q, q < 21 → I4580 (ad g 23) q = I3412 (ad g 29) q := fun q hq => by rw [p4579 q hq, FC_at hy g4560 29 (by decide) (by decide), FC_at hy g4538 29 (by decide) (by decide), FC_at hy g4516 29 (by decide) (by decide), FC_at hy g4494 29 (by decide) (by decide), FC_at hy g4472 29 (by decide) (by decide), FC_at hy g4450 29 (by decide) (by decide), FC_at hy g4428 29 (by decide) (by decide), FC_at hy g4406 29 (by decide) (by decide), FC_at hy g4384 29 (by decide) (by decide), FC_at hy g4362 29 (by decide) (by decide), eI4331, pp_off _ _ (ly_ne hy (by decide) (by decide) (by decide)), eI4316, pp_off _ _ (ly_ne hy (by decide) (by decide) (by decide)), eI3445, pp_off _ _ (ly_ne hy (by decide) (by decide) (by decide)), eI3434, pp_off _ _ (ly_ne hy (by decide) (by decide) (by decide)), eI3425, pp_off _ _ (ly_ne hy (by decide) (by decide) (by decide))]
                    refine WP_aload_n dX11_town_253 rfl ?_
                    refine WP_getr dX11_town_254 fX11_261 rfl (ly_is hy 0 11 rfl) (rf hr 0 42 24 (by decide)) ?_
                    refine WP_aload_n dX11_town_257 rfl ?_
                    refine WP_getr dX11_town_258 fX11_117 rfl (ly_is hy 0 11 rfl) (rf hr 0 48 30 (by decide)) ?_
                    refine WP_callS2 dX11_town_261 ⟨⟨⟨by decide, by decide⟩, zX11_copy⟩, lX11_338, tX11_copy⟩ (em_copy24 hy hr   ) (Nat.le_of_ble_eq_true rfl) ?_
                    intro r I4602 J4603 Ra hq
                    obtain ⟨ec, g4604, g4605, g4606, er, p4601⟩ := hq
                    rw [ec, er]
                    clear ec er Ra r
                    have e4607 : I4602 (ad g 0) 1 = w3407 := by rw [FC_at hy g4604 0 (by decide) (by decide)]; exact e4585
                    have e4608 : I4602 (ad g 0) 8 = w3421 := by rw [FC_at hy g4604 0 (by decide) (by decide)]; exact e4586
                    have e4609 : I4602 (ad g 0) 9 = w3422 := by rw [FC_at hy g4604 0 (by decide) (by decide)]; exact e4587
                    have e4610 : I4602 (ad g 0) 15 = w3424 := by rw [FC_at hy g4604 0 (by decide) (by decide)]; exact e4588
                    have e4611 : I4602 (ad g 0) 10 = w3424 := by rw [FC_at hy g4604 0 (by decide) (by decide)]; exact e4589
                    have e4612 : I4602 (ad g 0) 16 = w3433 := by rw [FC_at hy g4604 0 (by decide) (by decide)]; exact e4590
                    have e4613 : I4602 (ad g 0) 11 = w3433 := by rw [FC_at hy g4604 0 (by decide) (by decide)]; exact e4591
                    have e4614 : I4602 (ad g 0) 17 = w3444 := by rw [FC_at hy g4604 0 (by decide) (by decide)]; exact e4592
                    have e4615 : I4602 (ad g 0) 13 = w3444 := by rw [FC_at hy g4604 0 (by decide) (by decide)]; exact e4593
                    have e4616 : I4602 (ad g 0) 18 = w3457 := by rw [FC_at hy g4604 0 (by decide) (by decide)]; exact e4594
                    have e4617 : I4602 (ad g 0) 14 = v4315 := by rw [FC_at hy g4604 0 (by decide) (by decide)]; exact e4595
                    have e4618 : I4602 (ad g 0) 19 = w4330 := by rw [FC_at hy g4604 0 (by decide) (by decide)]; exact e4596
                    have e4619 : I4602 (ad g 0) 12 = w4330 := by rw [FC_at hy g4604 0 (by decide) (by decide)]; exact e4597
                    have fI4620 : FC g [0, 6, 7, 8, 9, 10, 11, 12, 13, 14, 15, 16, 17, 18, 19, 20, 21, 22, 23, 24, 25, 26, 27, 28, 29, 30, 31, 32, 33, 34, 37, 38, 44, 46, 47] I I4602 := FC_tr fI4598 (FC_mono g4604 (by decide))
                    have fJ4621 : FC g [0, 2, 3, 4, 5] J J4603 := FC_tr fJ4599 (FC_mono g4605 (by decide))
                    have fQ4622 : FQ g [1, 2, 3, 4, 5, 6, 7, 8, 9, 10, 11, 12, 13, 14, 15, 16, 17, 18, 19, 51, 68] I I4602 := FQ_tr fQ4600 (FQ_mono g4606 (by decide))
                    try simp only [e4607, e4608, e4609, ew3395, ew3396, ew3397] at p4601
                    have d24 : ∀ q, q < 28 → I4602 (ad g 24) q = I3412 (ad g 30) q := fun q hq => by rw [p4601 q hq, FC_at hy g4582 30 (by decide) (by decide), FC_at hy g4560 30 (by decide) (by decide), FC_at hy g4538 30 (by decide) (by decide), FC_at hy g4516 30 (by decide) (by decide), FC_at hy g4494 30 (by decide) (by decide), FC_at hy g4472 30 (by decide) (by decide), FC_at hy g4450 30 (by decide) (by decide), FC_at hy g4428 30 (by decide) (by decide), FC_at hy g4406 30 (by decide) (by decide), FC_at hy g4384 30 (by decide) (by decide), FC_at hy g4362 30 (by decide) (by decide), eI4331, pp_off _ _ (ly_ne hy (by decide) (by decide) (by decide)), eI4316, pp_off _ _ (ly_ne hy (by decide) (by decide) (by decide)), eI3445, pp_off _ _ (ly_ne hy (by decide) (by decide) (by decide)), eI3434, pp_off _ _ (ly_ne hy (by decide) (by decide) (by decide)), eI3425, pp_off _ _ (ly_ne hy (by decide) (by decide) (by decide))]
                    refine WP_aload_n dX11_town_264 rfl ?_
                    refine WP_getr dX11_town_265 fX11_264 rfl (ly_is hy 0 11 rfl) (rf hr 0 43 25 (by decide)) ?_
                    refine WP_aload_n dX11_town_268 rfl ?_
                    refine WP_getr dX11_town_269 fX11_120 rfl (ly_is hy 0 11 rfl) (rf hr 0 49 31 (by decide)) ?_
                    refine WP_callS2 dX11_town_272 ⟨⟨⟨by decide, by decide⟩, zX11_copy⟩, lX11_338, tX11_copy⟩ (em_copy25 hy hr   ) (Nat.le_of_ble_eq_true rfl) ?_
                    intro r I4624 J4625 Ra hq
                    obtain ⟨ec, g4626, g4627, g4628, er, p4623⟩ := hq
                    rw [ec, er]
                    clear ec er Ra r
                    have e4629 : I4624 (ad g 0) 1 = w3407 := by rw [FC_at hy g4626 0 (by decide) (by decide)]; exact e4607
                    have e4630 : I4624 (ad g 0) 8 = w3421 := by rw [FC_at hy g4626 0 (by decide) (by decide)]; exact e4608
                    have e4631 : I4624 (ad g 0) 9 = w3422 := by rw [FC_at hy g4626 0 (by decide) (by decide)]; exact e4609
                    have e4632 : I4624 (ad g 0) 15 = w3424 := by rw [FC_at hy g4626 0 (by decide) (by decide)]; exact e4610
                    have e4633 : I4624 (ad g 0) 10 = w3424 := by rw [FC_at hy g4626 0 (by decide) (by decide)]; exact e4611
                    have e4634 : I4624 (ad g 0) 16 = w3433 := by rw [FC_at hy g4626 0 (by decide) (by decide)]; exact e4612
                    have e4635 : I4624 (ad g 0) 11 = w3433 := by rw [FC_at hy g4626 0 (by decide) (by decide)]; exact e4613
                    have e4636 : I4624 (ad g 0) 17 = w3444 := by rw [FC_at hy g4626 0 (by decide) (by decide)]; exact e4614
                    have e4637 : I4624 (ad g 0) 13 = w3444 := by rw [FC_at hy g4626 0 (by decide) (by decide)]; exact e4615
                    have e4638 : I4624 (ad g 0) 18 = w3457 := by rw [FC_at hy g4626 0 (by decide) (by decide)]; exact e4616
                    have e4639 : I4624 (ad g 0) 14 = v4315 := by rw [FC_at hy g4626 0 (by decide) (by decide)]; exact e4617
                    have e4640 : I4624 (ad g 0) 19 = w4330 := by rw [FC_at hy g4626 0 (by decide) (by decide)]; exact e4618
                    have e4641 : I4624 (ad g 0) 12 = w4330 := by rw [FC_at hy g4626 0 (by decide) (by decide)]; exact e4619
                    have fI4642 : FC g [0, 6, 7, 8, 9, 10, 11, 12, 13, 14, 15, 16, 17, 18, 19, 20, 21, 22, 23, 24, 25, 26, 27, 28, 29, 30, 31, 32, 33, 34, 37, 38, 44, 46, 47] I I4624 := FC_tr fI4620 (FC_mono g4626 (by decide))
                    have fJ4643 : FC g [0, 2, 3, 4, 5] J J4625 := FC_tr fJ4621 (FC_mono g4627 (by decide))
                    have fQ4644 : FQ g [1, 2, 3, 4, 5, 6, 7, 8, 9, 10, 11, 12, 13, 14, 15, 16, 17, 18, 19, 51, 68] I I4624 := FQ_tr fQ4622 (FQ_mono g4628 (by decide))
                    try simp only [e4629, e4630, e4631, ew3395, ew3396, ew3397] at p4623
                    have d25 : ∀ q, q < 28 → I4624 (ad g 25) q = I3412 (ad g 31) q := fun q hq => by rw [p4623 q hq, FC_at hy g4604 31 (by decide) (by decide), FC_at hy g4582 31 (by decide) (by decide), FC_at hy g4560 31 (by decide) (by decide), FC_at hy g4538 31 (by decide) (by decide), FC_at hy g4516 31 (by decide) (by decide), FC_at hy g4494 31 (by decide) (by decide), FC_at hy g4472 31 (by decide) (by decide), FC_at hy g4450 31 (by decide) (by decide), FC_at hy g4428 31 (by decide) (by decide), FC_at hy g4406 31 (by decide) (by decide), FC_at hy g4384 31 (by decide) (by decide), FC_at hy g4362 31 (by decide) (by decide), eI4331, pp_off _ _ (ly_ne hy (by decide) (by decide) (by decide)), eI4316, pp_off _ _ (ly_ne hy (by decide) (by decide) (by decide)), eI3445, pp_off _ _ (ly_ne hy (by decide) (by decide) (by decide)), eI3434, pp_off _ _ (ly_ne hy (by decide) (by decide) (by decide)), eI3425, pp_off _ _ (ly_ne hy (by decide) (by decide) (by decide))]
                    refine WP_aload_n dX11_town_275 rfl ?_
                    refine WP_getr dX11_town_276 fX11_267 rfl (ly_is hy 0 11 rfl) (rf hr 0 44 26 (by decide)) ?_
                    refine WP_aload_n dX11_town_279 rfl ?_
                    refine WP_getr dX11_town_280 fX11_123 rfl (ly_is hy 0 11 rfl) (rf hr 0 50 32 (by decide)) ?_
                    refine WP_callS2 dX11_town_283 ⟨⟨⟨by decide, by decide⟩, zX11_copy⟩, lX11_338, tX11_copy⟩ (em_copy26 hy hr   ) (Nat.le_of_ble_eq_true rfl) ?_
                    intro r I4646 J4647 Ra hq
                    obtain ⟨ec, g4648, g4649, g4650, er, p4645⟩ := hq
                    rw [ec, er]
                    clear ec er Ra r
                    have e4651 : I4646 (ad g 0) 1 = w3407 := by rw [FC_at hy g4648 0 (by decide) (by decide)]; exact e4629
                    have e4652 : I4646 (ad g 0) 8 = w3421 := by rw [FC_at hy g4648 0 (by decide) (by decide)]; exact e4630
                    have e4653 : I4646 (ad g 0) 9 = w3422 := by rw [FC_at hy g4648 0 (by decide) (by decide)]; exact e4631
                    have e4654 : I4646 (ad g 0) 15 = w3424 := by rw [FC_at hy g4648 0 (by decide) (by decide)]; exact e4632
                    have e4655 : I4646 (ad g 0) 10 = w3424 := by rw [FC_at hy g4648 0 (by decide) (by decide)]; exact e4633
                    have e4656 : I4646 (ad g 0) 16 = w3433 := by rw [FC_at hy g4648 0 (by decide) (by decide)]; exact e4634
                    have e4657 : I4646 (ad g 0) 11 = w3433 := by rw [FC_at hy g4648 0 (by decide) (by decide)]; exact e4635
                    have e4658 : I4646 (ad g 0) 17 = w3444 := by rw [FC_at hy g4648 0 (by decide) (by decide)]; exact e4636
                    have e4659 : I4646 (ad g 0) 13 = w3444 := by rw [FC_at hy g4648 0 (by decide) (by decide)]; exact e4637
                    have e4660 : I4646 (ad g 0) 18 = w3457 := by rw [FC_at hy g4648 0 (by decide) (by decide)]; exact e4638
                    have e4661 : I4646 (ad g 0) 14 = v4315 := by rw [FC_at hy g4648 0 (by decide) (by decide)]; exact e4639
                    have e4662 : I4646 (ad g 0) 19 = w4330 := by rw [FC_at hy g4648 0 (by decide) (by decide)]; exact e4640
                    have e4663 : I4646 (ad g 0) 12 = w4330 := by rw [FC_at hy g4648 0 (by decide) (by decide)]; exact e4641
                    have fI4664 : FC g [0, 6, 7, 8, 9, 10, 11, 12, 13, 14, 15, 16, 17, 18, 19, 20, 21, 22, 23, 24, 25, 26, 27, 28, 29, 30, 31, 32, 33, 34, 37, 38, 44, 46, 47] I I4646 := FC_tr fI4642 (FC_mono g4648 (by decide))
                    have fJ4665 : FC g [0, 2, 3, 4, 5] J J4647 := FC_tr fJ4643 (FC_mono g4649 (by decide))
                    have fQ4666 : FQ g [1, 2, 3, 4, 5, 6, 7, 8, 9, 10, 11, 12, 13, 14, 15, 16, 17, 18, 19, 51, 68] I I4646 := FQ_tr fQ4644 (FQ_mono g4650 (by decide))
                    try simp only [e4651, e4652, e4653, ew3395, ew3396, ew3397] at p4645
                    have d26 : ∀ q, q < 28 → I4646 (ad g 26) q = I3412 (ad g 32) q := fun q hq => by rw [p4645 q hq, FC_at hy g4626 32 (by decide) (by decide), FC_at hy g4604 32 (by decide) (by decide), FC_at hy g4582 32 (by decide) (by decide), FC_at hy g4560 32 (by decide) (by decide), FC_at hy g4538 32 (by decide) (by decide), FC_at hy g4516 32 (by decide) (by decide), FC_at hy g4494 32 (by decide) (by decide), FC_at hy g4472 32 (by decide) (by decide), FC_at hy g4450 32 (by decide) (by decide), FC_at hy g4428 32 (by decide) (by decide), FC_at hy g4406 32 (by decide) (by decide), FC_at hy g4384 32 (by decide) (by decide), FC_at hy g4362 32 (by decide) (by decide), eI4331, pp_off _ _ (ly_ne hy (by decide) (by decide) (by decide)), eI4316, pp_off _ _ (ly_ne hy (by decide) (by decide) (by decide)), eI3445, pp_off _ _ (ly_ne hy (by decide) (by decide) (by decide)), eI3434, pp_off _ _ (ly_ne hy (by decide) (by decide) (by decide)), eI3425, pp_off _ _ (ly_ne hy (by decide) (by decide) (by decide))]
                    refine WQ_iconst (0) (0) dX11_town_286 rfl rfl (fun v4667 hv4667 => ?_)
                    refine WP_istore_n (ls' := [(0, _), (1, _)]) dX11_town_287 (by decide) rfl ?_
                    refine WP_iload_n dX11_town_288 rfl ?_
                    refine WQ_iconst (4) (4) dX11_town_289 rfl rfl (fun v4668 hv4668 => ?_)
                    refine WQ_icmp_ge 323 dX11_town_290 rfl (fun c4668 => False.elim (by omega)) (fun c4668 => ?_)
                    refine WP_aload_n dX11_town_293 rfl ?_
                    refine WP_getr dX11_town_294 fX11_283 rfl (ly_is hy 0 11 rfl) (rf hr 0 59 38 (by decide)) ?_
                    refine WQ_bipush (28) (28) dX11_town_297 rfl rfl (fun v4670 hv4670 => ?_)
                    refine WP_iload_n dX11_town_299 rfl ?_
                    refine WQ_iadd dX11_town_300 (by omega) (by omega) (fun v4671 hv4671 => ?_)
                    have kv4671 : v4671.toInt = 28 := by omega
                    clear hv4671; have hv4671 := kv4671; clear kv4671
                    refine WQ_iconst (1) (1) dX11_town_301 rfl rfl (fun v4672 hv4672 => ?_)
                    refine WE_is dX11_town_302 (ly_is hy 38 13 rfl) (ly_n hy 38 35 rfl) (by omega) (by omega) (fun I4673 eI4673 => ?_)
                    rw [show v4671.toInt.toNat = 28 by omega] at eI4673
                    have e4674 : I4673 (ad g 0) 1 = w3407 := by rw [eI4673, pp_ne _ _ (Or.inl (ly_ne hy (by decide) (by decide) (by decide)))]; exact e4651
                    have e4675 : I4673 (ad g 0) 8 = w3421 := by rw [eI4673, pp_ne _ _ (Or.inl (ly_ne hy (by decide) (by decide) (by decide)))]; exact e4652
                    have e4676 : I4673 (ad g 0) 9 = w3422 := by rw [eI4673, pp_ne _ _ (Or.inl (ly_ne hy (by decide) (by decide) (by decide)))]; exact e4653
                    have e4677 : I4673 (ad g 0) 15 = w3424 := by rw [eI4673, pp_ne _ _ (Or.inl (ly_ne hy (by decide) (by decide) (by decide)))]; exact e4654
                    have e4678 : I4673 (ad g 0) 10 = w3424 := by rw [eI4673, pp_ne _ _ (Or.inl (ly_ne hy (by decide) (by decide) (by decide)))]; exact e4655
                    have e4679 : I4673 (ad g 0) 16 = w3433 := by rw [eI4673, pp_ne _ _ (Or.inl (ly_ne hy (by decide) (by decide) (by decide)))]; exact e4656
                    have e4680 : I4673 (ad g 0) 11 = w3433 := by rw [eI4673, pp_ne _ _ (Or.inl (ly_ne hy (by decide) (by decide) (by decide)))]; exact e4657
                    have e4681 : I4673 (ad g 0) 17 = w3444 := by rw [eI4673, pp_ne _ _ (Or.inl (ly_ne hy (by decide) (by decide) (by decide)))]; exact e4658
                    have e4682 : I4673 (ad g 0) 13 = w3444 := by rw [eI4673, pp_ne _ _ (Or.inl (ly_ne hy (by decide) (by decide) (by decide)))]; exact e4659
                    have e4683 : I4673 (ad g 0) 18 = w3457 := by rw [eI4673, pp_ne _ _ (Or.inl (ly_ne hy (by decide) (by decide) (by decide)))]; exact e4660
                    have e4684 : I4673 (ad g 0) 14 = v4315 := by rw [eI4673, pp_ne _ _ (Or.inl (ly_ne hy (by decide) (by decide) (by decide)))]; exact e4661
                    have e4685 : I4673 (ad g 0) 19 = w4330 := by rw [eI4673, pp_ne _ _ (Or.inl (ly_ne hy (by decide) (by decide) (by decide)))]; exact e4662
                    have e4686 : I4673 (ad g 0) 12 = w4330 := by rw [eI4673, pp_ne _ _ (Or.inl (ly_ne hy (by decide) (by decide) (by decide)))]; exact e4663
                    have e4687 : I4673 (ad g 38) 28 = v4672 := by rw [eI4673, pp_self]
                    have fI4688 : FC g [0, 6, 7, 8, 9, 10, 11, 12, 13, 14, 15, 16, 17, 18, 19, 20, 21, 22, 23, 24, 25, 26, 27, 28, 29, 30, 31, 32, 33, 34, 37, 38, 44, 46, 47] I I4673 := by rw [eI4673]; exact FC_pp fI4664 (by decide)
                    have fQ4689 : FQ g [1, 2, 3, 4, 5, 6, 7, 8, 9, 10, 11, 12, 13, 14, 15, 16, 17, 18, 19, 51, 68] I I4673 := by rw [eI4673]; exact FQ_ppn (ly_ne hy (by decide) (by decide) (by decide)) fQ4666
                    refine WP_aload_n dX11_town_303 rfl ?_
                    refine WP_getr dX11_town_304 fX11_310 rfl (ly_is hy 0 11 rfl) (rf hr 0 71 46 (by decide)) ?_
                    refine WP_iload_n dX11_town_307 rfl ?_
                    refine WQ_iconst (0) (0) dX11_town_308 rfl rfl (fun v4690 hv4690 => ?_)
                    refine WE_is dX11_town_309 (ly_is hy 46 13 rfl) (ly_n hy 46 4 rfl) (by omega) (by omega) (fun I4691 eI4691 => ?_)
                    rw [show v4667.toInt.toNat = 0 by omega] at eI4691
                    have e4692 : I4691 (ad g 0) 1 = w3407 := by rw [eI4691, pp_ne _ _ (Or.inl (ly_ne hy (by decide) (by decide) (by decide)))]; exact e4674
                    have e4693 : I4691 (ad g 0) 8 = w3421 := by rw [eI4691, pp_ne _ _ (Or.inl (ly_ne hy (by decide) (by decide) (by decide)))]; exact e4675
                    have e4694 : I4691 (ad g 0) 9 = w3422 := by rw [eI4691, pp_ne _ _ (Or.inl (ly_ne hy (by decide) (by decide) (by decide)))]; exact e4676
                    have e4695 : I4691 (ad g 0) 15 = w3424 := by rw [eI4691, pp_ne _ _ (Or.inl (ly_ne hy (by decide) (by decide) (by decide)))]; exact e4677
                    have e4696 : I4691 (ad g 0) 10 = w3424 := by rw [eI4691, pp_ne _ _ (Or.inl (ly_ne hy (by decide) (by decide) (by decide)))]; exact e4678
                    have e4697 : I4691 (ad g 0) 16 = w3433 := by rw [eI4691, pp_ne _ _ (Or.inl (ly_ne hy (by decide) (by decide) (by decide)))]; exact e4679
                    have e4698 : I4691 (ad g 0) 11 = w3433 := by rw [eI4691, pp_ne _ _ (Or.inl (ly_ne hy (by decide) (by decide) (by decide)))]; exact e4680
                    have e4699 : I4691 (ad g 0) 17 = w3444 := by rw [eI4691, pp_ne _ _ (Or.inl (ly_ne hy (by decide) (by decide) (by decide)))]; exact e4681
                    have e4700 : I4691 (ad g 0) 13 = w3444 := by rw [eI4691, pp_ne _ _ (Or.inl (ly_ne hy (by decide) (by decide) (by decide)))]; exact e4682
                    have e4701 : I4691 (ad g 0) 18 = w3457 := by rw [eI4691, pp_ne _ _ (Or.inl (ly_ne hy (by decide) (by decide) (by decide)))]; exact e4683
                    have e4702 : I4691 (ad g 0) 14 = v4315 := by rw [eI4691, pp_ne _ _ (Or.inl (ly_ne hy (by decide) (by decide) (by decide)))]; exact e4684
                    have e4703 : I4691 (ad g 0) 19 = w4330 := by rw [eI4691, pp_ne _ _ (Or.inl (ly_ne hy (by decide) (by decide) (by decide)))]; exact e4685
                    have e4704 : I4691 (ad g 0) 12 = w4330 := by rw [eI4691, pp_ne _ _ (Or.inl (ly_ne hy (by decide) (by decide) (by decide)))]; exact e4686
                    have e4705 : I4691 (ad g 38) 28 = v4672 := by rw [eI4691, pp_ne _ _ (Or.inl (ly_ne hy (by decide) (by decide) (by decide)))]; exact e4687
                    have e4706 : I4691 (ad g 46) 0 = v4690 := by rw [eI4691, pp_self]
                    have fI4707 : FC g [0, 6, 7, 8, 9, 10, 11, 12, 13, 14, 15, 16, 17, 18, 19, 20, 21, 22, 23, 24, 25, 26, 27, 28, 29, 30, 31, 32, 33, 34, 37, 38, 44, 46, 47] I I4691 := by rw [eI4691]; exact FC_pp fI4688 (by decide)
                    have fQ4708 : FQ g [1, 2, 3, 4, 5, 6, 7, 8, 9, 10, 11, 12, 13, 14, 15, 16, 17, 18, 19, 51, 68] I I4691 := by rw [eI4691]; exact FQ_ppn (ly_ne hy (by decide) (by decide) (by decide)) fQ4689
                    refine WP_aload_n dX11_town_310 rfl ?_
                    refine WP_getr dX11_town_311 fX11_313 rfl (ly_is hy 0 11 rfl) (rf hr 0 72 47 (by decide)) ?_
                    refine WP_iload_n dX11_town_314 rfl ?_
                    refine WQ_iconst (0) (0) dX11_town_315 rfl rfl (fun v4709 hv4709 => ?_)
                    refine WE_is dX11_town_316 (ly_is hy 47 13 rfl) (ly_n hy 47 4 rfl) (by omega) (by omega) (fun I4710 eI4710 => ?_)
                    rw [show v4667.toInt.toNat = 0 by omega] at eI4710
                    have e4711 : I4710 (ad g 0) 1 = w3407 := by rw [eI4710, pp_ne _ _ (Or.inl (ly_ne hy (by decide) (by decide) (by decide)))]; exact e4692
                    have e4712 : I4710 (ad g 0) 8 = w3421 := by rw [eI4710, pp_ne _ _ (Or.inl (ly_ne hy (by decide) (by decide) (by decide)))]; exact e4693
                    have e4713 : I4710 (ad g 0) 9 = w3422 := by rw [eI4710, pp_ne _ _ (Or.inl (ly_ne hy (by decide) (by decide) (by decide)))]; exact e4694
                    have e4714 : I4710 (ad g 0) 15 = w3424 := by rw [eI4710, pp_ne _ _ (Or.inl (ly_ne hy (by decide) (by decide) (by decide)))]; exact e4695
                    have e4715 : I4710 (ad g 0) 10 = w3424 := by rw [eI4710, pp_ne _ _ (Or.inl (ly_ne hy (by decide) (by decide) (by decide)))]; exact e4696
                    have e4716 : I4710 (ad g 0) 16 = w3433 := by rw [eI4710, pp_ne _ _ (Or.inl (ly_ne hy (by decide) (by decide) (by decide)))]; exact e4697
                    have e4717 : I4710 (ad g 0) 11 = w3433 := by rw [eI4710, pp_ne _ _ (Or.inl (ly_ne hy (by decide) (by decide) (by decide)))]; exact e4698
                    have e4718 : I4710 (ad g 0) 17 = w3444 := by rw [eI4710, pp_ne _ _ (Or.inl (ly_ne hy (by decide) (by decide) (by decide)))]; exact e4699
                    have e4719 : I4710 (ad g 0) 13 = w3444 := by rw [eI4710, pp_ne _ _ (Or.inl (ly_ne hy (by decide) (by decide) (by decide)))]; exact e4700
                    have e4720 : I4710 (ad g 0) 18 = w3457 := by rw [eI4710, pp_ne _ _ (Or.inl (ly_ne hy (by decide) (by decide) (by decide)))]; exact e4701
                    have e4721 : I4710 (ad g 0) 14 = v4315 := by rw [eI4710, pp_ne _ _ (Or.inl (ly_ne hy (by decide) (by decide) (by decide)))]; exact e4702
                    have e4722 : I4710 (ad g 0) 19 = w4330 := by rw [eI4710, pp_ne _ _ (Or.inl (ly_ne hy (by decide) (by decide) (by decide)))]; exact e4703
                    have e4723 : I4710 (ad g 0) 12 = w4330 := by rw [eI4710, pp_ne _ _ (Or.inl (ly_ne hy (by decide) (by decide) (by decide)))]; exact e4704
                    have e4724 : I4710 (ad g 38) 28 = v4672 := by rw [eI4710, pp_ne _ _ (Or.inl (ly_ne hy (by decide) (by decide) (by decide)))]; exact e4705
                    have e4725 : I4710 (ad g 46) 0 = v4690 := by rw [eI4710, pp_ne _ _ (Or.inl (ly_ne hy (by decide) (by decide) (by decide)))]; exact e4706
                    have e4726 : I4710 (ad g 47) 0 = v4709 := by rw [eI4710, pp_self]
                    have fI4727 : FC g [0, 6, 7, 8, 9, 10, 11, 12, 13, 14, 15, 16, 17, 18, 19, 20, 21, 22, 23, 24, 25, 26, 27, 28, 29, 30, 31, 32, 33, 34, 37, 38, 44, 46, 47] I I4710 := by rw [eI4710]; exact FC_pp fI4707 (by decide)
                    have fQ4728 : FQ g [1, 2, 3, 4, 5, 6, 7, 8, 9, 10, 11, 12, 13, 14, 15, 16, 17, 18, 19, 51, 68] I I4710 := by rw [eI4710]; exact FQ_ppn (ly_ne hy (by decide) (by decide) (by decide)) fQ4708
                    refine WP_iinc (ls' := [(0, _), (1, _)]) dX11_town_317 rfl (by decide) rfl ?_
                    have hv4729 : (v4667 + Int32.ofInt (1)).toInt = v4667.toInt + (1) := ia_n rfl (by omega) (by omega)
                    generalize v4667 + Int32.ofInt (1) = v4729 at hv4729 ⊢
                    have kv4729 : v4729.toInt = 1 := by omega
                    clear hv4729; have hv4729 := kv4729; clear kv4729
                    refine WP_goto 288 dX11_town_320 rfl ?_
                    refine WP_iload_n dX11_town_288 rfl ?_
                    refine WQ_iconst (4) (4) dX11_town_289 rfl rfl (fun v4730 hv4730 => ?_)
                    refine WQ_icmp_ge 323 dX11_town_290 rfl (fun c4730 => False.elim (by omega)) (fun c4730 => ?_)
                    refine WP_aload_n dX11_town_293 rfl ?_
                    refine WP_getr dX11_town_294 fX11_283 rfl (ly_is hy 0 11 rfl) (rf hr 0 59 38 (by decide)) ?_
                    refine WQ_bipush (28) (28) dX11_town_297 rfl rfl (fun v4732 hv4732 => ?_)
                    refine WP_iload_n dX11_town_299 rfl ?_
                    refine WQ_iadd dX11_town_300 (by omega) (by omega) (fun v4733 hv4733 => ?_)
                    have kv4733 : v4733.toInt = 29 := by omega
                    clear hv4733; have hv4733 := kv4733; clear kv4733
                    refine WQ_iconst (1) (1) dX11_town_301 rfl rfl (fun v4734 hv4734 => ?_)
                    refine WE_is dX11_town_302 (ly_is hy 38 13 rfl) (ly_n hy 38 35 rfl) (by omega) (by omega) (fun I4735 eI4735 => ?_)
                    rw [show v4733.toInt.toNat = 29 by omega] at eI4735
                    have e4736 : I4735 (ad g 0) 1 = w3407 := by rw [eI4735, pp_ne _ _ (Or.inl (ly_ne hy (by decide) (by decide) (by decide)))]; exact e4711
                    have e4737 : I4735 (ad g 0) 8 = w3421 := by rw [eI4735, pp_ne _ _ (Or.inl (ly_ne hy (by decide) (by decide) (by decide)))]; exact e4712
                    have e4738 : I4735 (ad g 0) 9 = w3422 := by rw [eI4735, pp_ne _ _ (Or.inl (ly_ne hy (by decide) (by decide) (by decide)))]; exact e4713
                    have e4739 : I4735 (ad g 0) 15 = w3424 := by rw [eI4735, pp_ne _ _ (Or.inl (ly_ne hy (by decide) (by decide) (by decide)))]; exact e4714
                    have e4740 : I4735 (ad g 0) 10 = w3424 := by rw [eI4735, pp_ne _ _ (Or.inl (ly_ne hy (by decide) (by decide) (by decide)))]; exact e4715
                    have e4741 : I4735 (ad g 0) 16 = w3433 := by rw [eI4735, pp_ne _ _ (Or.inl (ly_ne hy (by decide) (by decide) (by decide)))]; exact e4716
                    have e4742 : I4735 (ad g 0) 11 = w3433 := by rw [eI4735, pp_ne _ _ (Or.inl (ly_ne hy (by decide) (by decide) (by decide)))]; exact e4717
                    have e4743 : I4735 (ad g 0) 17 = w3444 := by rw [eI4735, pp_ne _ _ (Or.inl (ly_ne hy (by decide) (by decide) (by decide)))]; exact e4718
                    have e4744 : I4735 (ad g 0) 13 = w3444 := by rw [eI4735, pp_ne _ _ (Or.inl (ly_ne hy (by decide) (by decide) (by decide)))]; exact e4719
                    have e4745 : I4735 (ad g 0) 18 = w3457 := by rw [eI4735, pp_ne _ _ (Or.inl (ly_ne hy (by decide) (by decide) (by decide)))]; exact e4720
                    have e4746 : I4735 (ad g 0) 14 = v4315 := by rw [eI4735, pp_ne _ _ (Or.inl (ly_ne hy (by decide) (by decide) (by decide)))]; exact e4721
                    have e4747 : I4735 (ad g 0) 19 = w4330 := by rw [eI4735, pp_ne _ _ (Or.inl (ly_ne hy (by decide) (by decide) (by decide)))]; exact e4722
                    have e4748 : I4735 (ad g 0) 12 = w4330 := by rw [eI4735, pp_ne _ _ (Or.inl (ly_ne hy (by decide) (by decide) (by decide)))]; exact e4723
                    have e4749 : I4735 (ad g 38) 28 = v4672 := by rw [eI4735, pp_ne _ _ (Or.inr (by decide))]; exact e4724
                    have e4750 : I4735 (ad g 46) 0 = v4690 := by rw [eI4735, pp_ne _ _ (Or.inl (ly_ne hy (by decide) (by decide) (by decide)))]; exact e4725
                    have e4751 : I4735 (ad g 47) 0 = v4709 := by rw [eI4735, pp_ne _ _ (Or.inl (ly_ne hy (by decide) (by decide) (by decide)))]; exact e4726
                    have e4752 : I4735 (ad g 38) 29 = v4734 := by rw [eI4735, pp_self]
                    have fI4753 : FC g [0, 6, 7, 8, 9, 10, 11, 12, 13, 14, 15, 16, 17, 18, 19, 20, 21, 22, 23, 24, 25, 26, 27, 28, 29, 30, 31, 32, 33, 34, 37, 38, 44, 46, 47] I I4735 := by rw [eI4735]; exact FC_pp fI4727 (by decide)
                    have fQ4754 : FQ g [1, 2, 3, 4, 5, 6, 7, 8, 9, 10, 11, 12, 13, 14, 15, 16, 17, 18, 19, 51, 68] I I4735 := by rw [eI4735]; exact FQ_ppn (ly_ne hy (by decide) (by decide) (by decide)) fQ4728
                    refine WP_aload_n dX11_town_303 rfl ?_
                    refine WP_getr dX11_town_304 fX11_310 rfl (ly_is hy 0 11 rfl) (rf hr 0 71 46 (by decide)) ?_
                    refine WP_iload_n dX11_town_307 rfl ?_
                    refine WQ_iconst (0) (0) dX11_town_308 rfl rfl (fun v4755 hv4755 => ?_)
                    refine WE_is dX11_town_309 (ly_is hy 46 13 rfl) (ly_n hy 46 4 rfl) (by omega) (by omega) (fun I4756 eI4756 => ?_)
                    rw [show v4729.toInt.toNat = 1 by omega] at eI4756
                    have e4757 : I4756 (ad g 0) 1 = w3407 := by rw [eI4756, pp_ne _ _ (Or.inl (ly_ne hy (by decide) (by decide) (by decide)))]; exact e4736
                    have e4758 : I4756 (ad g 0) 8 = w3421 := by rw [eI4756, pp_ne _ _ (Or.inl (ly_ne hy (by decide) (by decide) (by decide)))]; exact e4737
                    have e4759 : I4756 (ad g 0) 9 = w3422 := by rw [eI4756, pp_ne _ _ (Or.inl (ly_ne hy (by decide) (by decide) (by decide)))]; exact e4738
                    have e4760 : I4756 (ad g 0) 15 = w3424 := by rw [eI4756, pp_ne _ _ (Or.inl (ly_ne hy (by decide) (by decide) (by decide)))]; exact e4739
                    have e4761 : I4756 (ad g 0) 10 = w3424 := by rw [eI4756, pp_ne _ _ (Or.inl (ly_ne hy (by decide) (by decide) (by decide)))]; exact e4740
                    have e4762 : I4756 (ad g 0) 16 = w3433 := by rw [eI4756, pp_ne _ _ (Or.inl (ly_ne hy (by decide) (by decide) (by decide)))]; exact e4741
                    have e4763 : I4756 (ad g 0) 11 = w3433 := by rw [eI4756, pp_ne _ _ (Or.inl (ly_ne hy (by decide) (by decide) (by decide)))]; exact e4742
                    have e4764 : I4756 (ad g 0) 17 = w3444 := by rw [eI4756, pp_ne _ _ (Or.inl (ly_ne hy (by decide) (by decide) (by decide)))]; exact e4743
                    have e4765 : I4756 (ad g 0) 13 = w3444 := by rw [eI4756, pp_ne _ _ (Or.inl (ly_ne hy (by decide) (by decide) (by decide)))]; exact e4744
                    have e4766 : I4756 (ad g 0) 18 = w3457 := by rw [eI4756, pp_ne _ _ (Or.inl (ly_ne hy (by decide) (by decide) (by decide)))]; exact e4745
                    have e4767 : I4756 (ad g 0) 14 = v4315 := by rw [eI4756, pp_ne _ _ (Or.inl (ly_ne hy (by decide) (by decide) (by decide)))]; exact e4746
                    have e4768 : I4756 (ad g 0) 19 = w4330 := by rw [eI4756, pp_ne _ _ (Or.inl (ly_ne hy (by decide) (by decide) (by decide)))]; exact e4747
                    have e4769 : I4756 (ad g 0) 12 = w4330 := by rw [eI4756, pp_ne _ _ (Or.inl (ly_ne hy (by decide) (by decide) (by decide)))]; exact e4748
                    have e4770 : I4756 (ad g 38) 28 = v4672 := by rw [eI4756, pp_ne _ _ (Or.inl (ly_ne hy (by decide) (by decide) (by decide)))]; exact e4749
                    have e4771 : I4756 (ad g 46) 0 = v4690 := by rw [eI4756, pp_ne _ _ (Or.inr (by decide))]; exact e4750
                    have e4772 : I4756 (ad g 47) 0 = v4709 := by rw [eI4756, pp_ne _ _ (Or.inl (ly_ne hy (by decide) (by decide) (by decide)))]; exact e4751
                    have e4773 : I4756 (ad g 38) 29 = v4734 := by rw [eI4756, pp_ne _ _ (Or.inl (ly_ne hy (by decide) (by decide) (by decide)))]; exact e4752
                    have e4774 : I4756 (ad g 46) 1 = v4755 := by rw [eI4756, pp_self]
                    have fI4775 : FC g [0, 6, 7, 8, 9, 10, 11, 12, 13, 14, 15, 16, 17, 18, 19, 20, 21, 22, 23, 24, 25, 26, 27, 28, 29, 30, 31, 32, 33, 34, 37, 38, 44, 46, 47] I I4756 := by rw [eI4756]; exact FC_pp fI4753 (by decide)
                    have fQ4776 : FQ g [1, 2, 3, 4, 5, 6, 7, 8, 9, 10, 11, 12, 13, 14, 15, 16, 17, 18, 19, 51, 68] I I4756 := by rw [eI4756]; exact FQ_ppn (ly_ne hy (by decide) (by decide) (by decide)) fQ4754
                    refine WP_aload_n dX11_town_310 rfl ?_
                    refine WP_getr dX11_town_311 fX11_313 rfl (ly_is hy 0 11 rfl) (rf hr 0 72 47 (by decide)) ?_
                    refine WP_iload_n dX11_town_314 rfl ?_
                    refine WQ_iconst (0) (0) dX11_town_315 rfl rfl (fun v4777 hv4777 => ?_)
                    refine WE_is dX11_town_316 (ly_is hy 47 13 rfl) (ly_n hy 47 4 rfl) (by omega) (by omega) (fun I4778 eI4778 => ?_)
                    rw [show v4729.toInt.toNat = 1 by omega] at eI4778
                    have e4779 : I4778 (ad g 0) 1 = w3407 := by rw [eI4778, pp_ne _ _ (Or.inl (ly_ne hy (by decide) (by decide) (by decide)))]; exact e4757
                    have e4780 : I4778 (ad g 0) 8 = w3421 := by rw [eI4778, pp_ne _ _ (Or.inl (ly_ne hy (by decide) (by decide) (by decide)))]; exact e4758
                    have e4781 : I4778 (ad g 0) 9 = w3422 := by rw [eI4778, pp_ne _ _ (Or.inl (ly_ne hy (by decide) (by decide) (by decide)))]; exact e4759
                    have e4782 : I4778 (ad g 0) 15 = w3424 := by rw [eI4778, pp_ne _ _ (Or.inl (ly_ne hy (by decide) (by decide) (by decide)))]; exact e4760
                    have e4783 : I4778 (ad g 0) 10 = w3424 := by rw [eI4778, pp_ne _ _ (Or.inl (ly_ne hy (by decide) (by decide) (by decide)))]; exact e4761
                    have e4784 : I4778 (ad g 0) 16 = w3433 := by rw [eI4778, pp_ne _ _ (Or.inl (ly_ne hy (by decide) (by decide) (by decide)))]; exact e4762
                    have e4785 : I4778 (ad g 0) 11 = w3433 := by rw [eI4778, pp_ne _ _ (Or.inl (ly_ne hy (by decide) (by decide) (by decide)))]; exact e4763
                    have e4786 : I4778 (ad g 0) 17 = w3444 := by rw [eI4778, pp_ne _ _ (Or.inl (ly_ne hy (by decide) (by decide) (by decide)))]; exact e4764
                    have e4787 : I4778 (ad g 0) 13 = w3444 := by rw [eI4778, pp_ne _ _ (Or.inl (ly_ne hy (by decide) (by decide) (by decide)))]; exact e4765
                    have e4788 : I4778 (ad g 0) 18 = w3457 := by rw [eI4778, pp_ne _ _ (Or.inl (ly_ne hy (by decide) (by decide) (by decide)))]; exact e4766
                    have e4789 : I4778 (ad g 0) 14 = v4315 := by rw [eI4778, pp_ne _ _ (Or.inl (ly_ne hy (by decide) (by decide) (by decide)))]; exact e4767
                    have e4790 : I4778 (ad g 0) 19 = w4330 := by rw [eI4778, pp_ne _ _ (Or.inl (ly_ne hy (by decide) (by decide) (by decide)))]; exact e4768
                    have e4791 : I4778 (ad g 0) 12 = w4330 := by rw [eI4778, pp_ne _ _ (Or.inl (ly_ne hy (by decide) (by decide) (by decide)))]; exact e4769
                    have e4792 : I4778 (ad g 38) 28 = v4672 := by rw [eI4778, pp_ne _ _ (Or.inl (ly_ne hy (by decide) (by decide) (by decide)))]; exact e4770
                    have e4793 : I4778 (ad g 46) 0 = v4690 := by rw [eI4778, pp_ne _ _ (Or.inl (ly_ne hy (by decide) (by decide) (by decide)))]; exact e4771
                    have e4794 : I4778 (ad g 47) 0 = v4709 := by rw [eI4778, pp_ne _ _ (Or.inr (by decide))]; exact e4772
                    have e4795 : I4778 (ad g 38) 29 = v4734 := by rw [eI4778, pp_ne _ _ (Or.inl (ly_ne hy (by decide) (by decide) (by decide)))]; exact e4773
                    have e4796 : I4778 (ad g 46) 1 = v4755 := by rw [eI4778, pp_ne _ _ (Or.inl (ly_ne hy (by decide) (by decide) (by decide)))]; exact e4774
                    have e4797 : I4778 (ad g 47) 1 = v4777 := by rw [eI4778, pp_self]
                    have fI4798 : FC g [0, 6, 7, 8, 9, 10, 11, 12, 13, 14, 15, 16, 17, 18, 19, 20, 21, 22, 23, 24, 25, 26, 27, 28, 29, 30, 31, 32, 33, 34, 37, 38, 44, 46, 47] I I4778 := by rw [eI4778]; exact FC_pp fI4775 (by decide)
                    have fQ4799 : FQ g [1, 2, 3, 4, 5, 6, 7, 8, 9, 10, 11, 12, 13, 14, 15, 16, 17, 18, 19, 51, 68] I I4778 := by rw [eI4778]; exact FQ_ppn (ly_ne hy (by decide) (by decide) (by decide)) fQ4776
                    refine WP_iinc (ls' := [(0, _), (1, _)]) dX11_town_317 rfl (by decide) rfl ?_
                    have hv4800 : (v4729 + Int32.ofInt (1)).toInt = v4729.toInt + (1) := ia_n rfl (by omega) (by omega)
                    generalize v4729 + Int32.ofInt (1) = v4800 at hv4800 ⊢
                    have kv4800 : v4800.toInt = 2 := by omega
                    clear hv4800; have hv4800 := kv4800; clear kv4800
                    refine WP_goto 288 dX11_town_320 rfl ?_
                    refine WP_iload_n dX11_town_288 rfl ?_
                    refine WQ_iconst (4) (4) dX11_town_289 rfl rfl (fun v4801 hv4801 => ?_)
                    refine WQ_icmp_ge 323 dX11_town_290 rfl (fun c4801 => False.elim (by omega)) (fun c4801 => ?_)
                    refine WP_aload_n dX11_town_293 rfl ?_
                    refine WP_getr dX11_town_294 fX11_283 rfl (ly_is hy 0 11 rfl) (rf hr 0 59 38 (by decide)) ?_
                    refine WQ_bipush (28) (28) dX11_town_297 rfl rfl (fun v4803 hv4803 => ?_)
                    refine WP_iload_n dX11_town_299 rfl ?_
                    refine WQ_iadd dX11_town_300 (by omega) (by omega) (fun v4804 hv4804 => ?_)
                    have kv4804 : v4804.toInt = 30 := by omega
                    clear hv4804; have hv4804 := kv4804; clear kv4804
                    refine WQ_iconst (1) (1) dX11_town_301 rfl rfl (fun v4805 hv4805 => ?_)
                    refine WE_is dX11_town_302 (ly_is hy 38 13 rfl) (ly_n hy 38 35 rfl) (by omega) (by omega) (fun I4806 eI4806 => ?_)
                    rw [show v4804.toInt.toNat = 30 by omega] at eI4806
                    have e4807 : I4806 (ad g 0) 1 = w3407 := by rw [eI4806, pp_ne _ _ (Or.inl (ly_ne hy (by decide) (by decide) (by decide)))]; exact e4779
                    have e4808 : I4806 (ad g 0) 8 = w3421 := by rw [eI4806, pp_ne _ _ (Or.inl (ly_ne hy (by decide) (by decide) (by decide)))]; exact e4780
                    have e4809 : I4806 (ad g 0) 9 = w3422 := by rw [eI4806, pp_ne _ _ (Or.inl (ly_ne hy (by decide) (by decide) (by decide)))]; exact e4781
                    have e4810 : I4806 (ad g 0) 15 = w3424 := by rw [eI4806, pp_ne _ _ (Or.inl (ly_ne hy (by decide) (by decide) (by decide)))]; exact e4782
                    have e4811 : I4806 (ad g 0) 10 = w3424 := by rw [eI4806, pp_ne _ _ (Or.inl (ly_ne hy (by decide) (by decide) (by decide)))]; exact e4783
                    have e4812 : I4806 (ad g 0) 16 = w3433 := by rw [eI4806, pp_ne _ _ (Or.inl (ly_ne hy (by decide) (by decide) (by decide)))]; exact e4784
                    have e4813 : I4806 (ad g 0) 11 = w3433 := by rw [eI4806, pp_ne _ _ (Or.inl (ly_ne hy (by decide) (by decide) (by decide)))]; exact e4785
                    have e4814 : I4806 (ad g 0) 17 = w3444 := by rw [eI4806, pp_ne _ _ (Or.inl (ly_ne hy (by decide) (by decide) (by decide)))]; exact e4786
                    have e4815 : I4806 (ad g 0) 13 = w3444 := by rw [eI4806, pp_ne _ _ (Or.inl (ly_ne hy (by decide) (by decide) (by decide)))]; exact e4787
                    have e4816 : I4806 (ad g 0) 18 = w3457 := by rw [eI4806, pp_ne _ _ (Or.inl (ly_ne hy (by decide) (by decide) (by decide)))]; exact e4788
                    have e4817 : I4806 (ad g 0) 14 = v4315 := by rw [eI4806, pp_ne _ _ (Or.inl (ly_ne hy (by decide) (by decide) (by decide)))]; exact e4789
                    have e4818 : I4806 (ad g 0) 19 = w4330 := by rw [eI4806, pp_ne _ _ (Or.inl (ly_ne hy (by decide) (by decide) (by decide)))]; exact e4790
                    have e4819 : I4806 (ad g 0) 12 = w4330 := by rw [eI4806, pp_ne _ _ (Or.inl (ly_ne hy (by decide) (by decide) (by decide)))]; exact e4791
                    have e4820 : I4806 (ad g 38) 28 = v4672 := by rw [eI4806, pp_ne _ _ (Or.inr (by decide))]; exact e4792
                    have e4821 : I4806 (ad g 46) 0 = v4690 := by rw [eI4806, pp_ne _ _ (Or.inl (ly_ne hy (by decide) (by decide) (by decide)))]; exact e4793
                    have e4822 : I4806 (ad g 47) 0 = v4709 := by rw [eI4806, pp_ne _ _ (Or.inl (ly_ne hy (by decide) (by decide) (by decide)))]; exact e4794
                    have e4823 : I4806 (ad g 38) 29 = v4734 := by rw [eI4806, pp_ne _ _ (Or.inr (by decide))]; exact e4795
                    have e4824 : I4806 (ad g 46) 1 = v4755 := by rw [eI4806, pp_ne _ _ (Or.inl (ly_ne hy (by decide) (by decide) (by decide)))]; exact e4796
                    have e4825 : I4806 (ad g 47) 1 = v4777 := by rw [eI4806, pp_ne _ _ (Or.inl (ly_ne hy (by decide) (by decide) (by decide)))]; exact e4797
                    have e4826 : I4806 (ad g 38) 30 = v4805 := by rw [eI4806, pp_self]
                    have fI4827 : FC g [0, 6, 7, 8, 9, 10, 11, 12, 13, 14, 15, 16, 17, 18, 19, 20, 21, 22, 23, 24, 25, 26, 27, 28, 29, 30, 31, 32, 33, 34, 37, 38, 44, 46, 47] I I4806 := by rw [eI4806]; exact FC_pp fI4798 (by decide)
                    have fQ4828 : FQ g [1, 2, 3, 4, 5, 6, 7, 8, 9, 10, 11, 12, 13, 14, 15, 16, 17, 18, 19, 51, 68] I I4806 := by rw [eI4806]; exact FQ_ppn (ly_ne hy (by decide) (by decide) (by decide)) fQ4799
                    refine WP_aload_n dX11_town_303 rfl ?_
                    refine WP_getr dX11_town_304 fX11_310 rfl (ly_is hy 0 11 rfl) (rf hr 0 71 46 (by decide)) ?_
                    refine WP_iload_n dX11_town_307 rfl ?_
                    refine WQ_iconst (0) (0) dX11_town_308 rfl rfl (fun v4829 hv4829 => ?_)
                    refine WE_is dX11_town_309 (ly_is hy 46 13 rfl) (ly_n hy 46 4 rfl) (by omega) (by omega) (fun I4830 eI4830 => ?_)
                    rw [show v4800.toInt.toNat = 2 by omega] at eI4830
                    have e4831 : I4830 (ad g 0) 1 = w3407 := by rw [eI4830, pp_ne _ _ (Or.inl (ly_ne hy (by decide) (by decide) (by decide)))]; exact e4807
                    have e4832 : I4830 (ad g 0) 8 = w3421 := by rw [eI4830, pp_ne _ _ (Or.inl (ly_ne hy (by decide) (by decide) (by decide)))]; exact e4808
                    have e4833 : I4830 (ad g 0) 9 = w3422 := by rw [eI4830, pp_ne _ _ (Or.inl (ly_ne hy (by decide) (by decide) (by decide)))]; exact e4809
                    have e4834 : I4830 (ad g 0) 15 = w3424 := by rw [eI4830, pp_ne _ _ (Or.inl (ly_ne hy (by decide) (by decide) (by decide)))]; exact e4810
                    have e4835 : I4830 (ad g 0) 10 = w3424 := by rw [eI4830, pp_ne _ _ (Or.inl (ly_ne hy (by decide) (by decide) (by decide)))]; exact e4811
                    have e4836 : I4830 (ad g 0) 16 = w3433 := by rw [eI4830, pp_ne _ _ (Or.inl (ly_ne hy (by decide) (by decide) (by decide)))]; exact e4812
                    have e4837 : I4830 (ad g 0) 11 = w3433 := by rw [eI4830, pp_ne _ _ (Or.inl (ly_ne hy (by decide) (by decide) (by decide)))]; exact e4813
                    have e4838 : I4830 (ad g 0) 17 = w3444 := by rw [eI4830, pp_ne _ _ (Or.inl (ly_ne hy (by decide) (by decide) (by decide)))]; exact e4814
                    have e4839 : I4830 (ad g 0) 13 = w3444 := by rw [eI4830, pp_ne _ _ (Or.inl (ly_ne hy (by decide) (by decide) (by decide)))]; exact e4815
                    have e4840 : I4830 (ad g 0) 18 = w3457 := by rw [eI4830, pp_ne _ _ (Or.inl (ly_ne hy (by decide) (by decide) (by decide)))]; exact e4816
                    have e4841 : I4830 (ad g 0) 14 = v4315 := by rw [eI4830, pp_ne _ _ (Or.inl (ly_ne hy (by decide) (by decide) (by decide)))]; exact e4817
                    have e4842 : I4830 (ad g 0) 19 = w4330 := by rw [eI4830, pp_ne _ _ (Or.inl (ly_ne hy (by decide) (by decide) (by decide)))]; exact e4818
                    have e4843 : I4830 (ad g 0) 12 = w4330 := by rw [eI4830, pp_ne _ _ (Or.inl (ly_ne hy (by decide) (by decide) (by decide)))]; exact e4819
                    have e4844 : I4830 (ad g 38) 28 = v4672 := by rw [eI4830, pp_ne _ _ (Or.inl (ly_ne hy (by decide) (by decide) (by decide)))]; exact e4820
                    have e4845 : I4830 (ad g 46) 0 = v4690 := by rw [eI4830, pp_ne _ _ (Or.inr (by decide))]; exact e4821
                    have e4846 : I4830 (ad g 47) 0 = v4709 := by rw [eI4830, pp_ne _ _ (Or.inl (ly_ne hy (by decide) (by decide) (by decide)))]; exact e4822
                    have e4847 : I4830 (ad g 38) 29 = v4734 := by rw [eI4830, pp_ne _ _ (Or.inl (ly_ne hy (by decide) (by decide) (by decide)))]; exact e4823
                    have e4848 : I4830 (ad g 46) 1 = v4755 := by rw [eI4830, pp_ne _ _ (Or.inr (by decide))]; exact e4824
                    have e4849 : I4830 (ad g 47) 1 = v4777 := by rw [eI4830, pp_ne _ _ (Or.inl (ly_ne hy (by decide) (by decide) (by decide)))]; exact e4825
                    have e4850 : I4830 (ad g 38) 30 = v4805 := by rw [eI4830, pp_ne _ _ (Or.inl (ly_ne hy (by decide) (by decide) (by decide)))]; exact e4826
                    have e4851 : I4830 (ad g 46) 2 = v4829 := by rw [eI4830, pp_self]
                    have fI4852 : FC g [0, 6, 7, 8, 9, 10, 11, 12, 13, 14, 15, 16, 17, 18, 19, 20, 21, 22, 23, 24, 25, 26, 27, 28, 29, 30, 31, 32, 33, 34, 37, 38, 44, 46, 47] I I4830 := by rw [eI4830]; exact FC_pp fI4827 (by decide)
                    have fQ4853 : FQ g [1, 2, 3, 4, 5, 6, 7, 8, 9, 10, 11, 12, 13, 14, 15, 16, 17, 18, 19, 51, 68] I I4830 := by rw [eI4830]; exact FQ_ppn (ly_ne hy (by decide) (by decide) (by decide)) fQ4828
                    refine WP_aload_n dX11_town_310 rfl ?_
                    refine WP_getr dX11_town_311 fX11_313 rfl (ly_is hy 0 11 rfl) (rf hr 0 72 47 (by decide)) ?_
                    refine WP_iload_n dX11_town_314 rfl ?_
                    refine WQ_iconst (0) (0) dX11_town_315 rfl rfl (fun v4854 hv4854 => ?_)
                    refine WE_is dX11_town_316 (ly_is hy 47 13 rfl) (ly_n hy 47 4 rfl) (by omega) (by omega) (fun I4855 eI4855 => ?_)
                    rw [show v4800.toInt.toNat = 2 by omega] at eI4855
                    have e4856 : I4855 (ad g 0) 1 = w3407 := by rw [eI4855, pp_ne _ _ (Or.inl (ly_ne hy (by decide) (by decide) (by decide)))]; exact e4831
                    have e4857 : I4855 (ad g 0) 8 = w3421 := by rw [eI4855, pp_ne _ _ (Or.inl (ly_ne hy (by decide) (by decide) (by decide)))]; exact e4832
                    have e4858 : I4855 (ad g 0) 9 = w3422 := by rw [eI4855, pp_ne _ _ (Or.inl (ly_ne hy (by decide) (by decide) (by decide)))]; exact e4833
                    have e4859 : I4855 (ad g 0) 15 = w3424 := by rw [eI4855, pp_ne _ _ (Or.inl (ly_ne hy (by decide) (by decide) (by decide)))]; exact e4834
                    have e4860 : I4855 (ad g 0) 10 = w3424 := by rw [eI4855, pp_ne _ _ (Or.inl (ly_ne hy (by decide) (by decide) (by decide)))]; exact e4835
                    have e4861 : I4855 (ad g 0) 16 = w3433 := by rw [eI4855, pp_ne _ _ (Or.inl (ly_ne hy (by decide) (by decide) (by decide)))]; exact e4836
                    have e4862 : I4855 (ad g 0) 11 = w3433 := by rw [eI4855, pp_ne _ _ (Or.inl (ly_ne hy (by decide) (by decide) (by decide)))]; exact e4837
                    have e4863 : I4855 (ad g 0) 17 = w3444 := by rw [eI4855, pp_ne _ _ (Or.inl (ly_ne hy (by decide) (by decide) (by decide)))]; exact e4838
                    have e4864 : I4855 (ad g 0) 13 = w3444 := by rw [eI4855, pp_ne _ _ (Or.inl (ly_ne hy (by decide) (by decide) (by decide)))]; exact e4839
                    have e4865 : I4855 (ad g 0) 18 = w3457 := by rw [eI4855, pp_ne _ _ (Or.inl (ly_ne hy (by decide) (by decide) (by decide)))]; exact e4840
                    have e4866 : I4855 (ad g 0) 14 = v4315 := by rw [eI4855, pp_ne _ _ (Or.inl (ly_ne hy (by decide) (by decide) (by decide)))]; exact e4841
                    have e4867 : I4855 (ad g 0) 19 = w4330 := by rw [eI4855, pp_ne _ _ (Or.inl (ly_ne hy (by decide) (by decide) (by decide)))]; exact e4842
                    have e4868 : I4855 (ad g 0) 12 = w4330 := by rw [eI4855, pp_ne _ _ (Or.inl (ly_ne hy (by decide) (by decide) (by decide)))]; exact e4843
                    have e4869 : I4855 (ad g 38) 28 = v4672 := by rw [eI4855, pp_ne _ _ (Or.inl (ly_ne hy (by decide) (by decide) (by decide)))]; exact e4844
                    have e4870 : I4855 (ad g 46) 0 = v4690 := by rw [eI4855, pp_ne _ _ (Or.inl (ly_ne hy (by decide) (by decide) (by decide)))]; exact e4845
                    have e4871 : I4855 (ad g 47) 0 = v4709 := by rw [eI4855, pp_ne _ _ (Or.inr (by decide))]; exact e4846
                    have e4872 : I4855 (ad g 38) 29 = v4734 := by rw [eI4855, pp_ne _ _ (Or.inl (ly_ne hy (by decide) (by decide) (by decide)))]; exact e4847
                    have e4873 : I4855 (ad g 46) 1 = v4755 := by rw [eI4855, pp_ne _ _ (Or.inl (ly_ne hy (by decide) (by decide) (by decide)))]; exact e4848
                    have e4874 : I4855 (ad g 47) 1 = v4777 := by rw [eI4855, pp_ne _ _ (Or.inr (by decide))]; exact e4849
                    have e4875 : I4855 (ad g 38) 30 = v4805 := by rw [eI4855, pp_ne _ _ (Or.inl (ly_ne hy (by decide) (by decide) (by decide)))]; exact e4850
                    have e4876 : I4855 (ad g 46) 2 = v4829 := by rw [eI4855, pp_ne _ _ (Or.inl (ly_ne hy (by decide) (by decide) (by decide)))]; exact e4851
                    have e4877 : I4855 (ad g 47) 2 = v4854 := by rw [eI4855, pp_self]
                    have fI4878 : FC g [0, 6, 7, 8, 9, 10, 11, 12, 13, 14, 15, 16, 17, 18, 19, 20, 21, 22, 23, 24, 25, 26, 27, 28, 29, 30, 31, 32, 33, 34, 37, 38, 44, 46, 47] I I4855 := by rw [eI4855]; exact FC_pp fI4852 (by decide)
                    have fQ4879 : FQ g [1, 2, 3, 4, 5, 6, 7, 8, 9, 10, 11, 12, 13, 14, 15, 16, 17, 18, 19, 51, 68] I I4855 := by rw [eI4855]; exact FQ_ppn (ly_ne hy (by decide) (by decide) (by decide)) fQ4853
                    refine WP_iinc (ls' := [(0, _), (1, _)]) dX11_town_317 rfl (by decide) rfl ?_
                    have hv4880 : (v4800 + Int32.ofInt (1)).toInt = v4800.toInt + (1) := ia_n rfl (by omega) (by omega)
                    generalize v4800 + Int32.ofInt (1) = v4880 at hv4880 ⊢
                    have kv4880 : v4880.toInt = 3 := by omega
                    clear hv4880; have hv4880 := kv4880; clear kv4880
                    refine WP_goto 288 dX11_town_320 rfl ?_
                    refine WP_iload_n dX11_town_288 rfl ?_
                    refine WQ_iconst (4) (4) dX11_town_289 rfl rfl (fun v4881 hv4881 => ?_)
                    refine WQ_icmp_ge 323 dX11_town_290 rfl (fun c4881 => False.elim (by omega)) (fun c4881 => ?_)
                    refine WP_aload_n dX11_town_293 rfl ?_
                    refine WP_getr dX11_town_294 fX11_283 rfl (ly_is hy 0 11 rfl) (rf hr 0 59 38 (by decide)) ?_
                    refine WQ_bipush (28) (28) dX11_town_297 rfl rfl (fun v4883 hv4883 => ?_)
                    refine WP_iload_n dX11_town_299 rfl ?_
                    refine WQ_iadd dX11_town_300 (by omega) (by omega) (fun v4884 hv4884 => ?_)
                    have kv4884 : v4884.toInt = 31 := by omega
                    clear hv4884; have hv4884 := kv4884; clear kv4884
                    refine WQ_iconst (1) (1) dX11_town_301 rfl rfl (fun v4885 hv4885 => ?_)
                    refine WE_is dX11_town_302 (ly_is hy 38 13 rfl) (ly_n hy 38 35 rfl) (by omega) (by omega) (fun I4886 eI4886 => ?_)
                    rw [show v4884.toInt.toNat = 31 by omega] at eI4886
                    have e4887 : I4886 (ad g 0) 1 = w3407 := by rw [eI4886, pp_ne _ _ (Or.inl (ly_ne hy (by decide) (by decide) (by decide)))]; exact e4856
                    have e4888 : I4886 (ad g 0) 8 = w3421 := by rw [eI4886, pp_ne _ _ (Or.inl (ly_ne hy (by decide) (by decide) (by decide)))]; exact e4857
                    have e4889 : I4886 (ad g 0) 9 = w3422 := by rw [eI4886, pp_ne _ _ (Or.inl (ly_ne hy (by decide) (by decide) (by decide)))]; exact e4858
                    have e4890 : I4886 (ad g 0) 15 = w3424 := by rw [eI4886, pp_ne _ _ (Or.inl (ly_ne hy (by decide) (by decide) (by decide)))]; exact e4859
                    have e4891 : I4886 (ad g 0) 10 = w3424 := by rw [eI4886, pp_ne _ _ (Or.inl (ly_ne hy (by decide) (by decide) (by decide)))]; exact e4860
                    have e4892 : I4886 (ad g 0) 16 = w3433 := by rw [eI4886, pp_ne _ _ (Or.inl (ly_ne hy (by decide) (by decide) (by decide)))]; exact e4861
                    have e4893 : I4886 (ad g 0) 11 = w3433 := by rw [eI4886, pp_ne _ _ (Or.inl (ly_ne hy (by decide) (by decide) (by decide)))]; exact e4862
                    have e4894 : I4886 (ad g 0) 17 = w3444 := by rw [eI4886, pp_ne _ _ (Or.inl (ly_ne hy (by decide) (by decide) (by decide)))]; exact e4863
                    have e4895 : I4886 (ad g 0) 13 = w3444 := by rw [eI4886, pp_ne _ _ (Or.inl (ly_ne hy (by decide) (by decide) (by decide)))]; exact e4864
                    have e4896 : I4886 (ad g 0) 18 = w3457 := by rw [eI4886, pp_ne _ _ (Or.inl (ly_ne hy (by decide) (by decide) (by decide)))]; exact e4865
                    have e4897 : I4886 (ad g 0) 14 = v4315 := by rw [eI4886, pp_ne _ _ (Or.inl (ly_ne hy (by decide) (by decide) (by decide)))]; exact e4866
                    have e4898 : I4886 (ad g 0) 19 = w4330 := by rw [eI4886, pp_ne _ _ (Or.inl (ly_ne hy (by decide) (by decide) (by decide)))]; exact e4867
                    have e4899 : I4886 (ad g 0) 12 = w4330 := by rw [eI4886, pp_ne _ _ (Or.inl (ly_ne hy (by decide) (by decide) (by decide)))]; exact e4868
                    have e4900 : I4886 (ad g 38) 28 = v4672 := by rw [eI4886, pp_ne _ _ (Or.inr (by decide))]; exact e4869
                    have e4901 : I4886 (ad g 46) 0 = v4690 := by rw [eI4886, pp_ne _ _ (Or.inl (ly_ne hy (by decide) (by decide) (by decide)))]; exact e4870
                    have e4902 : I4886 (ad g 47) 0 = v4709 := by rw [eI4886, pp_ne _ _ (Or.inl (ly_ne hy (by decide) (by decide) (by decide)))]; exact e4871
                    have e4903 : I4886 (ad g 38) 29 = v4734 := by rw [eI4886, pp_ne _ _ (Or.inr (by decide))]; exact e4872
                    have e4904 : I4886 (ad g 46) 1 = v4755 := by rw [eI4886, pp_ne _ _ (Or.inl (ly_ne hy (by decide) (by decide) (by decide)))]; exact e4873
                    have e4905 : I4886 (ad g 47) 1 = v4777 := by rw [eI4886, pp_ne _ _ (Or.inl (ly_ne hy (by decide) (by decide) (by decide)))]; exact e4874
                    have e4906 : I4886 (ad g 38) 30 = v4805 := by rw [eI4886, pp_ne _ _ (Or.inr (by decide))]; exact e4875
                    have e4907 : I4886 (ad g 46) 2 = v4829 := by rw [eI4886, pp_ne _ _ (Or.inl (ly_ne hy (by decide) (by decide) (by decide)))]; exact e4876
                    have e4908 : I4886 (ad g 47) 2 = v4854 := by rw [eI4886, pp_ne _ _ (Or.inl (ly_ne hy (by decide) (by decide) (by decide)))]; exact e4877
                    have e4909 : I4886 (ad g 38) 31 = v4885 := by rw [eI4886, pp_self]
                    have fI4910 : FC g [0, 6, 7, 8, 9, 10, 11, 12, 13, 14, 15, 16, 17, 18, 19, 20, 21, 22, 23, 24, 25, 26, 27, 28, 29, 30, 31, 32, 33, 34, 37, 38, 44, 46, 47] I I4886 := by rw [eI4886]; exact FC_pp fI4878 (by decide)
                    have fQ4911 : FQ g [1, 2, 3, 4, 5, 6, 7, 8, 9, 10, 11, 12, 13, 14, 15, 16, 17, 18, 19, 51, 68] I I4886 := by rw [eI4886]; exact FQ_ppn (ly_ne hy (by decide) (by decide) (by decide)) fQ4879
                    refine WP_aload_n dX11_town_303 rfl ?_
                    refine WP_getr dX11_town_304 fX11_310 rfl (ly_is hy 0 11 rfl) (rf hr 0 71 46 (by decide)) ?_
                    refine WP_iload_n dX11_town_307 rfl ?_
                    refine WQ_iconst (0) (0) dX11_town_308 rfl rfl (fun v4912 hv4912 => ?_)
                    refine WE_is dX11_town_309 (ly_is hy 46 13 rfl) (ly_n hy 46 4 rfl) (by omega) (by omega) (fun I4913 eI4913 => ?_)
                    rw [show v4880.toInt.toNat = 3 by omega] at eI4913
                    have e4914 : I4913 (ad g 0) 1 = w3407 := by rw [eI4913, pp_ne _ _ (Or.inl (ly_ne hy (by decide) (by decide) (by decide)))]; exact e4887
                    have e4915 : I4913 (ad g 0) 8 = w3421 := by rw [eI4913, pp_ne _ _ (Or.inl (ly_ne hy (by decide) (by decide) (by decide)))]; exact e4888
                    have e4916 : I4913 (ad g 0) 9 = w3422 := by rw [eI4913, pp_ne _ _ (Or.inl (ly_ne hy (by decide) (by decide) (by decide)))]; exact e4889
                    have e4917 : I4913 (ad g 0) 15 = w3424 := by rw [eI4913, pp_ne _ _ (Or.inl (ly_ne hy (by decide) (by decide) (by decide)))]; exact e4890
                    have e4918 : I4913 (ad g 0) 10 = w3424 := by rw [eI4913, pp_ne _ _ (Or.inl (ly_ne hy (by decide) (by decide) (by decide)))]; exact e4891
                    have e4919 : I4913 (ad g 0) 16 = w3433 := by rw [eI4913, pp_ne _ _ (Or.inl (ly_ne hy (by decide) (by decide) (by decide)))]; exact e4892
                    have e4920 : I4913 (ad g 0) 11 = w3433 := by rw [eI4913, pp_ne _ _ (Or.inl (ly_ne hy (by decide) (by decide) (by decide)))]; exact e4893
                    have e4921 : I4913 (ad g 0) 17 = w3444 := by rw [eI4913, pp_ne _ _ (Or.inl (ly_ne hy (by decide) (by decide) (by decide)))]; exact e4894
                    have e4922 : I4913 (ad g 0) 13 = w3444 := by rw [eI4913, pp_ne _ _ (Or.inl (ly_ne hy (by decide) (by decide) (by decide)))]; exact e4895
                    have e4923 : I4913 (ad g 0) 18 = w3457 := by rw [eI4913, pp_ne _ _ (Or.inl (ly_ne hy (by decide) (by decide) (by decide)))]; exact e4896
                    have e4924 : I4913 (ad g 0) 14 = v4315 := by rw [eI4913, pp_ne _ _ (Or.inl (ly_ne hy (by decide) (by decide) (by decide)))]; exact e4897
                    have e4925 : I4913 (ad g 0) 19 = w4330 := by rw [eI4913, pp_ne _ _ (Or.inl (ly_ne hy (by decide) (by decide) (by decide)))]; exact e4898
                    have e4926 : I4913 (ad g 0) 12 = w4330 := by rw [eI4913, pp_ne _ _ (Or.inl (ly_ne hy (by decide) (by decide) (by decide)))]; exact e4899
                    have e4927 : I4913 (ad g 38) 28 = v4672 := by rw [eI4913, pp_ne _ _ (Or.inl (ly_ne hy (by decide) (by decide) (by decide)))]; exact e4900
                    have e4928 : I4913 (ad g 46) 0 = v4690 := by rw [eI4913, pp_ne _ _ (Or.inr (by decide))]; exact e4901
                    have e4929 : I4913 (ad g 47) 0 = v4709 := by rw [eI4913, pp_ne _ _ (Or.inl (ly_ne hy (by decide) (by decide) (by decide)))]; exact e4902
                    have e4930 : I4913 (ad g 38) 29 = v4734 := by rw [eI4913, pp_ne _ _ (Or.inl (ly_ne hy (by decide) (by decide) (by decide)))]; exact e4903
                    have e4931 : I4913 (ad g 46) 1 = v4755 := by rw [eI4913, pp_ne _ _ (Or.inr (by decide))]; exact e4904
                    have e4932 : I4913 (ad g 47) 1 = v4777 := by rw [eI4913, pp_ne _ _ (Or.inl (ly_ne hy (by decide) (by decide) (by decide)))]; exact e4905
                    have e4933 : I4913 (ad g 38) 30 = v4805 := by rw [eI4913, pp_ne _ _ (Or.inl (ly_ne hy (by decide) (by decide) (by decide)))]; exact e4906
                    have e4934 : I4913 (ad g 46) 2 = v4829 := by rw [eI4913, pp_ne _ _ (Or.inr (by decide))]; exact e4907
                    have e4935 : I4913 (ad g 47) 2 = v4854 := by rw [eI4913, pp_ne _ _ (Or.inl (ly_ne hy (by decide) (by decide) (by decide)))]; exact e4908
                    have e4936 : I4913 (ad g 38) 31 = v4885 := by rw [eI4913, pp_ne _ _ (Or.inl (ly_ne hy (by decide) (by decide) (by decide)))]; exact e4909
                    have e4937 : I4913 (ad g 46) 3 = v4912 := by rw [eI4913, pp_self]
                    have fI4938 : FC g [0, 6, 7, 8, 9, 10, 11, 12, 13, 14, 15, 16, 17, 18, 19, 20, 21, 22, 23, 24, 25, 26, 27, 28, 29, 30, 31, 32, 33, 34, 37, 38, 44, 46, 47] I I4913 := by rw [eI4913]; exact FC_pp fI4910 (by decide)
                    have fQ4939 : FQ g [1, 2, 3, 4, 5, 6, 7, 8, 9, 10, 11, 12, 13, 14, 15, 16, 17, 18, 19, 51, 68] I I4913 := by rw [eI4913]; exact FQ_ppn (ly_ne hy (by decide) (by decide) (by decide)) fQ4911
                    refine WP_aload_n dX11_town_310 rfl ?_
                    refine WP_getr dX11_town_311 fX11_313 rfl (ly_is hy 0 11 rfl) (rf hr 0 72 47 (by decide)) ?_
                    refine WP_iload_n dX11_town_314 rfl ?_
                    refine WQ_iconst (0) (0) dX11_town_315 rfl rfl (fun v4940 hv4940 => ?_)
                    refine WE_is dX11_town_316 (ly_is hy 47 13 rfl) (ly_n hy 47 4 rfl) (by omega) (by omega) (fun I4941 eI4941 => ?_)
                    rw [show v4880.toInt.toNat = 3 by omega] at eI4941
                    have e4942 : I4941 (ad g 0) 1 = w3407 := by rw [eI4941, pp_ne _ _ (Or.inl (ly_ne hy (by decide) (by decide) (by decide)))]; exact e4914
                    have e4943 : I4941 (ad g 0) 8 = w3421 := by rw [eI4941, pp_ne _ _ (Or.inl (ly_ne hy (by decide) (by decide) (by decide)))]; exact e4915
                    have e4944 : I4941 (ad g 0) 9 = w3422 := by rw [eI4941, pp_ne _ _ (Or.inl (ly_ne hy (by decide) (by decide) (by decide)))]; exact e4916
                    have e4945 : I4941 (ad g 0) 15 = w3424 := by rw [eI4941, pp_ne _ _ (Or.inl (ly_ne hy (by decide) (by decide) (by decide)))]; exact e4917
                    have e4946 : I4941 (ad g 0) 10 = w3424 := by rw [eI4941, pp_ne _ _ (Or.inl (ly_ne hy (by decide) (by decide) (by decide)))]; exact e4918
                    have e4947 : I4941 (ad g 0) 16 = w3433 := by rw [eI4941, pp_ne _ _ (Or.inl (ly_ne hy (by decide) (by decide) (by decide)))]; exact e4919
                    have e4948 : I4941 (ad g 0) 11 = w3433 := by rw [eI4941, pp_ne _ _ (Or.inl (ly_ne hy (by decide) (by decide) (by decide)))]; exact e4920
                    have e4949 : I4941 (ad g 0) 17 = w3444 := by rw [eI4941, pp_ne _ _ (Or.inl (ly_ne hy (by decide) (by decide) (by decide)))]; exact e4921
                    have e4950 : I4941 (ad g 0) 13 = w3444 := by rw [eI4941, pp_ne _ _ (Or.inl (ly_ne hy (by decide) (by decide) (by decide)))]; exact e4922
                    have e4951 : I4941 (ad g 0) 18 = w3457 := by rw [eI4941, pp_ne _ _ (Or.inl (ly_ne hy (by decide) (by decide) (by decide)))]; exact e4923
                    have e4952 : I4941 (ad g 0) 14 = v4315 := by rw [eI4941, pp_ne _ _ (Or.inl (ly_ne hy (by decide) (by decide) (by decide)))]; exact e4924
                    have e4953 : I4941 (ad g 0) 19 = w4330 := by rw [eI4941, pp_ne _ _ (Or.inl (ly_ne hy (by decide) (by decide) (by decide)))]; exact e4925
                    have e4954 : I4941 (ad g 0) 12 = w4330 := by rw [eI4941, pp_ne _ _ (Or.inl (ly_ne hy (by decide) (by decide) (by decide)))]; exact e4926
                    have e4955 : I4941 (ad g 38) 28 = v4672 := by rw [eI4941, pp_ne _ _ (Or.inl (ly_ne hy (by decide) (by decide) (by decide)))]; exact e4927
                    have e4956 : I4941 (ad g 46) 0 = v4690 := by rw [eI4941, pp_ne _ _ (Or.inl (ly_ne hy (by decide) (by decide) (by decide)))]; exact e4928
                    have e4957 : I4941 (ad g 47) 0 = v4709 := by rw [eI4941, pp_ne _ _ (Or.inr (by decide))]; exact e4929
                    have e4958 : I4941 (ad g 38) 29 = v4734 := by rw [eI4941, pp_ne _ _ (Or.inl (ly_ne hy (by decide) (by decide) (by decide)))]; exact e4930
                    have e4959 : I4941 (ad g 46) 1 = v4755 := by rw [eI4941, pp_ne _ _ (Or.inl (ly_ne hy (by decide) (by decide) (by decide)))]; exact e4931
                    have e4960 : I4941 (ad g 47) 1 = v4777 := by rw [eI4941, pp_ne _ _ (Or.inr (by decide))]; exact e4932
                    have e4961 : I4941 (ad g 38) 30 = v4805 := by rw [eI4941, pp_ne _ _ (Or.inl (ly_ne hy (by decide) (by decide) (by decide)))]; exact e4933
                    have e4962 : I4941 (ad g 46) 2 = v4829 := by rw [eI4941, pp_ne _ _ (Or.inl (ly_ne hy (by decide) (by decide) (by decide)))]; exact e4934
                    have e4963 : I4941 (ad g 47) 2 = v4854 := by rw [eI4941, pp_ne _ _ (Or.inr (by decide))]; exact e4935
                    have e4964 : I4941 (ad g 38) 31 = v4885 := by rw [eI4941, pp_ne _ _ (Or.inl (ly_ne hy (by decide) (by decide) (by decide)))]; exact e4936
                    have e4965 : I4941 (ad g 46) 3 = v4912 := by rw [eI4941, pp_ne _ _ (Or.inl (ly_ne hy (by decide) (by decide) (by decide)))]; exact e4937
                    have e4966 : I4941 (ad g 47) 3 = v4940 := by rw [eI4941, pp_self]
                    have fI4967 : FC g [0, 6, 7, 8, 9, 10, 11, 12, 13, 14, 15, 16, 17, 18, 19, 20, 21, 22, 23, 24, 25, 26, 27, 28, 29, 30, 31, 32, 33, 34, 37, 38, 44, 46, 47] I I4941 := by rw [eI4941]; exact FC_pp fI4938 (by decide)
                    have fQ4968 : FQ g [1, 2, 3, 4, 5, 6, 7, 8, 9, 10, 11, 12, 13, 14, 15, 16, 17, 18, 19, 51, 68] I I4941 := by rw [eI4941]; exact FQ_ppn (ly_ne hy (by decide) (by decide) (by decide)) fQ4939
                    refine WP_iinc (ls' := [(0, _), (1, _)]) dX11_town_317 rfl (by decide) rfl ?_
                    have hv4969 : (v4880 + Int32.ofInt (1)).toInt = v4880.toInt + (1) := ia_n rfl (by omega) (by omega)
                    generalize v4880 + Int32.ofInt (1) = v4969 at hv4969 ⊢
                    have kv4969 : v4969.toInt = 4 := by omega
                    clear hv4969; have hv4969 := kv4969; clear kv4969
                    refine WP_goto 288 dX11_town_320 rfl ?_
                    refine WP_iload_n dX11_town_288 rfl ?_
                    refine WQ_iconst (4) (4) dX11_town_289 rfl rfl (fun v4970 hv4970 => ?_)
                    refine WQ_icmp_ge 323 dX11_town_290 rfl (fun c4970 => ?_) (fun c4970 => False.elim (by omega))
                    have d10b : ∀ q, q < 4 → I4941 (ad g 10) q = I3412 (ad g 16) q := fun q hq => by rw [eI4941, pp_off _ _ (ly_ne hy (by decide) (by decide) (by decide)), eI4913, pp_off _ _ (ly_ne hy (by decide) (by decide) (by decide)), eI4886, pp_off _ _ (ly_ne hy (by decide) (by decide) (by decide)), eI4855, pp_off _ _ (ly_ne hy (by decide) (by decide) (by decide)), eI4830, pp_off _ _ (ly_ne hy (by decide) (by decide) (by decide)), eI4806, pp_off _ _ (ly_ne hy (by decide) (by decide) (by decide)), eI4778, pp_off _ _ (ly_ne hy (by decide) (by decide) (by decide)), eI4756, pp_off _ _ (ly_ne hy (by decide) (by decide) (by decide)), eI4735, pp_off _ _ (ly_ne hy (by decide) (by decide) (by decide)), eI4710, pp_off _ _ (ly_ne hy (by decide) (by decide) (by decide)), eI4691, pp_off _ _ (ly_ne hy (by decide) (by decide) (by decide)), eI4673, pp_off _ _ (ly_ne hy (by decide) (by decide) (by decide)), FC_at hy g4648 10 (by decide) (by decide), FC_at hy g4626 10 (by decide) (by decide), FC_at hy g4604 10 (by decide) (by decide), FC_at hy g4582 10 (by decide) (by decide), FC_at hy g4560 10 (by decide) (by decide), FC_at hy g4538 10 (by decide) (by decide), FC_at hy g4516 10 (by decide) (by decide), FC_at hy g4494 10 (by decide) (by decide), FC_at hy g4472 10 (by decide) (by decide), FC_at hy g4450 10 (by decide) (by decide)]; exact d10 q hq
                    refine WP_aload_n dX11_town_323 rfl ?_
                    refine WP_aload_n dX11_town_324 rfl ?_
                    refine WP_getr dX11_town_325 fX11_283 rfl (ly_is hy 0 11 rfl) (rf hr 0 59 38 (by decide)) ?_
                    refine WP_callV1 (k := 11) dX11_town_328 ⟨⟨⟨by decide, by decide⟩, zX11_begin⟩, lX11_342, by decide, rfl, vX11_begin.1, vX11_begin.2⟩ (ly_is hy 0 11 rfl) (em_begin38 hy hr   (mm := S2.1 0 1) (by rw [e4946]; exact hR.1.1) ⟨hb1, hb2⟩) (Nat.le_of_ble_eq_true rfl) ?_
                    intro r I4973 J4974 Ra hq
                    obtain ⟨ec, g4975, g4976, g4977, er, p4972⟩ := hq
                    rw [ec, er]
                    clear ec er Ra r
                    have e4978 : I4973 (ad g 0) 1 = w3407 := by rw [FC_at hy g4975 0 (by decide) (by decide)]; exact e4942
                    have e4979 : I4973 (ad g 0) 8 = w3421 := by rw [FC_at hy g4975 0 (by decide) (by decide)]; exact e4943
                    have e4980 : I4973 (ad g 0) 9 = w3422 := by rw [FC_at hy g4975 0 (by decide) (by decide)]; exact e4944
                    have e4981 : I4973 (ad g 0) 15 = w3424 := by rw [FC_at hy g4975 0 (by decide) (by decide)]; exact e4945
                    have e4982 : I4973 (ad g 0) 10 = w3424 := by rw [FC_at hy g4975 0 (by decide) (by decide)]; exact e4946
                    have e4983 : I4973 (ad g 0) 16 = w3433 := by rw [FC_at hy g4975 0 (by decide) (by decide)]; exact e4947
                    have e4984 : I4973 (ad g 0) 11 = w3433 := by rw [FC_at hy g4975 0 (by decide) (by decide)]; exact e4948
                    have e4985 : I4973 (ad g 0) 17 = w3444 := by rw [FC_at hy g4975 0 (by decide) (by decide)]; exact e4949
                    have e4986 : I4973 (ad g 0) 13 = w3444 := by rw [FC_at hy g4975 0 (by decide) (by decide)]; exact e4950
                    have e4987 : I4973 (ad g 0) 18 = w3457 := by rw [FC_at hy g4975 0 (by decide) (by decide)]; exact e4951
                    have e4988 : I4973 (ad g 0) 14 = v4315 := by rw [FC_at hy g4975 0 (by decide) (by decide)]; exact e4952
                    have e4989 : I4973 (ad g 0) 19 = w4330 := by rw [FC_at hy g4975 0 (by decide) (by decide)]; exact e4953
                    have e4990 : I4973 (ad g 0) 12 = w4330 := by rw [FC_at hy g4975 0 (by decide) (by decide)]; exact e4954
                    have e4991 : I4973 (ad g 46) 0 = v4690 := by rw [FC_at hy g4975 46 (by decide) (by decide)]; exact e4956
                    have e4992 : I4973 (ad g 47) 0 = v4709 := by rw [FC_at hy g4975 47 (by decide) (by decide)]; exact e4957
                    have e4993 : I4973 (ad g 46) 1 = v4755 := by rw [FC_at hy g4975 46 (by decide) (by decide)]; exact e4959
                    have e4994 : I4973 (ad g 47) 1 = v4777 := by rw [FC_at hy g4975 47 (by decide) (by decide)]; exact e4960
                    have e4995 : I4973 (ad g 46) 2 = v4829 := by rw [FC_at hy g4975 46 (by decide) (by decide)]; exact e4962
                    have e4996 : I4973 (ad g 47) 2 = v4854 := by rw [FC_at hy g4975 47 (by decide) (by decide)]; exact e4963
                    have e4997 : I4973 (ad g 46) 3 = v4912 := by rw [FC_at hy g4975 46 (by decide) (by decide)]; exact e4965
                    have e4998 : I4973 (ad g 47) 3 = v4940 := by rw [FC_at hy g4975 47 (by decide) (by decide)]; exact e4966
                    have fI4999 : FC g [0, 6, 7, 8, 9, 10, 11, 12, 13, 14, 15, 16, 17, 18, 19, 20, 21, 22, 23, 24, 25, 26, 27, 28, 29, 30, 31, 32, 33, 34, 37, 38, 44, 46, 47] I I4973 := FC_tr fI4967 (FC_mono g4975 (by decide))
                    have fJ5000 : FC g [0, 2, 3, 4, 5] J J4974 := FC_tr fJ4665 (FC_mono g4976 (by decide))
                    have fQ5001 : FQ g [1, 2, 3, 4, 5, 6, 7, 8, 9, 10, 11, 12, 13, 14, 15, 16, 17, 18, 19, 51, 68] I I4973 := FQ_tr fQ4968 (FQ_mono g4977 (by decide))
                    try simp only [e4978, e4979, e4980, ew3395, ew3396, ew3397] at p4972
                    refine WP_aload_n dX11_town_331 rfl ?_
                    refine WP_lconst (0) dX11_town_332 rfl ?_
                    obtain ⟨l5002, hl5002, el5002⟩ : ∃ v : Int64, v.toInt = 0 ∧ (0 : Int64) = v := ⟨_, rfl, rfl⟩
                    rw [el5002]
                    refine WQ_putl dX11_town_333 fX11_346 rfl rfl (ly_is hy 0 11 rfl) (fun J5003 eJ5003 => ?_)
                    have e5004 : J5003 (ad g 0) 61 = l5002 := by rw [eJ5003, pp_self]
                    have fJ5005 : FC g [0, 2, 3, 4, 5] J J5003 := by rw [eJ5003]; exact FC_pp fJ5000 (by decide)
                    refine WP_aload_n dX11_town_336 rfl ?_
                    refine WP_callV0 (k := 11) dX11_town_337 ⟨⟨⟨by decide, by decide⟩, zX11_forgetWeeks⟩, lX11_350, by decide, rfl, vX11_forgetWeeks.1, vX11_forgetWeeks.2⟩ (ly_is hy 0 11 rfl) (em_forgetWeeks hy hr   ) (Nat.le_of_ble_eq_true rfl) ?_
                    intro r I5007 J5008 Ra hq
                    obtain ⟨ec, g5009, g5010, g5011, er, p5006⟩ := hq
                    rw [ec, er]
                    clear ec er Ra r
                    have e5012 : I5007 (ad g 0) 1 = w3407 := by rw [FC_at hy g5009 0 (by decide) (by decide)]; exact e4978
                    have e5013 : I5007 (ad g 0) 8 = w3421 := by rw [FC_at hy g5009 0 (by decide) (by decide)]; exact e4979
                    have e5014 : I5007 (ad g 0) 9 = w3422 := by rw [FC_at hy g5009 0 (by decide) (by decide)]; exact e4980
                    have e5015 : I5007 (ad g 0) 15 = w3424 := by rw [FC_at hy g5009 0 (by decide) (by decide)]; exact e4981
                    have e5016 : I5007 (ad g 0) 10 = w3424 := by rw [FC_at hy g5009 0 (by decide) (by decide)]; exact e4982
                    have e5017 : I5007 (ad g 0) 16 = w3433 := by rw [FC_at hy g5009 0 (by decide) (by decide)]; exact e4983
                    have e5018 : I5007 (ad g 0) 11 = w3433 := by rw [FC_at hy g5009 0 (by decide) (by decide)]; exact e4984
                    have e5019 : I5007 (ad g 0) 17 = w3444 := by rw [FC_at hy g5009 0 (by decide) (by decide)]; exact e4985
                    have e5020 : I5007 (ad g 0) 13 = w3444 := by rw [FC_at hy g5009 0 (by decide) (by decide)]; exact e4986
                    have e5021 : I5007 (ad g 0) 18 = w3457 := by rw [FC_at hy g5009 0 (by decide) (by decide)]; exact e4987
                    have e5022 : I5007 (ad g 0) 14 = v4315 := by rw [FC_at hy g5009 0 (by decide) (by decide)]; exact e4988
                    have e5023 : I5007 (ad g 0) 19 = w4330 := by rw [FC_at hy g5009 0 (by decide) (by decide)]; exact e4989
                    have e5024 : I5007 (ad g 0) 12 = w4330 := by rw [FC_at hy g5009 0 (by decide) (by decide)]; exact e4990
                    have e5025 : I5007 (ad g 46) 0 = v4690 := by rw [FC_at hy g5009 46 (by decide) (by decide)]; exact e4991
                    have e5026 : I5007 (ad g 47) 0 = v4709 := by rw [FC_at hy g5009 47 (by decide) (by decide)]; exact e4992
                    have e5027 : I5007 (ad g 46) 1 = v4755 := by rw [FC_at hy g5009 46 (by decide) (by decide)]; exact e4993
                    have e5028 : I5007 (ad g 47) 1 = v4777 := by rw [FC_at hy g5009 47 (by decide) (by decide)]; exact e4994
                    have e5029 : I5007 (ad g 46) 2 = v4829 := by rw [FC_at hy g5009 46 (by decide) (by decide)]; exact e4995
                    have e5030 : I5007 (ad g 47) 2 = v4854 := by rw [FC_at hy g5009 47 (by decide) (by decide)]; exact e4996
                    have e5031 : I5007 (ad g 46) 3 = v4912 := by rw [FC_at hy g5009 46 (by decide) (by decide)]; exact e4997
                    have e5032 : I5007 (ad g 47) 3 = v4940 := by rw [FC_at hy g5009 47 (by decide) (by decide)]; exact e4998
                    have e5033 : J5008 (ad g 0) 61 = l5002 := by rw [FC_at hy g5010 0 (by decide) (by decide)]; exact e5004
                    have fI5034 : FC g [0, 6, 7, 8, 9, 10, 11, 12, 13, 14, 15, 16, 17, 18, 19, 20, 21, 22, 23, 24, 25, 26, 27, 28, 29, 30, 31, 32, 33, 34, 37, 38, 44, 46, 47] I I5007 := FC_tr fI4999 (FC_mono g5009 (by decide))
                    have fJ5035 : FC g [0, 2, 3, 4, 5] J J5008 := FC_tr fJ5005 (FC_mono g5010 (by decide))
                    have fQ5036 : FQ g [1, 2, 3, 4, 5, 6, 7, 8, 9, 10, 11, 12, 13, 14, 15, 16, 17, 18, 19, 51, 68] I I5007 := FQ_tr fQ5001 (FQ_mono g5011 (by decide))
                    try simp only [e5012, e5013, e5014, ew3395, ew3396, ew3397] at p5006
                    refine WQ_iconst (0) (0) dX11_town_340 rfl rfl (fun v5037 hv5037 => ?_)
                    refine WP_istore_n (ls' := [(0, _), (1, _)]) dX11_town_341 (by decide) rfl ?_
                    refine WP_iload_n dX11_town_342 rfl ?_
                    refine WQ_iconst (3) (3) dX11_town_343 rfl rfl (fun v5038 hv5038 => ?_)
                    refine WQ_icmp_ge 360 dX11_town_344 rfl (fun c5038 => False.elim (by omega)) (fun c5038 => ?_)
                    refine WP_aload_n dX11_town_347 rfl ?_
                    refine WP_getr dX11_town_348 fX11_301 rfl (ly_is hy 0 11 rfl) (rf hr 0 67 44 (by decide)) ?_
                    refine WP_iload_n dX11_town_351 rfl ?_
                    refine WQ_iconst (0) (0) dX11_town_352 rfl rfl (fun v5040 hv5040 => ?_)
                    refine WE_zs dX11_town_353 (ly_is hy 44 15 rfl) (ly_n hy 44 3 rfl) (by omega) (by omega) (fun I5041 eI5041 => ?_)
                    rw [show v5037.toInt.toNat = 0 by omega] at eI5041
                    have e5042 : I5041 (ad g 0) 1 = w3407 := by rw [eI5041, pp_ne _ _ (Or.inl (ly_ne hy (by decide) (by decide) (by decide)))]; exact e5012
                    have e5043 : I5041 (ad g 0) 8 = w3421 := by rw [eI5041, pp_ne _ _ (Or.inl (ly_ne hy (by decide) (by decide) (by decide)))]; exact e5013
                    have e5044 : I5041 (ad g 0) 9 = w3422 := by rw [eI5041, pp_ne _ _ (Or.inl (ly_ne hy (by decide) (by decide) (by decide)))]; exact e5014
                    have e5045 : I5041 (ad g 0) 15 = w3424 := by rw [eI5041, pp_ne _ _ (Or.inl (ly_ne hy (by decide) (by decide) (by decide)))]; exact e5015
                    have e5046 : I5041 (ad g 0) 10 = w3424 := by rw [eI5041, pp_ne _ _ (Or.inl (ly_ne hy (by decide) (by decide) (by decide)))]; exact e5016
                    have e5047 : I5041 (ad g 0) 16 = w3433 := by rw [eI5041, pp_ne _ _ (Or.inl (ly_ne hy (by decide) (by decide) (by decide)))]; exact e5017
                    have e5048 : I5041 (ad g 0) 11 = w3433 := by rw [eI5041, pp_ne _ _ (Or.inl (ly_ne hy (by decide) (by decide) (by decide)))]; exact e5018
                    have e5049 : I5041 (ad g 0) 17 = w3444 := by rw [eI5041, pp_ne _ _ (Or.inl (ly_ne hy (by decide) (by decide) (by decide)))]; exact e5019
                    have e5050 : I5041 (ad g 0) 13 = w3444 := by rw [eI5041, pp_ne _ _ (Or.inl (ly_ne hy (by decide) (by decide) (by decide)))]; exact e5020
                    have e5051 : I5041 (ad g 0) 18 = w3457 := by rw [eI5041, pp_ne _ _ (Or.inl (ly_ne hy (by decide) (by decide) (by decide)))]; exact e5021
                    have e5052 : I5041 (ad g 0) 14 = v4315 := by rw [eI5041, pp_ne _ _ (Or.inl (ly_ne hy (by decide) (by decide) (by decide)))]; exact e5022
                    have e5053 : I5041 (ad g 0) 19 = w4330 := by rw [eI5041, pp_ne _ _ (Or.inl (ly_ne hy (by decide) (by decide) (by decide)))]; exact e5023
                    have e5054 : I5041 (ad g 0) 12 = w4330 := by rw [eI5041, pp_ne _ _ (Or.inl (ly_ne hy (by decide) (by decide) (by decide)))]; exact e5024
                    have e5055 : I5041 (ad g 46) 0 = v4690 := by rw [eI5041, pp_ne _ _ (Or.inl (ly_ne hy (by decide) (by decide) (by decide)))]; exact e5025
                    have e5056 : I5041 (ad g 47) 0 = v4709 := by rw [eI5041, pp_ne _ _ (Or.inl (ly_ne hy (by decide) (by decide) (by decide)))]; exact e5026
                    have e5057 : I5041 (ad g 46) 1 = v4755 := by rw [eI5041, pp_ne _ _ (Or.inl (ly_ne hy (by decide) (by decide) (by decide)))]; exact e5027
                    have e5058 : I5041 (ad g 47) 1 = v4777 := by rw [eI5041, pp_ne _ _ (Or.inl (ly_ne hy (by decide) (by decide) (by decide)))]; exact e5028
                    have e5059 : I5041 (ad g 46) 2 = v4829 := by rw [eI5041, pp_ne _ _ (Or.inl (ly_ne hy (by decide) (by decide) (by decide)))]; exact e5029
                    have e5060 : I5041 (ad g 47) 2 = v4854 := by rw [eI5041, pp_ne _ _ (Or.inl (ly_ne hy (by decide) (by decide) (by decide)))]; exact e5030
                    have e5061 : I5041 (ad g 46) 3 = v4912 := by rw [eI5041, pp_ne _ _ (Or.inl (ly_ne hy (by decide) (by decide) (by decide)))]; exact e5031
                    have e5062 : I5041 (ad g 47) 3 = v4940 := by rw [eI5041, pp_ne _ _ (Or.inl (ly_ne hy (by decide) (by decide) (by decide)))]; exact e5032
                    have e5063 : I5041 (ad g 44) 0 = (vp_nar .boolean v5040) := by rw [eI5041, pp_self]
                    have fI5064 : FC g [0, 6, 7, 8, 9, 10, 11, 12, 13, 14, 15, 16, 17, 18, 19, 20, 21, 22, 23, 24, 25, 26, 27, 28, 29, 30, 31, 32, 33, 34, 37, 38, 44, 46, 47] I I5041 := by rw [eI5041]; exact FC_pp fI5034 (by decide)
                    have fQ5065 : FQ g [1, 2, 3, 4, 5, 6, 7, 8, 9, 10, 11, 12, 13, 14, 15, 16, 17, 18, 19, 51, 68] I I5041 := by rw [eI5041]; exact FQ_ppn (ly_ne hy (by decide) (by decide) (by decide)) fQ5036
                    refine WP_iinc (ls' := [(0, _), (1, _)]) dX11_town_354 rfl (by decide) rfl ?_
                    have hv5066 : (v5037 + Int32.ofInt (1)).toInt = v5037.toInt + (1) := ia_n rfl (by omega) (by omega)
                    generalize v5037 + Int32.ofInt (1) = v5066 at hv5066 ⊢
                    have kv5066 : v5066.toInt = 1 := by omega
                    clear hv5066; have hv5066 := kv5066; clear kv5066
                    refine WP_goto 342 dX11_town_357 rfl ?_
                    refine WP_iload_n dX11_town_342 rfl ?_
                    refine WQ_iconst (3) (3) dX11_town_343 rfl rfl (fun v5067 hv5067 => ?_)
                    refine WQ_icmp_ge 360 dX11_town_344 rfl (fun c5067 => False.elim (by omega)) (fun c5067 => ?_)
                    refine WP_aload_n dX11_town_347 rfl ?_
                    refine WP_getr dX11_town_348 fX11_301 rfl (ly_is hy 0 11 rfl) (rf hr 0 67 44 (by decide)) ?_
                    refine WP_iload_n dX11_town_351 rfl ?_
                    refine WQ_iconst (0) (0) dX11_town_352 rfl rfl (fun v5069 hv5069 => ?_)
                    refine WE_zs dX11_town_353 (ly_is hy 44 15 rfl) (ly_n hy 44 3 rfl) (by omega) (by omega) (fun I5070 eI5070 => ?_)
                    rw [show v5066.toInt.toNat = 1 by omega] at eI5070
                    have e5071 : I5070 (ad g 0) 1 = w3407 := by rw [eI5070, pp_ne _ _ (Or.inl (ly_ne hy (by decide) (by decide) (by decide)))]; exact e5042
                    have e5072 : I5070 (ad g 0) 8 = w3421 := by rw [eI5070, pp_ne _ _ (Or.inl (ly_ne hy (by decide) (by decide) (by decide)))]; exact e5043
                    have e5073 : I5070 (ad g 0) 9 = w3422 := by rw [eI5070, pp_ne _ _ (Or.inl (ly_ne hy (by decide) (by decide) (by decide)))]; exact e5044
                    have e5074 : I5070 (ad g 0) 15 = w3424 := by rw [eI5070, pp_ne _ _ (Or.inl (ly_ne hy (by decide) (by decide) (by decide)))]; exact e5045
                    have e5075 : I5070 (ad g 0) 10 = w3424 := by rw [eI5070, pp_ne _ _ (Or.inl (ly_ne hy (by decide) (by decide) (by decide)))]; exact e5046
                    have e5076 : I5070 (ad g 0) 16 = w3433 := by rw [eI5070, pp_ne _ _ (Or.inl (ly_ne hy (by decide) (by decide) (by decide)))]; exact e5047
                    have e5077 : I5070 (ad g 0) 11 = w3433 := by rw [eI5070, pp_ne _ _ (Or.inl (ly_ne hy (by decide) (by decide) (by decide)))]; exact e5048
                    have e5078 : I5070 (ad g 0) 17 = w3444 := by rw [eI5070, pp_ne _ _ (Or.inl (ly_ne hy (by decide) (by decide) (by decide)))]; exact e5049
                    have e5079 : I5070 (ad g 0) 13 = w3444 := by rw [eI5070, pp_ne _ _ (Or.inl (ly_ne hy (by decide) (by decide) (by decide)))]; exact e5050
                    have e5080 : I5070 (ad g 0) 18 = w3457 := by rw [eI5070, pp_ne _ _ (Or.inl (ly_ne hy (by decide) (by decide) (by decide)))]; exact e5051
                    have e5081 : I5070 (ad g 0) 14 = v4315 := by rw [eI5070, pp_ne _ _ (Or.inl (ly_ne hy (by decide) (by decide) (by decide)))]; exact e5052
                    have e5082 : I5070 (ad g 0) 19 = w4330 := by rw [eI5070, pp_ne _ _ (Or.inl (ly_ne hy (by decide) (by decide) (by decide)))]; exact e5053
                    have e5083 : I5070 (ad g 0) 12 = w4330 := by rw [eI5070, pp_ne _ _ (Or.inl (ly_ne hy (by decide) (by decide) (by decide)))]; exact e5054
                    have e5084 : I5070 (ad g 46) 0 = v4690 := by rw [eI5070, pp_ne _ _ (Or.inl (ly_ne hy (by decide) (by decide) (by decide)))]; exact e5055
                    have e5085 : I5070 (ad g 47) 0 = v4709 := by rw [eI5070, pp_ne _ _ (Or.inl (ly_ne hy (by decide) (by decide) (by decide)))]; exact e5056
                    have e5086 : I5070 (ad g 46) 1 = v4755 := by rw [eI5070, pp_ne _ _ (Or.inl (ly_ne hy (by decide) (by decide) (by decide)))]; exact e5057
                    have e5087 : I5070 (ad g 47) 1 = v4777 := by rw [eI5070, pp_ne _ _ (Or.inl (ly_ne hy (by decide) (by decide) (by decide)))]; exact e5058
                    have e5088 : I5070 (ad g 46) 2 = v4829 := by rw [eI5070, pp_ne _ _ (Or.inl (ly_ne hy (by decide) (by decide) (by decide)))]; exact e5059
                    have e5089 : I5070 (ad g 47) 2 = v4854 := by rw [eI5070, pp_ne _ _ (Or.inl (ly_ne hy (by decide) (by decide) (by decide)))]; exact e5060
                    have e5090 : I5070 (ad g 46) 3 = v4912 := by rw [eI5070, pp_ne _ _ (Or.inl (ly_ne hy (by decide) (by decide) (by decide)))]; exact e5061
                    have e5091 : I5070 (ad g 47) 3 = v4940 := by rw [eI5070, pp_ne _ _ (Or.inl (ly_ne hy (by decide) (by decide) (by decide)))]; exact e5062
                    have e5092 : I5070 (ad g 44) 0 = (vp_nar .boolean v5040) := by rw [eI5070, pp_ne _ _ (Or.inr (by decide))]; exact e5063
                    have e5093 : I5070 (ad g 44) 1 = (vp_nar .boolean v5069) := by rw [eI5070, pp_self]
                    have fI5094 : FC g [0, 6, 7, 8, 9, 10, 11, 12, 13, 14, 15, 16, 17, 18, 19, 20, 21, 22, 23, 24, 25, 26, 27, 28, 29, 30, 31, 32, 33, 34, 37, 38, 44, 46, 47] I I5070 := by rw [eI5070]; exact FC_pp fI5064 (by decide)
                    have fQ5095 : FQ g [1, 2, 3, 4, 5, 6, 7, 8, 9, 10, 11, 12, 13, 14, 15, 16, 17, 18, 19, 51, 68] I I5070 := by rw [eI5070]; exact FQ_ppn (ly_ne hy (by decide) (by decide) (by decide)) fQ5065
                    refine WP_iinc (ls' := [(0, _), (1, _)]) dX11_town_354 rfl (by decide) rfl ?_
                    have hv5096 : (v5066 + Int32.ofInt (1)).toInt = v5066.toInt + (1) := ia_n rfl (by omega) (by omega)
                    generalize v5066 + Int32.ofInt (1) = v5096 at hv5096 ⊢
                    have kv5096 : v5096.toInt = 2 := by omega
                    clear hv5096; have hv5096 := kv5096; clear kv5096
                    refine WP_goto 342 dX11_town_357 rfl ?_
                    refine WP_iload_n dX11_town_342 rfl ?_
                    refine WQ_iconst (3) (3) dX11_town_343 rfl rfl (fun v5097 hv5097 => ?_)
                    refine WQ_icmp_ge 360 dX11_town_344 rfl (fun c5097 => False.elim (by omega)) (fun c5097 => ?_)
                    refine WP_aload_n dX11_town_347 rfl ?_
                    refine WP_getr dX11_town_348 fX11_301 rfl (ly_is hy 0 11 rfl) (rf hr 0 67 44 (by decide)) ?_
                    refine WP_iload_n dX11_town_351 rfl ?_
                    refine WQ_iconst (0) (0) dX11_town_352 rfl rfl (fun v5099 hv5099 => ?_)
                    refine WE_zs dX11_town_353 (ly_is hy 44 15 rfl) (ly_n hy 44 3 rfl) (by omega) (by omega) (fun I5100 eI5100 => ?_)
                    rw [show v5096.toInt.toNat = 2 by omega] at eI5100
                    have e5101 : I5100 (ad g 0) 1 = w3407 := by rw [eI5100, pp_ne _ _ (Or.inl (ly_ne hy (by decide) (by decide) (by decide)))]; exact e5071
                    have e5102 : I5100 (ad g 0) 8 = w3421 := by rw [eI5100, pp_ne _ _ (Or.inl (ly_ne hy (by decide) (by decide) (by decide)))]; exact e5072
                    have e5103 : I5100 (ad g 0) 9 = w3422 := by rw [eI5100, pp_ne _ _ (Or.inl (ly_ne hy (by decide) (by decide) (by decide)))]; exact e5073
                    have e5104 : I5100 (ad g 0) 15 = w3424 := by rw [eI5100, pp_ne _ _ (Or.inl (ly_ne hy (by decide) (by decide) (by decide)))]; exact e5074
                    have e5105 : I5100 (ad g 0) 10 = w3424 := by rw [eI5100, pp_ne _ _ (Or.inl (ly_ne hy (by decide) (by decide) (by decide)))]; exact e5075
                    have e5106 : I5100 (ad g 0) 16 = w3433 := by rw [eI5100, pp_ne _ _ (Or.inl (ly_ne hy (by decide) (by decide) (by decide)))]; exact e5076
                    have e5107 : I5100 (ad g 0) 11 = w3433 := by rw [eI5100, pp_ne _ _ (Or.inl (ly_ne hy (by decide) (by decide) (by decide)))]; exact e5077
                    have e5108 : I5100 (ad g 0) 17 = w3444 := by rw [eI5100, pp_ne _ _ (Or.inl (ly_ne hy (by decide) (by decide) (by decide)))]; exact e5078
                    have e5109 : I5100 (ad g 0) 13 = w3444 := by rw [eI5100, pp_ne _ _ (Or.inl (ly_ne hy (by decide) (by decide) (by decide)))]; exact e5079
                    have e5110 : I5100 (ad g 0) 18 = w3457 := by rw [eI5100, pp_ne _ _ (Or.inl (ly_ne hy (by decide) (by decide) (by decide)))]; exact e5080
                    have e5111 : I5100 (ad g 0) 14 = v4315 := by rw [eI5100, pp_ne _ _ (Or.inl (ly_ne hy (by decide) (by decide) (by decide)))]; exact e5081
                    have e5112 : I5100 (ad g 0) 19 = w4330 := by rw [eI5100, pp_ne _ _ (Or.inl (ly_ne hy (by decide) (by decide) (by decide)))]; exact e5082
                    have e5113 : I5100 (ad g 0) 12 = w4330 := by rw [eI5100, pp_ne _ _ (Or.inl (ly_ne hy (by decide) (by decide) (by decide)))]; exact e5083
                    have e5114 : I5100 (ad g 46) 0 = v4690 := by rw [eI5100, pp_ne _ _ (Or.inl (ly_ne hy (by decide) (by decide) (by decide)))]; exact e5084
                    have e5115 : I5100 (ad g 47) 0 = v4709 := by rw [eI5100, pp_ne _ _ (Or.inl (ly_ne hy (by decide) (by decide) (by decide)))]; exact e5085
                    have e5116 : I5100 (ad g 46) 1 = v4755 := by rw [eI5100, pp_ne _ _ (Or.inl (ly_ne hy (by decide) (by decide) (by decide)))]; exact e5086
                    have e5117 : I5100 (ad g 47) 1 = v4777 := by rw [eI5100, pp_ne _ _ (Or.inl (ly_ne hy (by decide) (by decide) (by decide)))]; exact e5087
                    have e5118 : I5100 (ad g 46) 2 = v4829 := by rw [eI5100, pp_ne _ _ (Or.inl (ly_ne hy (by decide) (by decide) (by decide)))]; exact e5088
                    have e5119 : I5100 (ad g 47) 2 = v4854 := by rw [eI5100, pp_ne _ _ (Or.inl (ly_ne hy (by decide) (by decide) (by decide)))]; exact e5089
                    have e5120 : I5100 (ad g 46) 3 = v4912 := by rw [eI5100, pp_ne _ _ (Or.inl (ly_ne hy (by decide) (by decide) (by decide)))]; exact e5090
                    have e5121 : I5100 (ad g 47) 3 = v4940 := by rw [eI5100, pp_ne _ _ (Or.inl (ly_ne hy (by decide) (by decide) (by decide)))]; exact e5091
                    have e5122 : I5100 (ad g 44) 0 = (vp_nar .boolean v5040) := by rw [eI5100, pp_ne _ _ (Or.inr (by decide))]; exact e5092
                    have e5123 : I5100 (ad g 44) 1 = (vp_nar .boolean v5069) := by rw [eI5100, pp_ne _ _ (Or.inr (by decide))]; exact e5093
                    have e5124 : I5100 (ad g 44) 2 = (vp_nar .boolean v5099) := by rw [eI5100, pp_self]
                    have fI5125 : FC g [0, 6, 7, 8, 9, 10, 11, 12, 13, 14, 15, 16, 17, 18, 19, 20, 21, 22, 23, 24, 25, 26, 27, 28, 29, 30, 31, 32, 33, 34, 37, 38, 44, 46, 47] I I5100 := by rw [eI5100]; exact FC_pp fI5094 (by decide)
                    have fQ5126 : FQ g [1, 2, 3, 4, 5, 6, 7, 8, 9, 10, 11, 12, 13, 14, 15, 16, 17, 18, 19, 51, 68] I I5100 := by rw [eI5100]; exact FQ_ppn (ly_ne hy (by decide) (by decide) (by decide)) fQ5095
                    refine WP_iinc (ls' := [(0, _), (1, _)]) dX11_town_354 rfl (by decide) rfl ?_
                    have hv5127 : (v5096 + Int32.ofInt (1)).toInt = v5096.toInt + (1) := ia_n rfl (by omega) (by omega)
                    generalize v5096 + Int32.ofInt (1) = v5127 at hv5127 ⊢
                    have kv5127 : v5127.toInt = 3 := by omega
                    clear hv5127; have hv5127 := kv5127; clear kv5127
                    refine WP_goto 342 dX11_town_357 rfl ?_
                    refine WP_iload_n dX11_town_342 rfl ?_
                    refine WQ_iconst (3) (3) dX11_town_343 rfl rfl (fun v5128 hv5128 => ?_)
                    refine WQ_icmp_ge 360 dX11_town_344 rfl (fun c5128 => ?_) (fun c5128 => False.elim (by omega))
                    refine WP_aload_n dX11_town_360 rfl ?_
                    refine WQ_iconst (-1) (-1) dX11_town_361 rfl rfl (fun v5130 hv5130 => ?_)
                    refine WQ_puti dX11_town_362 fX11_304 rfl rfl (ly_is hy 0 11 rfl) (fun I5131 eI5131 => ?_)
                    have e5132 : I5131 (ad g 0) 1 = w3407 := by rw [eI5131, pp_ne _ _ (Or.inr (by decide))]; exact e5101
                    have e5133 : I5131 (ad g 0) 8 = w3421 := by rw [eI5131, pp_ne _ _ (Or.inr (by decide))]; exact e5102
                    have e5134 : I5131 (ad g 0) 9 = w3422 := by rw [eI5131, pp_ne _ _ (Or.inr (by decide))]; exact e5103
                    have e5135 : I5131 (ad g 0) 15 = w3424 := by rw [eI5131, pp_ne _ _ (Or.inr (by decide))]; exact e5104
                    have e5136 : I5131 (ad g 0) 10 = w3424 := by rw [eI5131, pp_ne _ _ (Or.inr (by decide))]; exact e5105
                    have e5137 : I5131 (ad g 0) 16 = w3433 := by rw [eI5131, pp_ne _ _ (Or.inr (by decide))]; exact e5106
                    have e5138 : I5131 (ad g 0) 11 = w3433 := by rw [eI5131, pp_ne _ _ (Or.inr (by decide))]; exact e5107
                    have e5139 : I5131 (ad g 0) 17 = w3444 := by rw [eI5131, pp_ne _ _ (Or.inr (by decide))]; exact e5108
                    have e5140 : I5131 (ad g 0) 13 = w3444 := by rw [eI5131, pp_ne _ _ (Or.inr (by decide))]; exact e5109
                    have e5141 : I5131 (ad g 0) 18 = w3457 := by rw [eI5131, pp_ne _ _ (Or.inr (by decide))]; exact e5110
                    have e5142 : I5131 (ad g 0) 14 = v4315 := by rw [eI5131, pp_ne _ _ (Or.inr (by decide))]; exact e5111
                    have e5143 : I5131 (ad g 0) 19 = w4330 := by rw [eI5131, pp_ne _ _ (Or.inr (by decide))]; exact e5112
                    have e5144 : I5131 (ad g 0) 12 = w4330 := by rw [eI5131, pp_ne _ _ (Or.inr (by decide))]; exact e5113
                    have e5145 : I5131 (ad g 46) 0 = v4690 := by rw [eI5131, pp_ne _ _ (Or.inl (ly_ne hy (by decide) (by decide) (by decide)))]; exact e5114
                    have e5146 : I5131 (ad g 47) 0 = v4709 := by rw [eI5131, pp_ne _ _ (Or.inl (ly_ne hy (by decide) (by decide) (by decide)))]; exact e5115
                    have e5147 : I5131 (ad g 46) 1 = v4755 := by rw [eI5131, pp_ne _ _ (Or.inl (ly_ne hy (by decide) (by decide) (by decide)))]; exact e5116
                    have e5148 : I5131 (ad g 47) 1 = v4777 := by rw [eI5131, pp_ne _ _ (Or.inl (ly_ne hy (by decide) (by decide) (by decide)))]; exact e5117
                    have e5149 : I5131 (ad g 46) 2 = v4829 := by rw [eI5131, pp_ne _ _ (Or.inl (ly_ne hy (by decide) (by decide) (by decide)))]; exact e5118
                    have e5150 : I5131 (ad g 47) 2 = v4854 := by rw [eI5131, pp_ne _ _ (Or.inl (ly_ne hy (by decide) (by decide) (by decide)))]; exact e5119
                    have e5151 : I5131 (ad g 46) 3 = v4912 := by rw [eI5131, pp_ne _ _ (Or.inl (ly_ne hy (by decide) (by decide) (by decide)))]; exact e5120
                    have e5152 : I5131 (ad g 47) 3 = v4940 := by rw [eI5131, pp_ne _ _ (Or.inl (ly_ne hy (by decide) (by decide) (by decide)))]; exact e5121
                    have e5153 : I5131 (ad g 44) 0 = (vp_nar .boolean v5040) := by rw [eI5131, pp_ne _ _ (Or.inl (ly_ne hy (by decide) (by decide) (by decide)))]; exact e5122
                    have e5154 : I5131 (ad g 44) 1 = (vp_nar .boolean v5069) := by rw [eI5131, pp_ne _ _ (Or.inl (ly_ne hy (by decide) (by decide) (by decide)))]; exact e5123
                    have e5155 : I5131 (ad g 44) 2 = (vp_nar .boolean v5099) := by rw [eI5131, pp_ne _ _ (Or.inl (ly_ne hy (by decide) (by decide) (by decide)))]; exact e5124
                    have e5156 : I5131 (ad g 0) 68 = v5130 := by rw [eI5131, pp_self]
                    have fI5157 : FC g [0, 6, 7, 8, 9, 10, 11, 12, 13, 14, 15, 16, 17, 18, 19, 20, 21, 22, 23, 24, 25, 26, 27, 28, 29, 30, 31, 32, 33, 34, 37, 38, 44, 46, 47] I I5131 := by rw [eI5131]; exact FC_pp fI5125 (by decide)
                    have fQ5158 : FQ g [1, 2, 3, 4, 5, 6, 7, 8, 9, 10, 11, 12, 13, 14, 15, 16, 17, 18, 19, 51, 68] I I5131 := by rw [eI5131]; exact FQ_pp0 fQ5126 (by decide)
                    refine WP_aload_n dX11_town_365 rfl ?_
                    refine WQ_getim dX11_town_366 fX11_335 rfl (ly_is hy 0 11 rfl) e5144 ?_
                    exact WP_iret dX11_town_369 rfl ⟨rfl, fI5157, fJ5035, fQ5158, w4330, rfl, by
                      try simp only [e5132, e5133, e5134, e5135, e5136, e5137, e5138, e5139, e5140, e5141, e5142, e5143, e5144, e5145, e5146, e5147, e5148, e5149, e5150, e5151, e5152, e5153, e5154, e5155, e5156, e5033, ew3395, ew3396, ew3397]
                      have hb4 : ∀ e ∈ rsT, ∀ q : Nat, (q : Int) < (e.2.2 : Int) * S2.1 0 1 → (I3412 (ad g e.1) q).toInt = S2.1 e.2.1 q := hR.2.2.2.1
                      have hb5 : ∀ e ∈ rtT, ∀ q : Nat, (q : Int) < (e.2.2 : Int) * S2.1 0 2 → (I3412 (ad g e.1) q).toInt = S2.1 e.2.1 q := hR.2.2.2.2.1
                      refine Or.inr ⟨S2, hok, ?_, ⟨⟨?_, ?_, ?_, ?_, ?_⟩, fun q hq => ?_, ?_, ?_, ?_, ?_⟩, fun q hq => ?_, fun q hq => ?_, ?_, fun q hq => ?_, fun q hq => ?_, fun q hq => ?_, ?_⟩
                      · omega
                      · omega
                      · omega
                      · omega
                      · omega
                      · omega
                      · rw [eI5131, pp_off _ _ (ly_ne hy (by decide) (by decide) (by decide)), eI5100, pp_off _ _ (ly_ne hy (by decide) (by decide) (by decide)), eI5070, pp_off _ _ (ly_ne hy (by decide) (by decide) (by decide)), eI5041, pp_off _ _ (ly_ne hy (by decide) (by decide) (by decide)), FC_at hy g5009 6 (by decide) (by decide), FC_at hy g4975 6 (by decide) (by decide), eI4941, pp_off _ _ (ly_ne hy (by decide) (by decide) (by decide)), eI4913, pp_off _ _ (ly_ne hy (by decide) (by decide) (by decide)), eI4886, pp_off _ _ (ly_ne hy (by decide) (by decide) (by decide)), eI4855, pp_off _ _ (ly_ne hy (by decide) (by decide) (by decide)), eI4830, pp_off _ _ (ly_ne hy (by decide) (by decide) (by decide)), eI4806, pp_off _ _ (ly_ne hy (by decide) (by decide) (by decide)), eI4778, pp_off _ _ (ly_ne hy (by decide) (by decide) (by decide)), eI4756, pp_off _ _ (ly_ne hy (by decide) (by decide) (by decide)), eI4735, pp_off _ _ (ly_ne hy (by decide) (by decide) (by decide)), eI4710, pp_off _ _ (ly_ne hy (by decide) (by decide) (by decide)), eI4691, pp_off _ _ (ly_ne hy (by decide) (by decide) (by decide)), eI4673, pp_off _ _ (ly_ne hy (by decide) (by decide) (by decide)), FC_at hy g4648 6 (by decide) (by decide), FC_at hy g4626 6 (by decide) (by decide), FC_at hy g4604 6 (by decide) (by decide), FC_at hy g4582 6 (by decide) (by decide), FC_at hy g4560 6 (by decide) (by decide), FC_at hy g4538 6 (by decide) (by decide), FC_at hy g4516 6 (by decide) (by decide), FC_at hy g4494 6 (by decide) (by decide), FC_at hy g4472 6 (by decide) (by decide), FC_at hy g4450 6 (by decide) (by decide), FC_at hy g4428 6 (by decide) (by decide), FC_at hy g4406 6 (by decide) (by decide), FC_at hy g4384 6 (by decide) (by decide), d6 q hq]; exact hR.2.1 q hq
                      · intro e he q hq
                        have hmul := hb2
                        rcases (show e = (8, 2, 1) ∨ e = (9, 3, 1) ∨ e = (10, 4, 1) ∨ e = (11, 5, 1) ∨ e = (20, 6, 7) ∨ e = (24, 7, 7) ∨ e = (25, 8, 7) ∨ e = (26, 9, 7) by simpa [tsT] using he) with rfl | rfl | rfl | rfl | rfl | rfl | rfl | rfl
                        · show (I5131 (ad g 8) q).toInt = S2.1 2 q
                          have hq2 : (q : Int) < 1 * S2.1 0 1 := hq
                          rw [eI5131, pp_off _ _ (ly_ne hy (by decide) (by decide) (by decide)), eI5100, pp_off _ _ (ly_ne hy (by decide) (by decide) (by decide)), eI5070, pp_off _ _ (ly_ne hy (by decide) (by decide) (by decide)), eI5041, pp_off _ _ (ly_ne hy (by decide) (by decide) (by decide)), FC_at hy g5009 8 (by decide) (by decide), FC_at hy g4975 8 (by decide) (by decide), eI4941, pp_off _ _ (ly_ne hy (by decide) (by decide) (by decide)), eI4913, pp_off _ _ (ly_ne hy (by decide) (by decide) (by decide)), eI4886, pp_off _ _ (ly_ne hy (by decide) (by decide) (by decide)), eI4855, pp_off _ _ (ly_ne hy (by decide) (by decide) (by decide)), eI4830, pp_off _ _ (ly_ne hy (by decide) (by decide) (by decide)), eI4806, pp_off _ _ (ly_ne hy (by decide) (by decide) (by decide)), eI4778, pp_off _ _ (ly_ne hy (by decide) (by decide) (by decide)), eI4756, pp_off _ _ (ly_ne hy (by decide) (by decide) (by decide)), eI4735, pp_off _ _ (ly_ne hy (by decide) (by decide) (by decide)), eI4710, pp_off _ _ (ly_ne hy (by decide) (by decide) (by decide)), eI4691, pp_off _ _ (ly_ne hy (by decide) (by decide) (by decide)), eI4673, pp_off _ _ (ly_ne hy (by decide) (by decide) (by decide)), FC_at hy g4648 8 (by decide) (by decide), FC_at hy g4626 8 (by decide) (by decide), FC_at hy g4604 8 (by decide) (by decide), FC_at hy g4582 8 (by decide) (by decide), FC_at hy g4560 8 (by decide) (by decide), FC_at hy g4538 8 (by decide) (by decide), FC_at hy g4516 8 (by decide) (by decide), FC_at hy g4494 8 (by decide) (by decide), FC_at hy g4472 8 (by decide) (by decide), FC_at hy g4450 8 (by decide) (by decide), FC_at hy g4428 8 (by decide) (by decide), FC_at hy g4406 8 (by decide) (by decide), d8 q (by omega)]
                          exact hb4 (14, 2, 1) (by decide) q hq
                        · show (I5131 (ad g 9) q).toInt = S2.1 3 q
                          have hq2 : (q : Int) < 1 * S2.1 0 1 := hq
                          rw [eI5131, pp_off _ _ (ly_ne hy (by decide) (by decide) (by decide)), eI5100, pp_off _ _ (ly_ne hy (by decide) (by decide) (by decide)), eI5070, pp_off _ _ (ly_ne hy (by decide) (by decide) (by decide)), eI5041, pp_off _ _ (ly_ne hy (by decide) (by decide) (by decide)), FC_at hy g5009 9 (by decide) (by decide), FC_at hy g4975 9 (by decide) (by decide), eI4941, pp_off _ _ (ly_ne hy (by decide) (by decide) (by decide)), eI4913, pp_off _ _ (ly_ne hy (by decide) (by decide) (by decide)), eI4886, pp_off _ _ (ly_ne hy (by decide) (by decide) (by decide)), eI4855, pp_off _ _ (ly_ne hy (by decide) (by decide) (by decide)), eI4830, pp_off _ _ (ly_ne hy (by decide) (by decide) (by decide)), eI4806, pp_off _ _ (ly_ne hy (by decide) (by decide) (by decide)), eI4778, pp_off _ _ (ly_ne hy (by decide) (by decide) (by decide)), eI4756, pp_off _ _ (ly_ne hy (by decide) (by decide) (by decide)), eI4735, pp_off _ _ (ly_ne hy (by decide) (by decide) (by decide)), eI4710, pp_off _ _ (ly_ne hy (by decide) (by decide) (by decide)), eI4691, pp_off _ _ (ly_ne hy (by decide) (by decide) (by decide)), eI4673, pp_off _ _ (ly_ne hy (by decide) (by decide) (by decide)), FC_at hy g4648 9 (by decide) (by decide), FC_at hy g4626 9 (by decide) (by decide), FC_at hy g4604 9 (by decide) (by decide), FC_at hy g4582 9 (by decide) (by decide), FC_at hy g4560 9 (by decide) (by decide), FC_at hy g4538 9 (by decide) (by decide), FC_at hy g4516 9 (by decide) (by decide), FC_at hy g4494 9 (by decide) (by decide), FC_at hy g4472 9 (by decide) (by decide), FC_at hy g4450 9 (by decide) (by decide), FC_at hy g4428 9 (by decide) (by decide), d9 q (by omega)]
                          exact hb4 (15, 3, 1) (by decide) q hq
                        · show (I5131 (ad g 10) q).toInt = S2.1 4 q
                          have hq2 : (q : Int) < 1 * S2.1 0 1 := hq
                          rw [eI5131, pp_off _ _ (ly_ne hy (by decide) (by decide) (by decide)), eI5100, pp_off _ _ (ly_ne hy (by decide) (by decide) (by decide)), eI5070, pp_off _ _ (ly_ne hy (by decide) (by decide) (by decide)), eI5041, pp_off _ _ (ly_ne hy (by decide) (by decide) (by decide)), FC_at hy g5009 10 (by decide) (by decide), FC_at hy g4975 10 (by decide) (by decide), eI4941, pp_off _ _ (ly_ne hy (by decide) (by decide) (by decide)), eI4913, pp_off _ _ (ly_ne hy (by decide) (by decide) (by decide)), eI4886, pp_off _ _ (ly_ne hy (by decide) (by decide) (by decide)), eI4855, pp_off _ _ (ly_ne hy (by decide) (by decide) (by decide)), eI4830, pp_off _ _ (ly_ne hy (by decide) (by decide) (by decide)), eI4806, pp_off _ _ (ly_ne hy (by decide) (by decide) (by decide)), eI4778, pp_off _ _ (ly_ne hy (by decide) (by decide) (by decide)), eI4756, pp_off _ _ (ly_ne hy (by decide) (by decide) (by decide)), eI4735, pp_off _ _ (ly_ne hy (by decide) (by decide) (by decide)), eI4710, pp_off _ _ (ly_ne hy (by decide) (by decide) (by decide)), eI4691, pp_off _ _ (ly_ne hy (by decide) (by decide) (by decide)), eI4673, pp_off _ _ (ly_ne hy (by decide) (by decide) (by decide)), FC_at hy g4648 10 (by decide) (by decide), FC_at hy g4626 10 (by decide) (by decide), FC_at hy g4604 10 (by decide) (by decide), FC_at hy g4582 10 (by decide) (by decide), FC_at hy g4560 10 (by decide) (by decide), FC_at hy g4538 10 (by decide) (by decide), FC_at hy g4516 10 (by decide) (by decide), FC_at hy g4494 10 (by decide) (by decide), FC_at hy g4472 10 (by decide) (by decide), FC_at hy g4450 10 (by decide) (by decide), d10 q (by omega)]
                          exact hb4 (16, 4, 1) (by decide) q hq
                        · show (I5131 (ad g 11) q).toInt = S2.1 5 q
                          have hq2 : (q : Int) < 1 * S2.1 0 1 := hq
                          rw [eI5131, pp_off _ _ (ly_ne hy (by decide) (by decide) (by decide)), eI5100, pp_off _ _ (ly_ne hy (by decide) (by decide) (by decide)), eI5070, pp_off _ _ (ly_ne hy (by decide) (by decide) (by decide)), eI5041, pp_off _ _ (ly_ne hy (by decide) (by decide) (by decide)), FC_at hy g5009 11 (by decide) (by decide), FC_at hy g4975 11 (by decide) (by decide), eI4941, pp_off _ _ (ly_ne hy (by decide) (by decide) (by decide)), eI4913, pp_off _ _ (ly_ne hy (by decide) (by decide) (by decide)), eI4886, pp_off _ _ (ly_ne hy (by decide) (by decide) (by decide)), eI4855, pp_off _ _ (ly_ne hy (by decide) (by decide) (by decide)), eI4830, pp_off _ _ (ly_ne hy (by decide) (by decide) (by decide)), eI4806, pp_off _ _ (ly_ne hy (by decide) (by decide) (by decide)), eI4778, pp_off _ _ (ly_ne hy (by decide) (by decide) (by decide)), eI4756, pp_off _ _ (ly_ne hy (by decide) (by decide) (by decide)), eI4735, pp_off _ _ (ly_ne hy (by decide) (by decide) (by decide)), eI4710, pp_off _ _ (ly_ne hy (by decide) (by decide) (by decide)), eI4691, pp_off _ _ (ly_ne hy (by decide) (by decide) (by decide)), eI4673, pp_off _ _ (ly_ne hy (by decide) (by decide) (by decide)), FC_at hy g4648 11 (by decide) (by decide), FC_at hy g4626 11 (by decide) (by decide), FC_at hy g4604 11 (by decide) (by decide), FC_at hy g4582 11 (by decide) (by decide), FC_at hy g4560 11 (by decide) (by decide), FC_at hy g4538 11 (by decide) (by decide), FC_at hy g4516 11 (by decide) (by decide), FC_at hy g4494 11 (by decide) (by decide), FC_at hy g4472 11 (by decide) (by decide), d11 q (by omega)]
                          exact hb4 (17, 5, 1) (by decide) q hq
                        · show (I5131 (ad g 20) q).toInt = S2.1 6 q
                          have hq2 : (q : Int) < 7 * S2.1 0 1 := hq
                          rw [eI5131, pp_off _ _ (ly_ne hy (by decide) (by decide) (by decide)), eI5100, pp_off _ _ (ly_ne hy (by decide) (by decide) (by decide)), eI5070, pp_off _ _ (ly_ne hy (by decide) (by decide) (by decide)), eI5041, pp_off _ _ (ly_ne hy (by decide) (by decide) (by decide)), FC_at hy g5009 20 (by decide) (by decide), FC_at hy g4975 20 (by decide) (by decide), eI4941, pp_off _ _ (ly_ne hy (by decide) (by decide) (by decide)), eI4913, pp_off _ _ (ly_ne hy (by decide) (by decide) (by decide)), eI4886, pp_off _ _ (ly_ne hy (by decide) (by decide) (by decide)), eI4855, pp_off _ _ (ly_ne hy (by decide) (by decide) (by decide)), eI4830, pp_off _ _ (ly_ne hy (by decide) (by decide) (by decide)), eI4806, pp_off _ _ (ly_ne hy (by decide) (by decide) (by decide)), eI4778, pp_off _ _ (ly_ne hy (by decide) (by decide) (by decide)), eI4756, pp_off _ _ (ly_ne hy (by decide) (by decide) (by decide)), eI4735, pp_off _ _ (ly_ne hy (by decide) (by decide) (by decide)), eI4710, pp_off _ _ (ly_ne hy (by decide) (by decide) (by decide)), eI4691, pp_off _ _ (ly_ne hy (by decide) (by decide) (by decide)), eI4673, pp_off _ _ (ly_ne hy (by decide) (by decide) (by decide)), FC_at hy g4648 20 (by decide) (by decide), FC_at hy g4626 20 (by decide) (by decide), FC_at hy g4604 20 (by decide) (by decide), FC_at hy g4582 20 (by decide) (by decide), FC_at hy g4560 20 (by decide) (by decide), FC_at hy g4538 20 (by decide) (by decide), d20 q (by omega)]
                          exact hb4 (27, 6, 7) (by decide) q hq
                        · show (I5131 (ad g 24) q).toInt = S2.1 7 q
                          have hq2 : (q : Int) < 7 * S2.1 0 1 := hq
                          rw [eI5131, pp_off _ _ (ly_ne hy (by decide) (by decide) (by decide)), eI5100, pp_off _ _ (ly_ne hy (by decide) (by decide) (by decide)), eI5070, pp_off _ _ (ly_ne hy (by decide) (by decide) (by decide)), eI5041, pp_off _ _ (ly_ne hy (by decide) (by decide) (by decide)), FC_at hy g5009 24 (by decide) (by decide), FC_at hy g4975 24 (by decide) (by decide), eI4941, pp_off _ _ (ly_ne hy (by decide) (by decide) (by decide)), eI4913, pp_off _ _ (ly_ne hy (by decide) (by decide) (by decide)), eI4886, pp_off _ _ (ly_ne hy (by decide) (by decide) (by decide)), eI4855, pp_off _ _ (ly_ne hy (by decide) (by decide) (by decide)), eI4830, pp_off _ _ (ly_ne hy (by decide) (by decide) (by decide)), eI4806, pp_off _ _ (ly_ne hy (by decide) (by decide) (by decide)), eI4778, pp_off _ _ (ly_ne hy (by decide) (by decide) (by decide)), eI4756, pp_off _ _ (ly_ne hy (by decide) (by decide) (by decide)), eI4735, pp_off _ _ (ly_ne hy (by decide) (by decide) (by decide)), eI4710, pp_off _ _ (ly_ne hy (by decide) (by decide) (by decide)), eI4691, pp_off _ _ (ly_ne hy (by decide) (by decide) (by decide)), eI4673, pp_off _ _ (ly_ne hy (by decide) (by decide) (by decide)), FC_at hy g4648 24 (by decide) (by decide), FC_at hy g4626 24 (by decide) (by decide), d24 q (by omega)]
                          exact hb4 (30, 7, 7) (by decide) q hq
                        · show (I5131 (ad g 25) q).toInt = S2.1 8 q
                          have hq2 : (q : Int) < 7 * S2.1 0 1 := hq
                          rw [eI5131, pp_off _ _ (ly_ne hy (by decide) (by decide) (by decide)), eI5100, pp_off _ _ (ly_ne hy (by decide) (by decide) (by decide)), eI5070, pp_off _ _ (ly_ne hy (by decide) (by decide) (by decide)), eI5041, pp_off _ _ (ly_ne hy (by decide) (by decide) (by decide)), FC_at hy g5009 25 (by decide) (by decide), FC_at hy g4975 25 (by decide) (by decide), eI4941, pp_off _ _ (ly_ne hy (by decide) (by decide) (by decide)), eI4913, pp_off _ _ (ly_ne hy (by decide) (by decide) (by decide)), eI4886, pp_off _ _ (ly_ne hy (by decide) (by decide) (by decide)), eI4855, pp_off _ _ (ly_ne hy (by decide) (by decide) (by decide)), eI4830, pp_off _ _ (ly_ne hy (by decide) (by decide) (by decide)), eI4806, pp_off _ _ (ly_ne hy (by decide) (by decide) (by decide)), eI4778, pp_off _ _ (ly_ne hy (by decide) (by decide) (by decide)), eI4756, pp_off _ _ (ly_ne hy (by decide) (by decide) (by decide)), eI4735, pp_off _ _ (ly_ne hy (by decide) (by decide) (by decide)), eI4710, pp_off _ _ (ly_ne hy (by decide) (by decide) (by decide)), eI4691, pp_off _ _ (ly_ne hy (by decide) (by decide) (by decide)), eI4673, pp_off _ _ (ly_ne hy (by decide) (by decide) (by decide)), FC_at hy g4648 25 (by decide) (by decide), d25 q (by omega)]
                          exact hb4 (31, 8, 7) (by decide) q hq
                        · show (I5131 (ad g 26) q).toInt = S2.1 9 q
                          have hq2 : (q : Int) < 7 * S2.1 0 1 := hq
                          rw [eI5131, pp_off _ _ (ly_ne hy (by decide) (by decide) (by decide)), eI5100, pp_off _ _ (ly_ne hy (by decide) (by decide) (by decide)), eI5070, pp_off _ _ (ly_ne hy (by decide) (by decide) (by decide)), eI5041, pp_off _ _ (ly_ne hy (by decide) (by decide) (by decide)), FC_at hy g5009 26 (by decide) (by decide), FC_at hy g4975 26 (by decide) (by decide), eI4941, pp_off _ _ (ly_ne hy (by decide) (by decide) (by decide)), eI4913, pp_off _ _ (ly_ne hy (by decide) (by decide) (by decide)), eI4886, pp_off _ _ (ly_ne hy (by decide) (by decide) (by decide)), eI4855, pp_off _ _ (ly_ne hy (by decide) (by decide) (by decide)), eI4830, pp_off _ _ (ly_ne hy (by decide) (by decide) (by decide)), eI4806, pp_off _ _ (ly_ne hy (by decide) (by decide) (by decide)), eI4778, pp_off _ _ (ly_ne hy (by decide) (by decide) (by decide)), eI4756, pp_off _ _ (ly_ne hy (by decide) (by decide) (by decide)), eI4735, pp_off _ _ (ly_ne hy (by decide) (by decide) (by decide)), eI4710, pp_off _ _ (ly_ne hy (by decide) (by decide) (by decide)), eI4691, pp_off _ _ (ly_ne hy (by decide) (by decide) (by decide)), eI4673, pp_off _ _ (ly_ne hy (by decide) (by decide) (by decide)), d26 q (by omega)]
                          exact hb4 (32, 9, 7) (by decide) q hq
                      · intro e he q hq
                        have hmul := hb3
                        rcases (show e = (12, 10, 1) ∨ e = (13, 11, 1) ∨ e = (21, 12, 7) ∨ e = (23, 13, 7) by simpa [ttT] using he) with rfl | rfl | rfl | rfl
                        · show (I5131 (ad g 12) q).toInt = S2.1 10 q
                          have hq2 : (q : Int) < 1 * S2.1 0 2 := hq
                          rw [eI5131, pp_off _ _ (ly_ne hy (by decide) (by decide) (by decide)), eI5100, pp_off _ _ (ly_ne hy (by decide) (by decide) (by decide)), eI5070, pp_off _ _ (ly_ne hy (by decide) (by decide) (by decide)), eI5041, pp_off _ _ (ly_ne hy (by decide) (by decide) (by decide)), FC_at hy g5009 12 (by decide) (by decide), FC_at hy g4975 12 (by decide) (by decide), eI4941, pp_off _ _ (ly_ne hy (by decide) (by decide) (by decide)), eI4913, pp_off _ _ (ly_ne hy (by decide) (by decide) (by decide)), eI4886, pp_off _ _ (ly_ne hy (by decide) (by decide) (by decide)), eI4855, pp_off _ _ (ly_ne hy (by decide) (by decide) (by decide)), eI4830, pp_off _ _ (ly_ne hy (by decide) (by decide) (by decide)), eI4806, pp_off _ _ (ly_ne hy (by decide) (by decide) (by decide)), eI4778, pp_off _ _ (ly_ne hy (by decide) (by decide) (by decide)), eI4756, pp_off _ _ (ly_ne hy (by decide) (by decide) (by decide)), eI4735, pp_off _ _ (ly_ne hy (by decide) (by decide) (by decide)), eI4710, pp_off _ _ (ly_ne hy (by decide) (by decide) (by decide)), eI4691, pp_off _ _ (ly_ne hy (by decide) (by decide) (by decide)), eI4673, pp_off _ _ (ly_ne hy (by decide) (by decide) (by decide)), FC_at hy g4648 12 (by decide) (by decide), FC_at hy g4626 12 (by decide) (by decide), FC_at hy g4604 12 (by decide) (by decide), FC_at hy g4582 12 (by decide) (by decide), FC_at hy g4560 12 (by decide) (by decide), FC_at hy g4538 12 (by decide) (by decide), FC_at hy g4516 12 (by decide) (by decide), FC_at hy g4494 12 (by decide) (by decide), d12 q (by omega)]
                          exact hb5 (18, 10, 1) (by decide) q hq
                        · show (I5131 (ad g 13) q).toInt = S2.1 11 q
                          have hq2 : (q : Int) < 1 * S2.1 0 2 := hq
                          rw [eI5131, pp_off _ _ (ly_ne hy (by decide) (by decide) (by decide)), eI5100, pp_off _ _ (ly_ne hy (by decide) (by decide) (by decide)), eI5070, pp_off _ _ (ly_ne hy (by decide) (by decide) (by decide)), eI5041, pp_off _ _ (ly_ne hy (by decide) (by decide) (by decide)), FC_at hy g5009 13 (by decide) (by decide), FC_at hy g4975 13 (by decide) (by decide), eI4941, pp_off _ _ (ly_ne hy (by decide) (by decide) (by decide)), eI4913, pp_off _ _ (ly_ne hy (by decide) (by decide) (by decide)), eI4886, pp_off _ _ (ly_ne hy (by decide) (by decide) (by decide)), eI4855, pp_off _ _ (ly_ne hy (by decide) (by decide) (by decide)), eI4830, pp_off _ _ (ly_ne hy (by decide) (by decide) (by decide)), eI4806, pp_off _ _ (ly_ne hy (by decide) (by decide) (by decide)), eI4778, pp_off _ _ (ly_ne hy (by decide) (by decide) (by decide)), eI4756, pp_off _ _ (ly_ne hy (by decide) (by decide) (by decide)), eI4735, pp_off _ _ (ly_ne hy (by decide) (by decide) (by decide)), eI4710, pp_off _ _ (ly_ne hy (by decide) (by decide) (by decide)), eI4691, pp_off _ _ (ly_ne hy (by decide) (by decide) (by decide)), eI4673, pp_off _ _ (ly_ne hy (by decide) (by decide) (by decide)), FC_at hy g4648 13 (by decide) (by decide), FC_at hy g4626 13 (by decide) (by decide), FC_at hy g4604 13 (by decide) (by decide), FC_at hy g4582 13 (by decide) (by decide), FC_at hy g4560 13 (by decide) (by decide), FC_at hy g4538 13 (by decide) (by decide), FC_at hy g4516 13 (by decide) (by decide), d13 q (by omega)]
                          exact hb5 (19, 11, 1) (by decide) q hq
                        · show (I5131 (ad g 21) q).toInt = S2.1 12 q
                          have hq2 : (q : Int) < 7 * S2.1 0 2 := hq
                          rw [eI5131, pp_off _ _ (ly_ne hy (by decide) (by decide) (by decide)), eI5100, pp_off _ _ (ly_ne hy (by decide) (by decide) (by decide)), eI5070, pp_off _ _ (ly_ne hy (by decide) (by decide) (by decide)), eI5041, pp_off _ _ (ly_ne hy (by decide) (by decide) (by decide)), FC_at hy g5009 21 (by decide) (by decide), FC_at hy g4975 21 (by decide) (by decide), eI4941, pp_off _ _ (ly_ne hy (by decide) (by decide) (by decide)), eI4913, pp_off _ _ (ly_ne hy (by decide) (by decide) (by decide)), eI4886, pp_off _ _ (ly_ne hy (by decide) (by decide) (by decide)), eI4855, pp_off _ _ (ly_ne hy (by decide) (by decide) (by decide)), eI4830, pp_off _ _ (ly_ne hy (by decide) (by decide) (by decide)), eI4806, pp_off _ _ (ly_ne hy (by decide) (by decide) (by decide)), eI4778, pp_off _ _ (ly_ne hy (by decide) (by decide) (by decide)), eI4756, pp_off _ _ (ly_ne hy (by decide) (by decide) (by decide)), eI4735, pp_off _ _ (ly_ne hy (by decide) (by decide) (by decide)), eI4710, pp_off _ _ (ly_ne hy (by decide) (by decide) (by decide)), eI4691, pp_off _ _ (ly_ne hy (by decide) (by decide) (by decide)), eI4673, pp_off _ _ (ly_ne hy (by decide) (by decide) (by decide)), FC_at hy g4648 21 (by decide) (by decide), FC_at hy g4626 21 (by decide) (by decide), FC_at hy g4604 21 (by decide) (by decide), FC_at hy g4582 21 (by decide) (by decide), FC_at hy g4560 21 (by decide) (by decide), d21 q (by omega)]
                          exact hb5 (28, 12, 7) (by decide) q hq
                        · show (I5131 (ad g 23) q).toInt = S2.1 13 q
                          have hq2 : (q : Int) < 7 * S2.1 0 2 := hq
                          rw [eI5131, pp_off _ _ (ly_ne hy (by decide) (by decide) (by decide)), eI5100, pp_off _ _ (ly_ne hy (by decide) (by decide) (by decide)), eI5070, pp_off _ _ (ly_ne hy (by decide) (by decide) (by decide)), eI5041, pp_off _ _ (ly_ne hy (by decide) (by decide) (by decide)), FC_at hy g5009 23 (by decide) (by decide), FC_at hy g4975 23 (by decide) (by decide), eI4941, pp_off _ _ (ly_ne hy (by decide) (by decide) (by decide)), eI4913, pp_off _ _ (ly_ne hy (by decide) (by decide) (by decide)), eI4886, pp_off _ _ (ly_ne hy (by decide) (by decide) (by decide)), eI4855, pp_off _ _ (ly_ne hy (by decide) (by decide) (by decide)), eI4830, pp_off _ _ (ly_ne hy (by decide) (by decide) (by decide)), eI4806, pp_off _ _ (ly_ne hy (by decide) (by decide) (by decide)), eI4778, pp_off _ _ (ly_ne hy (by decide) (by decide) (by decide)), eI4756, pp_off _ _ (ly_ne hy (by decide) (by decide) (by decide)), eI4735, pp_off _ _ (ly_ne hy (by decide) (by decide) (by decide)), eI4710, pp_off _ _ (ly_ne hy (by decide) (by decide) (by decide)), eI4691, pp_off _ _ (ly_ne hy (by decide) (by decide) (by decide)), eI4673, pp_off _ _ (ly_ne hy (by decide) (by decide) (by decide)), FC_at hy g4648 23 (by decide) (by decide), FC_at hy g4626 23 (by decide) (by decide), FC_at hy g4604 23 (by decide) (by decide), d23 q (by omega)]
                          exact hb5 (29, 13, 7) (by decide) q hq
                      · intro q hq; rw [FC_at hy g5010 2 (by decide) (by decide), eJ5003, pp_off _ _ (ly_ne hy (by decide) (by decide) (by decide)), FC_at hy g4976 2 (by decide) (by decide), FC_at hy g4649 2 (by decide) (by decide), FC_at hy g4627 2 (by decide) (by decide), FC_at hy g4605 2 (by decide) (by decide), FC_at hy g4583 2 (by decide) (by decide), FC_at hy g4561 2 (by decide) (by decide), FC_at hy g4539 2 (by decide) (by decide), FC_at hy g4517 2 (by decide) (by decide), FC_at hy g4495 2 (by decide) (by decide), FC_at hy g4473 2 (by decide) (by decide), FC_at hy g4451 2 (by decide) (by decide), FC_at hy g4429 2 (by decide) (by decide), FC_at hy g4407 2 (by decide) (by decide), FC_at hy g4385 2 (by decide) (by decide), FC_at hy g4363 2 (by decide) (by decide), FC_at hy kG 2 (by decide) (by decide), jA q (by omega)]; exact hR.2.2.2.2.2.2.2.1 q hq
                      · intro q hq; rw [FC_at hy g5010 3 (by decide) (by decide), eJ5003, pp_off _ _ (ly_ne hy (by decide) (by decide) (by decide)), FC_at hy g4976 3 (by decide) (by decide), FC_at hy g4649 3 (by decide) (by decide), FC_at hy g4627 3 (by decide) (by decide), FC_at hy g4605 3 (by decide) (by decide), FC_at hy g4583 3 (by decide) (by decide), FC_at hy g4561 3 (by decide) (by decide), FC_at hy g4539 3 (by decide) (by decide), FC_at hy g4517 3 (by decide) (by decide), FC_at hy g4495 3 (by decide) (by decide), FC_at hy g4473 3 (by decide) (by decide), FC_at hy g4451 3 (by decide) (by decide), FC_at hy g4429 3 (by decide) (by decide), FC_at hy g4407 3 (by decide) (by decide), FC_at hy g4385 3 (by decide) (by decide), FC_at hy g4363 3 (by decide) (by decide), kA q (by omega)]; exact hR.2.2.2.2.2.2.2.2 q hq
                      · rw [eI5131, pp_off _ _ (ly_ne hy (by decide) (by decide) (by decide)), eI5100, pp_off _ _ (ly_ne hy (by decide) (by decide) (by decide)), eI5070, pp_off _ _ (ly_ne hy (by decide) (by decide) (by decide)), eI5041, pp_off _ _ (ly_ne hy (by decide) (by decide) (by decide)), FC_at hy g5009 22 (by decide) (by decide), FC_at hy g4975 22 (by decide) (by decide), eI4941, pp_off _ _ (ly_ne hy (by decide) (by decide) (by decide)), eI4913, pp_off _ _ (ly_ne hy (by decide) (by decide) (by decide)), eI4886, pp_off _ _ (ly_ne hy (by decide) (by decide) (by decide)), eI4855, pp_off _ _ (ly_ne hy (by decide) (by decide) (by decide)), eI4830, pp_off _ _ (ly_ne hy (by decide) (by decide) (by decide)), eI4806, pp_off _ _ (ly_ne hy (by decide) (by decide) (by decide)), eI4778, pp_off _ _ (ly_ne hy (by decide) (by decide) (by decide)), eI4756, pp_off _ _ (ly_ne hy (by decide) (by decide) (by decide)), eI4735, pp_off _ _ (ly_ne hy (by decide) (by decide) (by decide)), eI4710, pp_off _ _ (ly_ne hy (by decide) (by decide) (by decide)), eI4691, pp_off _ _ (ly_ne hy (by decide) (by decide) (by decide)), eI4673, pp_off _ _ (ly_ne hy (by decide) (by decide) (by decide)), FC_at hy g4648 22 (by decide) (by decide), FC_at hy g4626 22 (by decide) (by decide), FC_at hy g4604 22 (by decide) (by decide), FC_at hy g4582 22 (by decide) (by decide), d22 q (by omega)]; exact hb5 (28, 12, 7) (by decide) q hq
                      · rw [eI5131, pp_off _ _ (ly_ne hy (by decide) (by decide) (by decide)), eI5100, pp_off _ _ (ly_ne hy (by decide) (by decide) (by decide)), eI5070, pp_off _ _ (ly_ne hy (by decide) (by decide) (by decide)), eI5041, pp_off _ _ (ly_ne hy (by decide) (by decide) (by decide)), FC_at hy g5009 38 (by decide) (by decide)]
                        unfold NW0
                        by_cases h9 : q < 28 ∨ 32 ≤ q
                        · rw [if_pos h9, p4972.1 q hq h9]
                          split
                          · rw [d10b q (by omega)]; exact hb4 (16, 4, 1) (by decide) q (by show (q : Int) < 1 * S2.1 0 1; omega)
                          · rfl
                        · rw [if_neg h9, p4972.2 q (by omega) (by omega)]
                          rcases (show q = 28 ∨ q = 29 ∨ q = 30 ∨ q = 31 by omega) with rfl | rfl | rfl | rfl
                          · rw [e4955]; omega
                          · rw [e4958]; omega
                          · rw [e4961]; omega
                          · rw [e4964]; omega
                      · omega
                      · rcases (show q = 0 ∨ q = 1 ∨ q = 2 by omega) with rfl | rfl | rfl
                        · first | exact narz (by omega) | (rw [e5153]; exact narz (by omega))
                        · first | exact narz (by omega) | (rw [e5154]; exact narz (by omega))
                        · first | exact narz (by omega) | (rw [e5155]; exact narz (by omega))
                      · rw [eI5131, pp_off _ _ (ly_ne hy (by decide) (by decide) (by decide)), eI5100, pp_off _ _ (ly_ne hy (by decide) (by decide) (by decide)), eI5070, pp_off _ _ (ly_ne hy (by decide) (by decide) (by decide)), eI5041, pp_off _ _ (ly_ne hy (by decide) (by decide) (by decide))]; exact p5006 q hq
                      · rcases (show q = 0 ∨ q = 1 ∨ q = 2 ∨ q = 3 by omega) with rfl | rfl | rfl | rfl
                        · constructor <;> first | omega | (rw [e5145]; omega) | (rw [e5146]; omega)
                        · constructor <;> first | omega | (rw [e5147]; omega) | (rw [e5148]; omega)
                        · constructor <;> first | omega | (rw [e5149]; omega) | (rw [e5150]; omega)
                        · constructor <;> first | omega | (rw [e5151]; omega) | (rw [e5152]; omega)
                      · omega⟩
                  · refine WP_aload_n dX11_town_114 rfl ?_
                    refine WP_getr dX11_town_115 fX11_230 rfl (ly_is hy 0 11 rfl) (rf hr 0 21 3 (by decide)) ?_
                    refine WP_iload_n dX11_town_118 rfl ?_
                    refine WP_aload_n dX11_town_119 rfl ?_
                    refine WP_getr dX11_town_120 fX11_129 rfl (ly_is hy 0 11 rfl) (rf hr 0 23 5 (by decide)) ?_
                    refine WP_iload_n dX11_town_123 rfl ?_
                    refine WE_la dX11_town_124 (ly_is hy 5 14 rfl) (ly_n hy 5 3 rfl) (by omega) (by omega) (fun l5159 el5159 => ?_)
                    refine WE_ls dX11_town_125 (ly_is hy 3 14 rfl) (ly_n hy 3 3 rfl) (by omega) (by omega) (fun J5160 eJ5160 => ?_)
                    have e5161 : J5160 (ad g 5) i4354.toInt.toNat = l5159 := by rw [eJ5160, pp_ne _ _ (Or.inl (ly_ne hy (by decide) (by decide) (by decide)))]; exact el5159
                    have fJ5162 : FC g [0, 2, 3, 4, 5] J J5160 := by rw [eJ5160]; exact FC_pp fJ4356 (by decide)
                    refine WP_iinc (ls' := [(0, _), (1, _)]) dX11_town_126 rfl (by decide) rfl ?_
                    have hv5163 : (i4354 + Int32.ofInt (1)).toInt = i4354.toInt + (1) := ia_n rfl (by omega) (by omega)
                    generalize i4354 + Int32.ofInt (1) = v5163 at hv5163 ⊢
                    refine WP_goto 106 dX11_town_129 rfl ?_
                    refine WP_sub (fc rfl (fc rfl fn)) (ihlp4357 v5163 J5160 fJ5162 ?_ ?_)
                    · try simp only [e4332, e4333, e4334, ew3395, ew3396, ew3397]
                      refine ⟨k2 + 1, by omega, by omega, fun q hq => ?_, by rw [eJ5160]; exact FC_pp kF (by decide), by rw [eJ5160]; exact FC_pp kG (by decide)⟩
                      rw [eJ5160, show i4354.toInt.toNat = k2 by omega, pp_at]
                      split
                      · rename_i e9
                        rw [e9, ← el5159, show i4354.toInt.toNat = k2 by omega, FC_at hy kF 5 (by decide) (by decide)]
                      · exact kA q (by omega)
                    · try simp only [e4332, e4333, e4334, ew3395, ew3396, ew3397]
                      omega
              refine WP_sub (fc rfl (fc rfl fn)) (lp4357 _ v4353 J4349 fJ4350 ?_ (Nat.lt_succ_self _))
              · try simp only [e4332, e4333, e4334, ew3395, ew3396, ew3397]
                exact ⟨0, by omega, by omega, fun q h => absurd h (Nat.not_lt_zero _), FC_mono jF (by decide), FC_rf⟩
            · refine WP_aload_n dX11_town_86 rfl ?_
              refine WP_getr dX11_town_87 fX11_227 rfl (ly_is hy 0 11 rfl) (rf hr 0 20 2 (by decide)) ?_
              refine WP_iload_n dX11_town_90 rfl ?_
              refine WP_aload_n dX11_town_91 rfl ?_
              refine WP_getr dX11_town_92 fX11_91 rfl (ly_is hy 0 11 rfl) (rf hr 0 22 4 (by decide)) ?_
              refine WP_iload_n dX11_town_95 rfl ?_
              refine WE_la dX11_town_96 (ly_is hy 4 14 rfl) (ly_n hy 4 4 rfl) (by omega) (by omega) (fun l5164 el5164 => ?_)
              refine WE_ls dX11_town_97 (ly_is hy 2 14 rfl) (ly_n hy 2 4 rfl) (by omega) (by omega) (fun J5165 eJ5165 => ?_)
              have e5166 : J5165 (ad g 4) i4348.toInt.toNat = l5164 := by rw [eJ5165, pp_ne _ _ (Or.inl (ly_ne hy (by decide) (by decide) (by decide)))]; exact el5164
              have fJ5167 : FC g [0, 2, 3, 4, 5] J J5165 := by rw [eJ5165]; exact FC_pp fJ4350 (by decide)
              refine WP_iinc (ls' := [(0, _), (1, _)]) dX11_town_98 rfl (by decide) rfl ?_
              have hv5168 : (i4348 + Int32.ofInt (1)).toInt = i4348.toInt + (1) := ia_n rfl (by omega) (by omega)
              generalize i4348 + Int32.ofInt (1) = v5168 at hv5168 ⊢
              refine WP_goto 78 dX11_town_101 rfl ?_
              refine WP_sub (fc rfl (fc rfl fn)) (ihlp4351 v5168 J5165 fJ5167 ?_ ?_)
              · try simp only [e4332, e4333, e4334, ew3395, ew3396, ew3397]
                refine ⟨k + 1, by omega, by omega, fun q hq => ?_, by rw [eJ5165]; exact FC_pp jF (by decide)⟩
                rw [eJ5165, show i4348.toInt.toNat = k by omega, pp_at]
                split
                · rename_i e9
                  rw [e9, ← el5164, show i4348.toInt.toNat = k by omega, FC_at hy jF 4 (by decide) (by decide)]
                · exact jA q (by omega)
              · try simp only [e4332, e4333, e4334, ew3395, ew3396, ew3397]
                omega
        refine WP_sub (fc rfl (fc rfl fn)) (lp4351 _ v4347 J3413 fJ3419 ?_ (Nat.lt_succ_self _))
        · try simp only [e4332, e4333, e4334, ew3395, ew3396, ew3397]
          exact ⟨0, by omega, by omega, fun q h => absurd h (Nat.not_lt_zero _), FC_rf⟩
    · have hs36 : S2.2 36 0 = true := by
        cases h36 : S2.2 36 0 with
        | true => rfl
        | false => exact absurd hR1.2.2.2 (by rw [h36]; simp only [ew3457]; intro z; rw [if_neg (by decide)] at z; omega)
      have h18 : (I3412 (ad g 0) 18).toInt = S2.1 0 4 := by have z := hR1.2.2.2; rw [if_pos hs36] at z; exact z
      refine WP_aload_n dX11_town_46 rfl ?_
      refine WQ_getim dX11_town_47 fX11_161 rfl (ly_is hy 0 11 rfl) ew3457 ?_
      refine WP_goto 65 dX11_town_50 rfl ?_
      refine WQ_puti dX11_town_65 fX11_224 rfl rfl (ly_is hy 0 11 rfl) (fun I5169 eI5169 => ?_)
      have e5170 : I5169 (ad g 0) 1 = w3407 := by rw [eI5169, pp_ne _ _ (Or.inr (by decide))]; exact e3446
      have e5171 : I5169 (ad g 0) 8 = w3421 := by rw [eI5169, pp_ne _ _ (Or.inr (by decide))]; exact e3447
      have e5172 : I5169 (ad g 0) 9 = w3422 := by rw [eI5169, pp_ne _ _ (Or.inr (by decide))]; exact e3448
      have e5173 : I5169 (ad g 0) 15 = w3424 := by rw [eI5169, pp_ne _ _ (Or.inr (by decide))]; exact e3449
      have e5174 : I5169 (ad g 0) 10 = w3424 := by rw [eI5169, pp_ne _ _ (Or.inr (by decide))]; exact e3450
      have e5175 : I5169 (ad g 0) 16 = w3433 := by rw [eI5169, pp_ne _ _ (Or.inr (by decide))]; exact e3451
      have e5176 : I5169 (ad g 0) 11 = w3433 := by rw [eI5169, pp_ne _ _ (Or.inr (by decide))]; exact e3452
      have e5177 : I5169 (ad g 0) 17 = w3444 := by rw [eI5169, pp_ne _ _ (Or.inr (by decide))]; exact e3453
      have e5178 : I5169 (ad g 0) 13 = w3444 := by rw [eI5169, pp_ne _ _ (Or.inr (by decide))]; exact e3454
      have e5179 : I5169 (ad g 0) 18 = w3457 := by rw [eI5169, pp_ne _ _ (Or.inr (by decide))]; exact ew3457
      have e5180 : I5169 (ad g 0) 14 = w3457 := by rw [eI5169, pp_self]
      have fI5181 : FC g [0, 6, 7, 8, 9, 10, 11, 12, 13, 14, 15, 16, 17, 18, 19, 20, 21, 22, 23, 24, 25, 26, 27, 28, 29, 30, 31, 32, 33, 34, 37, 38, 44, 46, 47] I I5169 := by rw [eI5169]; exact FC_pp fI3455 (by decide)
      have fQ5182 : FQ g [1, 2, 3, 4, 5, 6, 7, 8, 9, 10, 11, 12, 13, 14, 15, 16, 17, 18, 19, 51, 68] I I5169 := by rw [eI5169]; exact FQ_pp0 fQ3456 (by decide)
      refine WP_aload_n dX11_town_68 rfl ?_
      refine WP_aload_n dX11_town_69 rfl ?_
      obtain ⟨w5183, ew5183⟩ : ∃ w : Int32, I5169 (ad g 0) 19 = w := ⟨_, rfl⟩
      refine WQ_getim dX11_town_70 fX11_207 rfl (ly_is hy 0 11 rfl) ew5183 ?_
      refine WQ_puti dX11_town_73 fX11_335 rfl rfl (ly_is hy 0 11 rfl) (fun I5184 eI5184 => ?_)
      have e5185 : I5184 (ad g 0) 1 = w3407 := by rw [eI5184, pp_ne _ _ (Or.inr (by decide))]; exact e5170
      have e5186 : I5184 (ad g 0) 8 = w3421 := by rw [eI5184, pp_ne _ _ (Or.inr (by decide))]; exact e5171
      have e5187 : I5184 (ad g 0) 9 = w3422 := by rw [eI5184, pp_ne _ _ (Or.inr (by decide))]; exact e5172
      have e5188 : I5184 (ad g 0) 15 = w3424 := by rw [eI5184, pp_ne _ _ (Or.inr (by decide))]; exact e5173
      have e5189 : I5184 (ad g 0) 10 = w3424 := by rw [eI5184, pp_ne _ _ (Or.inr (by decide))]; exact e5174
      have e5190 : I5184 (ad g 0) 16 = w3433 := by rw [eI5184, pp_ne _ _ (Or.inr (by decide))]; exact e5175
      have e5191 : I5184 (ad g 0) 11 = w3433 := by rw [eI5184, pp_ne _ _ (Or.inr (by decide))]; exact e5176
      have e5192 : I5184 (ad g 0) 17 = w3444 := by rw [eI5184, pp_ne _ _ (Or.inr (by decide))]; exact e5177
      have e5193 : I5184 (ad g 0) 13 = w3444 := by rw [eI5184, pp_ne _ _ (Or.inr (by decide))]; exact e5178
      have e5194 : I5184 (ad g 0) 18 = w3457 := by rw [eI5184, pp_ne _ _ (Or.inr (by decide))]; exact e5179
      have e5195 : I5184 (ad g 0) 14 = w3457 := by rw [eI5184, pp_ne _ _ (Or.inr (by decide))]; exact e5180
      have e5196 : I5184 (ad g 0) 19 = w5183 := by rw [eI5184, pp_ne _ _ (Or.inr (by decide))]; exact ew5183
      have e5197 : I5184 (ad g 0) 12 = w5183 := by rw [eI5184, pp_self]
      have fI5198 : FC g [0, 6, 7, 8, 9, 10, 11, 12, 13, 14, 15, 16, 17, 18, 19, 20, 21, 22, 23, 24, 25, 26, 27, 28, 29, 30, 31, 32, 33, 34, 37, 38, 44, 46, 47] I I5184 := by rw [eI5184]; exact FC_pp fI5181 (by decide)
      have fQ5199 : FQ g [1, 2, 3, 4, 5, 6, 7, 8, 9, 10, 11, 12, 13, 14, 15, 16, 17, 18, 19, 51, 68] I I5184 := by rw [eI5184]; exact FQ_pp0 fQ5182 (by decide)
      refine WQ_iconst (0) (0) dX11_town_76 rfl rfl (fun v5200 hv5200 => ?_)
      refine WP_istore_n (ls' := [(0, _), (1, _)]) dX11_town_77 (by decide) rfl ?_
      have lp5204 : ∀ (mz : Nat) (i5201 : Int32) (J5202 : pJ), FC g [0, 2, 3, 4, 5] J J5202 → (∃ k : Nat, i5201.toInt = (k : Int) ∧ (k : Int) ≤ S2.1 0 1 ∧ (∀ q, q < k → J5202 (ad g 2) q = J3413 (ad g 4) q) ∧ FC g [2] J3413 J5202) → (5 - i5201.toInt.toNat) < mz → WP g mX11_town 78 [(0, .ref (ad g 0)), (1, .int i5201)] [] I5184 J5202 R (fun r I' J' R' => R' = R ∧ FC g [0, 6, 7, 8, 9, 10, 11, 12, 13, 14, 15, 16, 17, 18, 19, 20, 21, 22, 23, 24, 25, 26, 27, 28, 29, 30, 31, 32, 33, 34, 37, 38, 44, 46, 47] I I' ∧ FC g [0, 2, 3, 4, 5] J J' ∧ FQ g [1, 2, 3, 4, 5, 6, 7, 8, 9, 10, 11, 12, 13, 14, 15, 16, 17, 18, 19, 51, 68] I I' ∧ ∃ v : Int32, r = some (.int v) ∧ ((v.toInt = -1 ∧ ERR g (town B n j) I' ∧ FC g [0, 7, 14, 15, 16, 17, 18, 19, 27, 28, 29, 30, 31, 32, 33, 34] I I' ∧ FC g [4, 5] J J' ∧ FQ g [1, 2, 3, 4, 5, 6, 7, 8, 9, 15, 16, 17, 18, 19, 51] I I') ∨ (∃ S2 : TS, town B n j = .ok S2 ∧ v.toInt = S2.1 0 0 ∧ RTT g S2 I' J' ∧ STM g S2 I' J'))) := by
        intro mz
        induction mz with
        | zero =>
          intro i5201 J5202 fJ5203 hvlp5204 hmlp5204
          exact absurd hmlp5204 (Nat.not_lt_zero _)
        | succ mz ihlp5204 =>
          intro i5201 J5202 fJ5203 hvlp5204 hmlp5204
          try simp only [e5185, e5186, e5187, ew3395, ew3396, ew3397] at hvlp5204 hmlp5204
          obtain ⟨k, ik, ik4, jA, jF⟩ := hvlp5204
          refine WP_iload_n dX11_town_78 rfl ?_
          refine WP_aload_n dX11_town_79 rfl ?_
          refine WQ_getim dX11_town_80 fX11_329 rfl (ly_is hy 0 11 rfl) e5189 ?_
          refine WQ_icmp_ge 104 dX11_town_83 rfl (fun c5204 => ?_) (fun c5204 => ?_)
          · refine WQ_iconst (0) (0) dX11_town_104 rfl rfl (fun v5206 hv5206 => ?_)
            refine WP_istore_n (ls' := [(0, _), (1, _)]) dX11_town_105 (by decide) rfl ?_
            have k78 : (k : Int) = S2.1 0 1 := by omega
            have lp5210 : ∀ (mz : Nat) (i5207 : Int32) (J5208 : pJ), FC g [0, 2, 3, 4, 5] J J5208 → (∃ k : Nat, i5207.toInt = (k : Int) ∧ (k : Int) ≤ S2.1 0 2 ∧ (∀ q, q < k → J5208 (ad g 3) q = J3413 (ad g 5) q) ∧ FC g [2, 3] J3413 J5208 ∧ FC g [3] J5202 J5208) → (4 - i5207.toInt.toNat) < mz → WP g mX11_town 106 [(0, .ref (ad g 0)), (1, .int i5207)] [] I5184 J5208 R (fun r I' J' R' => R' = R ∧ FC g [0, 6, 7, 8, 9, 10, 11, 12, 13, 14, 15, 16, 17, 18, 19, 20, 21, 22, 23, 24, 25, 26, 27, 28, 29, 30, 31, 32, 33, 34, 37, 38, 44, 46, 47] I I' ∧ FC g [0, 2, 3, 4, 5] J J' ∧ FQ g [1, 2, 3, 4, 5, 6, 7, 8, 9, 10, 11, 12, 13, 14, 15, 16, 17, 18, 19, 51, 68] I I' ∧ ∃ v : Int32, r = some (.int v) ∧ ((v.toInt = -1 ∧ ERR g (town B n j) I' ∧ FC g [0, 7, 14, 15, 16, 17, 18, 19, 27, 28, 29, 30, 31, 32, 33, 34] I I' ∧ FC g [4, 5] J J' ∧ FQ g [1, 2, 3, 4, 5, 6, 7, 8, 9, 15, 16, 17, 18, 19, 51] I I') ∨ (∃ S2 : TS, town B n j = .ok S2 ∧ v.toInt = S2.1 0 0 ∧ RTT g S2 I' J' ∧ STM g S2 I' J'))) := by
              intro mz
              induction mz with
              | zero =>
                intro i5207 J5208 fJ5209 hvlp5210 hmlp5210
                exact absurd hmlp5210 (Nat.not_lt_zero _)
              | succ mz ihlp5210 =>
                intro i5207 J5208 fJ5209 hvlp5210 hmlp5210
                try simp only [e5185, e5186, e5187, ew3395, ew3396, ew3397] at hvlp5210 hmlp5210
                obtain ⟨k2, ik2, ik42, kA, kF, kG⟩ := hvlp5210
                refine WP_iload_n dX11_town_106 rfl ?_
                refine WP_aload_n dX11_town_107 rfl ?_
                refine WQ_getim dX11_town_108 fX11_332 rfl (ly_is hy 0 11 rfl) e5191 ?_
                refine WQ_icmp_ge 132 dX11_town_111 rfl (fun c5210 => ?_) (fun c5210 => ?_)
                · refine WP_aload_n dX11_town_132 rfl ?_
                  refine WP_getr dX11_town_133 fX11_233 rfl (ly_is hy 0 11 rfl) (rf hr 0 24 6 (by decide)) ?_
                  refine WP_aload_n dX11_town_136 rfl ?_
                  refine WP_getr dX11_town_137 fX11_84 rfl (ly_is hy 0 11 rfl) (rf hr 0 25 7 (by decide)) ?_
                  refine WP_callS2 dX11_town_140 ⟨⟨⟨by decide, by decide⟩, zX11_copy⟩, lX11_338, tX11_copy⟩ (em_copy6 hy hr   ) (Nat.le_of_ble_eq_true rfl) ?_
                  intro r I5213 J5214 Ra hq
                  obtain ⟨ec, g5215, g5216, g5217, er, p5212⟩ := hq
                  rw [ec, er]
                  clear ec er Ra r
                  have e5218 : I5213 (ad g 0) 1 = w3407 := by rw [FC_at hy g5215 0 (by decide) (by decide)]; exact e5185
                  have e5219 : I5213 (ad g 0) 8 = w3421 := by rw [FC_at hy g5215 0 (by decide) (by decide)]; exact e5186
                  have e5220 : I5213 (ad g 0) 9 = w3422 := by rw [FC_at hy g5215 0 (by decide) (by decide)]; exact e5187
                  have e5221 : I5213 (ad g 0) 15 = w3424 := by rw [FC_at hy g5215 0 (by decide) (by decide)]; exact e5188
                  have e5222 : I5213 (ad g 0) 10 = w3424 := by rw [FC_at hy g5215 0 (by decide) (by decide)]; exact e5189
                  have e5223 : I5213 (ad g 0) 16 = w3433 := by rw [FC_at hy g5215 0 (by decide) (by decide)]; exact e5190
                  have e5224 : I5213 (ad g 0) 11 = w3433 := by rw [FC_at hy g5215 0 (by decide) (by decide)]; exact e5191
                  have e5225 : I5213 (ad g 0) 17 = w3444 := by rw [FC_at hy g5215 0 (by decide) (by decide)]; exact e5192
                  have e5226 : I5213 (ad g 0) 13 = w3444 := by rw [FC_at hy g5215 0 (by decide) (by decide)]; exact e5193
                  have e5227 : I5213 (ad g 0) 18 = w3457 := by rw [FC_at hy g5215 0 (by decide) (by decide)]; exact e5194
                  have e5228 : I5213 (ad g 0) 14 = w3457 := by rw [FC_at hy g5215 0 (by decide) (by decide)]; exact e5195
                  have e5229 : I5213 (ad g 0) 19 = w5183 := by rw [FC_at hy g5215 0 (by decide) (by decide)]; exact e5196
                  have e5230 : I5213 (ad g 0) 12 = w5183 := by rw [FC_at hy g5215 0 (by decide) (by decide)]; exact e5197
                  have fI5231 : FC g [0, 6, 7, 8, 9, 10, 11, 12, 13, 14, 15, 16, 17, 18, 19, 20, 21, 22, 23, 24, 25, 26, 27, 28, 29, 30, 31, 32, 33, 34, 37, 38, 44, 46, 47] I I5213 := FC_tr fI5198 (FC_mono g5215 (by decide))
                  have fJ5232 : FC g [0, 2, 3, 4, 5] J J5214 := FC_tr fJ5209 (FC_mono g5216 (by decide))
                  have fQ5233 : FQ g [1, 2, 3, 4, 5, 6, 7, 8, 9, 10, 11, 12, 13, 14, 15, 16, 17, 18, 19, 51, 68] I I5213 := FQ_tr fQ5199 (FQ_mono g5217 (by decide))
                  try simp only [e5218, e5219, e5220, ew3395, ew3396, ew3397] at p5212
                  have d6 : ∀ q, q < 7 → I5213 (ad g 6) q = I3412 (ad g 7) q := fun q hq => by rw [p5212 q hq, eI5184, pp_off _ _ (ly_ne hy (by decide) (by decide) (by decide)), eI5169, pp_off _ _ (ly_ne hy (by decide) (by decide) (by decide)), eI3445, pp_off _ _ (ly_ne hy (by decide) (by decide) (by decide)), eI3434, pp_off _ _ (ly_ne hy (by decide) (by decide) (by decide)), eI3425, pp_off _ _ (ly_ne hy (by decide) (by decide) (by decide))]
                  refine WP_aload_n dX11_town_143 rfl ?_
                  refine WP_getr dX11_town_144 fX11_235 rfl (ly_is hy 0 11 rfl) (rf hr 0 26 8 (by decide)) ?_
                  refine WP_aload_n dX11_town_147 rfl ?_
                  refine WP_getr dX11_town_148 fX11_99 rfl (ly_is hy 0 11 rfl) (rf hr 0 32 14 (by decide)) ?_
                  refine WP_callS2 dX11_town_151 ⟨⟨⟨by decide, by decide⟩, zX11_copy⟩, lX11_338, tX11_copy⟩ (em_copy8 hy hr   ) (Nat.le_of_ble_eq_true rfl) ?_
                  intro r I5235 J5236 Ra hq
                  obtain ⟨ec, g5237, g5238, g5239, er, p5234⟩ := hq
                  rw [ec, er]
                  clear ec er Ra r
                  have e5240 : I5235 (ad g 0) 1 = w3407 := by rw [FC_at hy g5237 0 (by decide) (by decide)]; exact e5218
                  have e5241 : I5235 (ad g 0) 8 = w3421 := by rw [FC_at hy g5237 0 (by decide) (by decide)]; exact e5219
                  have e5242 : I5235 (ad g 0) 9 = w3422 := by rw [FC_at hy g5237 0 (by decide) (by decide)]; exact e5220
                  have e5243 : I5235 (ad g 0) 15 = w3424 := by rw [FC_at hy g5237 0 (by decide) (by decide)]; exact e5221
                  have e5244 : I5235 (ad g 0) 10 = w3424 := by rw [FC_at hy g5237 0 (by decide) (by decide)]; exact e5222
                  have e5245 : I5235 (ad g 0) 16 = w3433 := by rw [FC_at hy g5237 0 (by decide) (by decide)]; exact e5223
                  have e5246 : I5235 (ad g 0) 11 = w3433 := by rw [FC_at hy g5237 0 (by decide) (by decide)]; exact e5224
                  have e5247 : I5235 (ad g 0) 17 = w3444 := by rw [FC_at hy g5237 0 (by decide) (by decide)]; exact e5225
                  have e5248 : I5235 (ad g 0) 13 = w3444 := by rw [FC_at hy g5237 0 (by decide) (by decide)]; exact e5226
                  have e5249 : I5235 (ad g 0) 18 = w3457 := by rw [FC_at hy g5237 0 (by decide) (by decide)]; exact e5227
                  have e5250 : I5235 (ad g 0) 14 = w3457 := by rw [FC_at hy g5237 0 (by decide) (by decide)]; exact e5228
                  have e5251 : I5235 (ad g 0) 19 = w5183 := by rw [FC_at hy g5237 0 (by decide) (by decide)]; exact e5229
                  have e5252 : I5235 (ad g 0) 12 = w5183 := by rw [FC_at hy g5237 0 (by decide) (by decide)]; exact e5230
                  have fI5253 : FC g [0, 6, 7, 8, 9, 10, 11, 12, 13, 14, 15, 16, 17, 18, 19, 20, 21, 22, 23, 24, 25, 26, 27, 28, 29, 30, 31, 32, 33, 34, 37, 38, 44, 46, 47] I I5235 := FC_tr fI5231 (FC_mono g5237 (by decide))
                  have fJ5254 : FC g [0, 2, 3, 4, 5] J J5236 := FC_tr fJ5232 (FC_mono g5238 (by decide))
                  have fQ5255 : FQ g [1, 2, 3, 4, 5, 6, 7, 8, 9, 10, 11, 12, 13, 14, 15, 16, 17, 18, 19, 51, 68] I I5235 := FQ_tr fQ5233 (FQ_mono g5239 (by decide))
                  try simp only [e5240, e5241, e5242, ew3395, ew3396, ew3397] at p5234
                  have d8 : ∀ q, q < 4 → I5235 (ad g 8) q = I3412 (ad g 14) q := fun q hq => by rw [p5234 q hq, FC_at hy g5215 14 (by decide) (by decide), eI5184, pp_off _ _ (ly_ne hy (by decide) (by decide) (by decide)), eI5169, pp_off _ _ (ly_ne hy (by decide) (by decide) (by decide)), eI3445, pp_off _ _ (ly_ne hy (by decide) (by decide) (by decide)), eI3434, pp_off _ _ (ly_ne hy (by decide) (by decide) (by decide)), eI3425, pp_off _ _ (ly_ne hy (by decide) (by decide) (by decide))]
                  refine WP_aload_n dX11_town_154 rfl ?_
                  refine WP_getr dX11_town_155 fX11_238 rfl (ly_is hy 0 11 rfl) (rf hr 0 27 9 (by decide)) ?_
                  refine WP_aload_n dX11_town_158 rfl ?_
                  refine WP_getr dX11_town_159 fX11_102 rfl (ly_is hy 0 11 rfl) (rf hr 0 33 15 (by decide)) ?_
                  refine WP_callS2 dX11_town_162 ⟨⟨⟨by decide, by decide⟩, zX11_copy⟩, lX11_338, tX11_copy⟩ (em_copy9 hy hr   ) (Nat.le_of_ble_eq_true rfl) ?_
                  intro r I5257 J5258 Ra hq
                  obtain ⟨ec, g5259, g5260, g5261, er, p5256⟩ := hq
                  rw [ec, er]
                  clear ec er Ra r
                  have e5262 : I5257 (ad g 0) 1 = w3407 := by rw [FC_at hy g5259 0 (by decide) (by decide)]; exact e5240
                  have e5263 : I5257 (ad g 0) 8 = w3421 := by rw [FC_at hy g5259 0 (by decide) (by decide)]; exact e5241
                  have e5264 : I5257 (ad g 0) 9 = w3422 := by rw [FC_at hy g5259 0 (by decide) (by decide)]; exact e5242
                  have e5265 : I5257 (ad g 0) 15 = w3424 := by rw [FC_at hy g5259 0 (by decide) (by decide)]; exact e5243
                  have e5266 : I5257 (ad g 0) 10 = w3424 := by rw [FC_at hy g5259 0 (by decide) (by decide)]; exact e5244
                  have e5267 : I5257 (ad g 0) 16 = w3433 := by rw [FC_at hy g5259 0 (by decide) (by decide)]; exact e5245
                  have e5268 : I5257 (ad g 0) 11 = w3433 := by rw [FC_at hy g5259 0 (by decide) (by decide)]; exact e5246
                  have e5269 : I5257 (ad g 0) 17 = w3444 := by rw [FC_at hy g5259 0 (by decide) (by decide)]; exact e5247
                  have e5270 : I5257 (ad g 0) 13 = w3444 := by rw [FC_at hy g5259 0 (by decide) (by decide)]; exact e5248
                  have e5271 : I5257 (ad g 0) 18 = w3457 := by rw [FC_at hy g5259 0 (by decide) (by decide)]; exact e5249
                  have e5272 : I5257 (ad g 0) 14 = w3457 := by rw [FC_at hy g5259 0 (by decide) (by decide)]; exact e5250
                  have e5273 : I5257 (ad g 0) 19 = w5183 := by rw [FC_at hy g5259 0 (by decide) (by decide)]; exact e5251
                  have e5274 : I5257 (ad g 0) 12 = w5183 := by rw [FC_at hy g5259 0 (by decide) (by decide)]; exact e5252
                  have fI5275 : FC g [0, 6, 7, 8, 9, 10, 11, 12, 13, 14, 15, 16, 17, 18, 19, 20, 21, 22, 23, 24, 25, 26, 27, 28, 29, 30, 31, 32, 33, 34, 37, 38, 44, 46, 47] I I5257 := FC_tr fI5253 (FC_mono g5259 (by decide))
                  have fJ5276 : FC g [0, 2, 3, 4, 5] J J5258 := FC_tr fJ5254 (FC_mono g5260 (by decide))
                  have fQ5277 : FQ g [1, 2, 3, 4, 5, 6, 7, 8, 9, 10, 11, 12, 13, 14, 15, 16, 17, 18, 19, 51, 68] I I5257 := FQ_tr fQ5255 (FQ_mono g5261 (by decide))
                  try simp only [e5262, e5263, e5264, ew3395, ew3396, ew3397] at p5256
                  have d9 : ∀ q, q < 4 → I5257 (ad g 9) q = I3412 (ad g 15) q := fun q hq => by rw [p5256 q hq, FC_at hy g5237 15 (by decide) (by decide), FC_at hy g5215 15 (by decide) (by decide), eI5184, pp_off _ _ (ly_ne hy (by decide) (by decide) (by decide)), eI5169, pp_off _ _ (ly_ne hy (by decide) (by decide) (by decide)), eI3445, pp_off _ _ (ly_ne hy (by decide) (by decide) (by decide)), eI3434, pp_off _ _ (ly_ne hy (by decide) (by decide) (by decide)), eI3425, pp_off _ _ (ly_ne hy (by decide) (by decide) (by decide))]
                  refine WP_aload_n dX11_town_165 rfl ?_
                  refine WP_getr dX11_town_166 fX11_241 rfl (ly_is hy 0 11 rfl) (rf hr 0 28 10 (by decide)) ?_
                  refine WP_aload_n dX11_town_169 rfl ?_
                  refine WP_getr dX11_town_170 fX11_105 rfl (ly_is hy 0 11 rfl) (rf hr 0 34 16 (by decide)) ?_
                  refine WP_callS2 dX11_town_173 ⟨⟨⟨by decide, by decide⟩, zX11_copy⟩, lX11_338, tX11_copy⟩ (em_copy10 hy hr   ) (Nat.le_of_ble_eq_true rfl) ?_
                  intro r I5279 J5280 Ra hq
                  obtain ⟨ec, g5281, g5282, g5283, er, p5278⟩ := hq
                  rw [ec, er]
                  clear ec er Ra r
                  have e5284 : I5279 (ad g 0) 1 = w3407 := by rw [FC_at hy g5281 0 (by decide) (by decide)]; exact e5262
                  have e5285 : I5279 (ad g 0) 8 = w3421 := by rw [FC_at hy g5281 0 (by decide) (by decide)]; exact e5263
                  have e5286 : I5279 (ad g 0) 9 = w3422 := by rw [FC_at hy g5281 0 (by decide) (by decide)]; exact e5264
                  have e5287 : I5279 (ad g 0) 15 = w3424 := by rw [FC_at hy g5281 0 (by decide) (by decide)]; exact e5265
                  have e5288 : I5279 (ad g 0) 10 = w3424 := by rw [FC_at hy g5281 0 (by decide) (by decide)]; exact e5266
                  have e5289 : I5279 (ad g 0) 16 = w3433 := by rw [FC_at hy g5281 0 (by decide) (by decide)]; exact e5267
                  have e5290 : I5279 (ad g 0) 11 = w3433 := by rw [FC_at hy g5281 0 (by decide) (by decide)]; exact e5268
                  have e5291 : I5279 (ad g 0) 17 = w3444 := by rw [FC_at hy g5281 0 (by decide) (by decide)]; exact e5269
                  have e5292 : I5279 (ad g 0) 13 = w3444 := by rw [FC_at hy g5281 0 (by decide) (by decide)]; exact e5270
                  have e5293 : I5279 (ad g 0) 18 = w3457 := by rw [FC_at hy g5281 0 (by decide) (by decide)]; exact e5271
                  have e5294 : I5279 (ad g 0) 14 = w3457 := by rw [FC_at hy g5281 0 (by decide) (by decide)]; exact e5272
                  have e5295 : I5279 (ad g 0) 19 = w5183 := by rw [FC_at hy g5281 0 (by decide) (by decide)]; exact e5273
                  have e5296 : I5279 (ad g 0) 12 = w5183 := by rw [FC_at hy g5281 0 (by decide) (by decide)]; exact e5274
                  have fI5297 : FC g [0, 6, 7, 8, 9, 10, 11, 12, 13, 14, 15, 16, 17, 18, 19, 20, 21, 22, 23, 24, 25, 26, 27, 28, 29, 30, 31, 32, 33, 34, 37, 38, 44, 46, 47] I I5279 := FC_tr fI5275 (FC_mono g5281 (by decide))
                  have fJ5298 : FC g [0, 2, 3, 4, 5] J J5280 := FC_tr fJ5276 (FC_mono g5282 (by decide))
                  have fQ5299 : FQ g [1, 2, 3, 4, 5, 6, 7, 8, 9, 10, 11, 12, 13, 14, 15, 16, 17, 18, 19, 51, 68] I I5279 := FQ_tr fQ5277 (FQ_mono g5283 (by decide))
                  try simp only [e5284, e5285, e5286, ew3395, ew3396, ew3397] at p5278
                  have d10 : ∀ q, q < 4 → I5279 (ad g 10) q = I3412 (ad g 16) q := fun q hq => by rw [p5278 q hq, FC_at hy g5259 16 (by decide) (by decide), FC_at hy g5237 16 (by decide) (by decide), FC_at hy g5215 16 (by decide) (by decide), eI5184, pp_off _ _ (ly_ne hy (by decide) (by decide) (by decide)), eI5169, pp_off _ _ (ly_ne hy (by decide) (by decide) (by decide)), eI3445, pp_off _ _ (ly_ne hy (by decide) (by decide) (by decide)), eI3434, pp_off _ _ (ly_ne hy (by decide) (by decide) (by decide)), eI3425, pp_off _ _ (ly_ne hy (by decide) (by decide) (by decide))]
                  refine WP_aload_n dX11_town_176 rfl ?_
                  refine WP_getr dX11_town_177 fX11_244 rfl (ly_is hy 0 11 rfl) (rf hr 0 29 11 (by decide)) ?_
                  refine WP_aload_n dX11_town_180 rfl ?_
                  refine WP_getr dX11_town_181 fX11_108 rfl (ly_is hy 0 11 rfl) (rf hr 0 35 17 (by decide)) ?_
                  refine WP_callS2 dX11_town_184 ⟨⟨⟨by decide, by decide⟩, zX11_copy⟩, lX11_338, tX11_copy⟩ (em_copy11 hy hr   ) (Nat.le_of_ble_eq_true rfl) ?_
                  intro r I5301 J5302 Ra hq
                  obtain ⟨ec, g5303, g5304, g5305, er, p5300⟩ := hq
                  rw [ec, er]
                  clear ec er Ra r
                  have e5306 : I5301 (ad g 0) 1 = w3407 := by rw [FC_at hy g5303 0 (by decide) (by decide)]; exact e5284
                  have e5307 : I5301 (ad g 0) 8 = w3421 := by rw [FC_at hy g5303 0 (by decide) (by decide)]; exact e5285
                  have e5308 : I5301 (ad g 0) 9 = w3422 := by rw [FC_at hy g5303 0 (by decide) (by decide)]; exact e5286
                  have e5309 : I5301 (ad g 0) 15 = w3424 := by rw [FC_at hy g5303 0 (by decide) (by decide)]; exact e5287
                  have e5310 : I5301 (ad g 0) 10 = w3424 := by rw [FC_at hy g5303 0 (by decide) (by decide)]; exact e5288
                  have e5311 : I5301 (ad g 0) 16 = w3433 := by rw [FC_at hy g5303 0 (by decide) (by decide)]; exact e5289
                  have e5312 : I5301 (ad g 0) 11 = w3433 := by rw [FC_at hy g5303 0 (by decide) (by decide)]; exact e5290
                  have e5313 : I5301 (ad g 0) 17 = w3444 := by rw [FC_at hy g5303 0 (by decide) (by decide)]; exact e5291
                  have e5314 : I5301 (ad g 0) 13 = w3444 := by rw [FC_at hy g5303 0 (by decide) (by decide)]; exact e5292
                  have e5315 : I5301 (ad g 0) 18 = w3457 := by rw [FC_at hy g5303 0 (by decide) (by decide)]; exact e5293
                  have e5316 : I5301 (ad g 0) 14 = w3457 := by rw [FC_at hy g5303 0 (by decide) (by decide)]; exact e5294
                  have e5317 : I5301 (ad g 0) 19 = w5183 := by rw [FC_at hy g5303 0 (by decide) (by decide)]; exact e5295
                  have e5318 : I5301 (ad g 0) 12 = w5183 := by rw [FC_at hy g5303 0 (by decide) (by decide)]; exact e5296
                  have fI5319 : FC g [0, 6, 7, 8, 9, 10, 11, 12, 13, 14, 15, 16, 17, 18, 19, 20, 21, 22, 23, 24, 25, 26, 27, 28, 29, 30, 31, 32, 33, 34, 37, 38, 44, 46, 47] I I5301 := FC_tr fI5297 (FC_mono g5303 (by decide))
                  have fJ5320 : FC g [0, 2, 3, 4, 5] J J5302 := FC_tr fJ5298 (FC_mono g5304 (by decide))
                  have fQ5321 : FQ g [1, 2, 3, 4, 5, 6, 7, 8, 9, 10, 11, 12, 13, 14, 15, 16, 17, 18, 19, 51, 68] I I5301 := FQ_tr fQ5299 (FQ_mono g5305 (by decide))
                  try simp only [e5306, e5307, e5308, ew3395, ew3396, ew3397] at p5300
                  have d11 : ∀ q, q < 4 → I5301 (ad g 11) q = I3412 (ad g 17) q := fun q hq => by rw [p5300 q hq, FC_at hy g5281 17 (by decide) (by decide), FC_at hy g5259 17 (by decide) (by decide), FC_at hy g5237 17 (by decide) (by decide), FC_at hy g5215 17 (by decide) (by decide), eI5184, pp_off _ _ (ly_ne hy (by decide) (by decide) (by decide)), eI5169, pp_off _ _ (ly_ne hy (by decide) (by decide) (by decide)), eI3445, pp_off _ _ (ly_ne hy (by decide) (by decide) (by decide)), eI3434, pp_off _ _ (ly_ne hy (by decide) (by decide) (by decide)), eI3425, pp_off _ _ (ly_ne hy (by decide) (by decide) (by decide))]
                  refine WP_aload_n dX11_town_187 rfl ?_
                  refine WP_getr dX11_town_188 fX11_246 rfl (ly_is hy 0 11 rfl) (rf hr 0 30 12 (by decide)) ?_
                  refine WP_aload_n dX11_town_191 rfl ?_
                  refine WP_getr dX11_town_192 fX11_132 rfl (ly_is hy 0 11 rfl) (rf hr 0 36 18 (by decide)) ?_
                  refine WP_callS2 dX11_town_195 ⟨⟨⟨by decide, by decide⟩, zX11_copy⟩, lX11_338, tX11_copy⟩ (em_copy12 hy hr   ) (Nat.le_of_ble_eq_true rfl) ?_
                  intro r I5323 J5324 Ra hq
                  obtain ⟨ec, g5325, g5326, g5327, er, p5322⟩ := hq
                  rw [ec, er]
                  clear ec er Ra r
                  have e5328 : I5323 (ad g 0) 1 = w3407 := by rw [FC_at hy g5325 0 (by decide) (by decide)]; exact e5306
                  have e5329 : I5323 (ad g 0) 8 = w3421 := by rw [FC_at hy g5325 0 (by decide) (by decide)]; exact e5307
                  have e5330 : I5323 (ad g 0) 9 = w3422 := by rw [FC_at hy g5325 0 (by decide) (by decide)]; exact e5308
                  have e5331 : I5323 (ad g 0) 15 = w3424 := by rw [FC_at hy g5325 0 (by decide) (by decide)]; exact e5309
                  have e5332 : I5323 (ad g 0) 10 = w3424 := by rw [FC_at hy g5325 0 (by decide) (by decide)]; exact e5310
                  have e5333 : I5323 (ad g 0) 16 = w3433 := by rw [FC_at hy g5325 0 (by decide) (by decide)]; exact e5311
                  have e5334 : I5323 (ad g 0) 11 = w3433 := by rw [FC_at hy g5325 0 (by decide) (by decide)]; exact e5312
                  have e5335 : I5323 (ad g 0) 17 = w3444 := by rw [FC_at hy g5325 0 (by decide) (by decide)]; exact e5313
                  have e5336 : I5323 (ad g 0) 13 = w3444 := by rw [FC_at hy g5325 0 (by decide) (by decide)]; exact e5314
                  have e5337 : I5323 (ad g 0) 18 = w3457 := by rw [FC_at hy g5325 0 (by decide) (by decide)]; exact e5315
                  have e5338 : I5323 (ad g 0) 14 = w3457 := by rw [FC_at hy g5325 0 (by decide) (by decide)]; exact e5316
                  have e5339 : I5323 (ad g 0) 19 = w5183 := by rw [FC_at hy g5325 0 (by decide) (by decide)]; exact e5317
                  have e5340 : I5323 (ad g 0) 12 = w5183 := by rw [FC_at hy g5325 0 (by decide) (by decide)]; exact e5318
                  have fI5341 : FC g [0, 6, 7, 8, 9, 10, 11, 12, 13, 14, 15, 16, 17, 18, 19, 20, 21, 22, 23, 24, 25, 26, 27, 28, 29, 30, 31, 32, 33, 34, 37, 38, 44, 46, 47] I I5323 := FC_tr fI5319 (FC_mono g5325 (by decide))
                  have fJ5342 : FC g [0, 2, 3, 4, 5] J J5324 := FC_tr fJ5320 (FC_mono g5326 (by decide))
                  have fQ5343 : FQ g [1, 2, 3, 4, 5, 6, 7, 8, 9, 10, 11, 12, 13, 14, 15, 16, 17, 18, 19, 51, 68] I I5323 := FQ_tr fQ5321 (FQ_mono g5327 (by decide))
                  try simp only [e5328, e5329, e5330, ew3395, ew3396, ew3397] at p5322
                  have d12 : ∀ q, q < 3 → I5323 (ad g 12) q = I3412 (ad g 18) q := fun q hq => by rw [p5322 q hq, FC_at hy g5303 18 (by decide) (by decide), FC_at hy g5281 18 (by decide) (by decide), FC_at hy g5259 18 (by decide) (by decide), FC_at hy g5237 18 (by decide) (by decide), FC_at hy g5215 18 (by decide) (by decide), eI5184, pp_off _ _ (ly_ne hy (by decide) (by decide) (by decide)), eI5169, pp_off _ _ (ly_ne hy (by decide) (by decide) (by decide)), eI3445, pp_off _ _ (ly_ne hy (by decide) (by decide) (by decide)), eI3434, pp_off _ _ (ly_ne hy (by decide) (by decide) (by decide)), eI3425, pp_off _ _ (ly_ne hy (by decide) (by decide) (by decide))]
                  refine WP_aload_n dX11_town_198 rfl ?_
                  refine WP_getr dX11_town_199 fX11_249 rfl (ly_is hy 0 11 rfl) (rf hr 0 31 13 (by decide)) ?_
                  refine WP_aload_n dX11_town_202 rfl ?_
                  refine WP_getr dX11_town_203 fX11_135 rfl (ly_is hy 0 11 rfl) (rf hr 0 37 19 (by decide)) ?_
                  refine WP_callS2 dX11_town_206 ⟨⟨⟨by decide, by decide⟩, zX11_copy⟩, lX11_338, tX11_copy⟩ (em_copy13 hy hr   ) (Nat.le_of_ble_eq_true rfl) ?_
                  intro r I5345 J5346 Ra hq
                  obtain ⟨ec, g5347, g5348, g5349, er, p5344⟩ := hq
                  rw [ec, er]
                  clear ec er Ra r
                  have e5350 : I5345 (ad g 0) 1 = w3407 := by rw [FC_at hy g5347 0 (by decide) (by decide)]; exact e5328
                  have e5351 : I5345 (ad g 0) 8 = w3421 := by rw [FC_at hy g5347 0 (by decide) (by decide)]; exact e5329
                  have e5352 : I5345 (ad g 0) 9 = w3422 := by rw [FC_at hy g5347 0 (by decide) (by decide)]; exact e5330
                  have e5353 : I5345 (ad g 0) 15 = w3424 := by rw [FC_at hy g5347 0 (by decide) (by decide)]; exact e5331
                  have e5354 : I5345 (ad g 0) 10 = w3424 := by rw [FC_at hy g5347 0 (by decide) (by decide)]; exact e5332
                  have e5355 : I5345 (ad g 0) 16 = w3433 := by rw [FC_at hy g5347 0 (by decide) (by decide)]; exact e5333
                  have e5356 : I5345 (ad g 0) 11 = w3433 := by rw [FC_at hy g5347 0 (by decide) (by decide)]; exact e5334
                  have e5357 : I5345 (ad g 0) 17 = w3444 := by rw [FC_at hy g5347 0 (by decide) (by decide)]; exact e5335
                  have e5358 : I5345 (ad g 0) 13 = w3444 := by rw [FC_at hy g5347 0 (by decide) (by decide)]; exact e5336
                  have e5359 : I5345 (ad g 0) 18 = w3457 := by rw [FC_at hy g5347 0 (by decide) (by decide)]; exact e5337
                  have e5360 : I5345 (ad g 0) 14 = w3457 := by rw [FC_at hy g5347 0 (by decide) (by decide)]; exact e5338
                  have e5361 : I5345 (ad g 0) 19 = w5183 := by rw [FC_at hy g5347 0 (by decide) (by decide)]; exact e5339
                  have e5362 : I5345 (ad g 0) 12 = w5183 := by rw [FC_at hy g5347 0 (by decide) (by decide)]; exact e5340
                  have fI5363 : FC g [0, 6, 7, 8, 9, 10, 11, 12, 13, 14, 15, 16, 17, 18, 19, 20, 21, 22, 23, 24, 25, 26, 27, 28, 29, 30, 31, 32, 33, 34, 37, 38, 44, 46, 47] I I5345 := FC_tr fI5341 (FC_mono g5347 (by decide))
                  have fJ5364 : FC g [0, 2, 3, 4, 5] J J5346 := FC_tr fJ5342 (FC_mono g5348 (by decide))
                  have fQ5365 : FQ g [1, 2, 3, 4, 5, 6, 7, 8, 9, 10, 11, 12, 13, 14, 15, 16, 17, 18, 19, 51, 68] I I5345 := FQ_tr fQ5343 (FQ_mono g5349 (by decide))
                  try simp only [e5350, e5351, e5352, ew3395, ew3396, ew3397] at p5344
                  have d13 : ∀ q, q < 3 → I5345 (ad g 13) q = I3412 (ad g 19) q := fun q hq => by rw [p5344 q hq, FC_at hy g5325 19 (by decide) (by decide), FC_at hy g5303 19 (by decide) (by decide), FC_at hy g5281 19 (by decide) (by decide), FC_at hy g5259 19 (by decide) (by decide), FC_at hy g5237 19 (by decide) (by decide), FC_at hy g5215 19 (by decide) (by decide), eI5184, pp_off _ _ (ly_ne hy (by decide) (by decide) (by decide)), eI5169, pp_off _ _ (ly_ne hy (by decide) (by decide) (by decide)), eI3445, pp_off _ _ (ly_ne hy (by decide) (by decide) (by decide)), eI3434, pp_off _ _ (ly_ne hy (by decide) (by decide) (by decide)), eI3425, pp_off _ _ (ly_ne hy (by decide) (by decide) (by decide))]
                  refine WP_aload_n dX11_town_209 rfl ?_
                  refine WP_getr dX11_town_210 fX11_252 rfl (ly_is hy 0 11 rfl) (rf hr 0 38 20 (by decide)) ?_
                  refine WP_aload_n dX11_town_213 rfl ?_
                  refine WP_getr dX11_town_214 fX11_114 rfl (ly_is hy 0 11 rfl) (rf hr 0 45 27 (by decide)) ?_
                  refine WP_callS2 dX11_town_217 ⟨⟨⟨by decide, by decide⟩, zX11_copy⟩, lX11_338, tX11_copy⟩ (em_copy20 hy hr   ) (Nat.le_of_ble_eq_true rfl) ?_
                  intro r I5367 J5368 Ra hq
                  obtain ⟨ec, g5369, g5370, g5371, er, p5366⟩ := hq
                  rw [ec, er]
                  clear ec er Ra r
                  have e5372 : I5367 (ad g 0) 1 = w3407 := by rw [FC_at hy g5369 0 (by decide) (by decide)]; exact e5350
                  have e5373 : I5367 (ad g 0) 8 = w3421 := by rw [FC_at hy g5369 0 (by decide) (by decide)]; exact e5351
                  have e5374 : I5367 (ad g 0) 9 = w3422 := by rw [FC_at hy g5369 0 (by decide) (by decide)]; exact e5352
                  have e5375 : I5367 (ad g 0) 15 = w3424 := by rw [FC_at hy g5369 0 (by decide) (by decide)]; exact e5353
                  have e5376 : I5367 (ad g 0) 10 = w3424 := by rw [FC_at hy g5369 0 (by decide) (by decide)]; exact e5354
                  have e5377 : I5367 (ad g 0) 16 = w3433 := by rw [FC_at hy g5369 0 (by decide) (by decide)]; exact e5355
                  have e5378 : I5367 (ad g 0) 11 = w3433 := by rw [FC_at hy g5369 0 (by decide) (by decide)]; exact e5356
                  have e5379 : I5367 (ad g 0) 17 = w3444 := by rw [FC_at hy g5369 0 (by decide) (by decide)]; exact e5357
                  have e5380 : I5367 (ad g 0) 13 = w3444 := by rw [FC_at hy g5369 0 (by decide) (by decide)]; exact e5358
                  have e5381 : I5367 (ad g 0) 18 = w3457 := by rw [FC_at hy g5369 0 (by decide) (by decide)]; exact e5359
                  have e5382 : I5367 (ad g 0) 14 = w3457 := by rw [FC_at hy g5369 0 (by decide) (by decide)]; exact e5360
                  have e5383 : I5367 (ad g 0) 19 = w5183 := by rw [FC_at hy g5369 0 (by decide) (by decide)]; exact e5361
                  have e5384 : I5367 (ad g 0) 12 = w5183 := by rw [FC_at hy g5369 0 (by decide) (by decide)]; exact e5362
                  have fI5385 : FC g [0, 6, 7, 8, 9, 10, 11, 12, 13, 14, 15, 16, 17, 18, 19, 20, 21, 22, 23, 24, 25, 26, 27, 28, 29, 30, 31, 32, 33, 34, 37, 38, 44, 46, 47] I I5367 := FC_tr fI5363 (FC_mono g5369 (by decide))
                  have fJ5386 : FC g [0, 2, 3, 4, 5] J J5368 := FC_tr fJ5364 (FC_mono g5370 (by decide))
                  have fQ5387 : FQ g [1, 2, 3, 4, 5, 6, 7, 8, 9, 10, 11, 12, 13, 14, 15, 16, 17, 18, 19, 51, 68] I I5367 := FQ_tr fQ5365 (FQ_mono g5371 (by decide))
                  try simp only [e5372, e5373, e5374, ew3395, ew3396, ew3397] at p5366
                  have d20 : ∀ q, q < 28 → I5367 (ad g 20) q = I3412 (ad g 27) q := fun q hq => by rw [p5366 q hq, FC_at hy g5347 27 (by decide) (by decide), FC_at hy g5325 27 (by decide) (by decide), FC_at hy g5303 27 (by decide) (by decide), FC_at hy g5281 27 (by decide) (by decide), FC_at hy g5259 27 (by decide) (by decide), FC_at hy g5237 27 (by decide) (by decide), FC_at hy g5215 27 (by decide) (by decide), eI5184, pp_off _ _ (ly_ne hy (by decide) (by decide) (by decide)), eI5169, pp_off _ _ (ly_ne hy (by decide) (by decide) (by decide)), eI3445, pp_off _ _ (ly_ne hy (by decide) (by decide) (by decide)), eI3434, pp_off _ _ (ly_ne hy (by decide) (by decide) (by decide)), eI3425, pp_off _ _ (ly_ne hy (by decide) (by decide) (by decide))]
                  refine WP_aload_n dX11_town_220 rfl ?_
                  refine WP_getr dX11_town_221 fX11_254 rfl (ly_is hy 0 11 rfl) (rf hr 0 39 21 (by decide)) ?_
                  refine WP_aload_n dX11_town_224 rfl ?_
                  refine WP_getr dX11_town_225 fX11_141 rfl (ly_is hy 0 11 rfl) (rf hr 0 46 28 (by decide)) ?_
                  refine WP_callS2 dX11_town_228 ⟨⟨⟨by decide, by decide⟩, zX11_copy⟩, lX11_338, tX11_copy⟩ (em_copy21 hy hr   ) (Nat.le_of_ble_eq_true rfl) ?_
                  intro r I5389 J5390 Ra hq
                  obtain ⟨ec, g5391, g5392, g5393, er, p5388⟩ := hq
                  rw [ec, er]
                  clear ec er Ra r
                  have e5394 : I5389 (ad g 0) 1 = w3407 := by rw [FC_at hy g5391 0 (by decide) (by decide)]; exact e5372
                  have e5395 : I5389 (ad g 0) 8 = w3421 := by rw [FC_at hy g5391 0 (by decide) (by decide)]; exact e5373
                  have e5396 : I5389 (ad g 0) 9 = w3422 := by rw [FC_at hy g5391 0 (by decide) (by decide)]; exact e5374
                  have e5397 : I5389 (ad g 0) 15 = w3424 := by rw [FC_at hy g5391 0 (by decide) (by decide)]; exact e5375
                  have e5398 : I5389 (ad g 0) 10 = w3424 := by rw [FC_at hy g5391 0 (by decide) (by decide)]; exact e5376
                  have e5399 : I5389 (ad g 0) 16 = w3433 := by rw [FC_at hy g5391 0 (by decide) (by decide)]; exact e5377
                  have e5400 : I5389 (ad g 0) 11 = w3433 := by rw [FC_at hy g5391 0 (by decide) (by decide)]; exact e5378
                  have e5401 : I5389 (ad g 0) 17 = w3444 := by rw [FC_at hy g5391 0 (by decide) (by decide)]; exact e5379
                  have e5402 : I5389 (ad g 0) 13 = w3444 := by rw [FC_at hy g5391 0 (by decide) (by decide)]; exact e5380
                  have e5403 : I5389 (ad g 0) 18 = w3457 := by rw [FC_at hy g5391 0 (by decide) (by decide)]; exact e5381
                  have e5404 : I5389 (ad g 0) 14 = w3457 := by rw [FC_at hy g5391 0 (by decide) (by decide)]; exact e5382
                  have e5405 : I5389 (ad g 0) 19 = w5183 := by rw [FC_at hy g5391 0 (by decide) (by decide)]; exact e5383
                  have e5406 : I5389 (ad g 0) 12 = w5183 := by rw [FC_at hy g5391 0 (by decide) (by decide)]; exact e5384
                  have fI5407 : FC g [0, 6, 7, 8, 9, 10, 11, 12, 13, 14, 15, 16, 17, 18, 19, 20, 21, 22, 23, 24, 25, 26, 27, 28, 29, 30, 31, 32, 33, 34, 37, 38, 44, 46, 47] I I5389 := FC_tr fI5385 (FC_mono g5391 (by decide))
                  have fJ5408 : FC g [0, 2, 3, 4, 5] J J5390 := FC_tr fJ5386 (FC_mono g5392 (by decide))
                  have fQ5409 : FQ g [1, 2, 3, 4, 5, 6, 7, 8, 9, 10, 11, 12, 13, 14, 15, 16, 17, 18, 19, 51, 68] I I5389 := FQ_tr fQ5387 (FQ_mono g5393 (by decide))
                  try simp only [e5394, e5395, e5396, ew3395, ew3396, ew3397] at p5388
                  have d21 : ∀ q, q < 21 → I5389 (ad g 21) q = I3412 (ad g 28) q := fun q hq => by rw [p5388 q hq, FC_at hy g5369 28 (by decide) (by decide), FC_at hy g5347 28 (by decide) (by decide), FC_at hy g5325 28 (by decide) (by decide), FC_at hy g5303 28 (by decide) (by decide), FC_at hy g5281 28 (by decide) (by decide), FC_at hy g5259 28 (by decide) (by decide), FC_at hy g5237 28 (by decide) (by decide), FC_at hy g5215 28 (by decide) (by decide), eI5184, pp_off _ _ (ly_ne hy (by decide) (by decide) (by decide)), eI5169, pp_off _ _ (ly_ne hy (by decide) (by decide) (by decide)), eI3445, pp_off _ _ (ly_ne hy (by decide) (by decide) (by decide)), eI3434, pp_off _ _ (ly_ne hy (by decide) (by decide) (by decide)), eI3425, pp_off _ _ (ly_ne hy (by decide) (by decide) (by decide))]
                  refine WP_aload_n dX11_town_231 rfl ?_
                  refine WP_getr dX11_town_232 fX11_257 rfl (ly_is hy 0 11 rfl) (rf hr 0 40 22 (by decide)) ?_
                  refine WP_aload_n dX11_town_235 rfl ?_
                  refine WP_getr dX11_town_236 fX11_141 rfl (ly_is hy 0 11 rfl) (rf hr 0 46 28 (by decide)) ?_
                  refine WP_callS2 dX11_town_239 ⟨⟨⟨by decide, by decide⟩, zX11_copy⟩, lX11_338, tX11_copy⟩ (em_copy22 hy hr   ) (Nat.le_of_ble_eq_true rfl) ?_
                  intro r I5411 J5412 Ra hq
                  obtain ⟨ec, g5413, g5414, g5415, er, p5410⟩ := hq
                  rw [ec, er]
                  clear ec er Ra r
                  have e5416 : I5411 (ad g 0) 1 = w3407 := by rw [FC_at hy g5413 0 (by decide) (by decide)]; exact e5394
                  have e5417 : I5411 (ad g 0) 8 = w3421 := by rw [FC_at hy g5413 0 (by decide) (by decide)]; exact e5395
                  have e5418 : I5411 (ad g 0) 9 = w3422 := by rw [FC_at hy g5413 0 (by decide) (by decide)]; exact e5396
                  have e5419 : I5411 (ad g 0) 15 = w3424 := by rw [FC_at hy g5413 0 (by decide) (by decide)]; exact e5397
                  have e5420 : I5411 (ad g 0) 10 = w3424 := by rw [FC_at hy g5413 0 (by decide) (by decide)]; exact e5398
                  have e5421 : I5411 (ad g 0) 16 = w3433 := by rw [FC_at hy g5413 0 (by decide) (by decide)]; exact e5399
                  have e5422 : I5411 (ad g 0) 11 = w3433 := by rw [FC_at hy g5413 0 (by decide) (by decide)]; exact e5400
                  have e5423 : I5411 (ad g 0) 17 = w3444 := by rw [FC_at hy g5413 0 (by decide) (by decide)]; exact e5401
                  have e5424 : I5411 (ad g 0) 13 = w3444 := by rw [FC_at hy g5413 0 (by decide) (by decide)]; exact e5402
                  have e5425 : I5411 (ad g 0) 18 = w3457 := by rw [FC_at hy g5413 0 (by decide) (by decide)]; exact e5403
                  have e5426 : I5411 (ad g 0) 14 = w3457 := by rw [FC_at hy g5413 0 (by decide) (by decide)]; exact e5404
                  have e5427 : I5411 (ad g 0) 19 = w5183 := by rw [FC_at hy g5413 0 (by decide) (by decide)]; exact e5405
                  have e5428 : I5411 (ad g 0) 12 = w5183 := by rw [FC_at hy g5413 0 (by decide) (by decide)]; exact e5406
                  have fI5429 : FC g [0, 6, 7, 8, 9, 10, 11, 12, 13, 14, 15, 16, 17, 18, 19, 20, 21, 22, 23, 24, 25, 26, 27, 28, 29, 30, 31, 32, 33, 34, 37, 38, 44, 46, 47] I I5411 := FC_tr fI5407 (FC_mono g5413 (by decide))
                  have fJ5430 : FC g [0, 2, 3, 4, 5] J J5412 := FC_tr fJ5408 (FC_mono g5414 (by decide))
                  have fQ5431 : FQ g [1, 2, 3, 4, 5, 6, 7, 8, 9, 10, 11, 12, 13, 14, 15, 16, 17, 18, 19, 51, 68] I I5411 := FQ_tr fQ5409 (FQ_mono g5415 (by decide))
                  try simp only [e5416, e5417, e5418, ew3395, ew3396, ew3397] at p5410
                  have d22 : ∀ q, q < 21 → I5411 (ad g 22) q = I3412 (ad g 28) q := fun q hq => by rw [p5410 q hq, FC_at hy g5391 28 (by decide) (by decide), FC_at hy g5369 28 (by decide) (by decide), FC_at hy g5347 28 (by decide) (by decide), FC_at hy g5325 28 (by decide) (by decide), FC_at hy g5303 28 (by decide) (by decide), FC_at hy g5281 28 (by decide) (by decide), FC_at hy g5259 28 (by decide) (by decide), FC_at hy g5237 28 (by decide) (by decide), FC_at hy g5215 28 (by decide) (by decide), eI5184, pp_off _ _ (ly_ne hy (by decide) (by decide) (by decide)), eI5169, pp_off _ _ (ly_ne hy (by decide) (by decide) (by decide)), eI3445, pp_off _ _ (ly_ne hy (by decide) (by decide) (by decide)), eI3434, pp_off _ _ (ly_ne hy (by decide) (by decide) (by decide)), eI3425, pp_off _ _ (ly_ne hy (by decide) (by decide) (by decide))]
                  refine WP_aload_n dX11_town_242 rfl ?_
                  refine WP_getr dX11_town_243 fX11_259 rfl (ly_is hy 0 11 rfl) (rf hr 0 41 23 (by decide)) ?_
                  refine WP_aload_n dX11_town_246 rfl ?_
                  refine WP_getr dX11_town_247 fX11_144 rfl (ly_is hy 0 11 rfl) (rf hr 0 47 29 (by decide)) ?_
                  refine WP_callS2 dX11_town_250 ⟨⟨⟨by decide, by decide⟩, zX11_copy⟩, lX11_338, tX11_copy⟩ (em_copy23 hy hr   ) (Nat.le_of_ble_eq_true rfl) ?_
                  intro r I5433 J5434 Ra hq
                  obtain ⟨ec, g5435, g5436, g5437, er, p5432⟩ := hq
                  rw [ec, er]
                  clear ec er Ra r
                  have e5438 : I5433 (ad g 0) 1 = w3407 := by rw [FC_at hy g5435 0 (by decide) (by decide)]; exact e5416
                  have e5439 : I5433 (ad g 0) 8 = w3421 := by rw [FC_at hy g5435 0 (by decide) (by decide)]; exact e5417
                  have e5440 : I5433 (ad g 0) 9 = w3422 := by rw [FC_at hy g5435 0 (by decide) (by decide)]; exact e5418
                  have e5441 : I5433 (ad g 0) 15 = w3424 := by rw [FC_at hy g5435 0 (by decide) (by decide)]; exact e5419
                  have e5442 : I5433 (ad g 0) 10 = w3424 := by rw [FC_at hy g5435 0 (by decide) (by decide)]; exact e5420
                  have e5443 : I5433 (ad g 0) 16 = w3433 := by rw [FC_at hy g5435 0 (by decide) (by decide)]; exact e5421
                  have e5444 : I5433 (ad g 0) 11 = w3433 := by rw [FC_at hy g5435 0 (by decide) (by decide)]; exact e5422
                  have e5445 : I5433 (ad g 0) 17 = w3444 := by rw [FC_at hy g5435 0 (by decide) (by decide)]; exact e5423
                  have e5446 : I5433 (ad g 0) 13 = w3444 := by rw [FC_at hy g5435 0 (by decide) (by decide)]; exact e5424
                  have e5447 : I5433 (ad g 0) 18 = w3457 := by rw [FC_at hy g5435 0 (by decide) (by decide)]; exact e5425
                  have e5448 : I5433 (ad g 0) 14 = w3457 := by rw [FC_at hy g5435 0 (by decide) (by decide)]; exact e5426
                  have e5449 : I5433 (ad g 0) 19 = w5183 := by rw [FC_at hy g5435 0 (by decide) (by decide)]; exact e5427
                  have e5450 : I5433 (ad g 0) 12 = w5183 := by rw [FC_at hy g5435 0 (by decide) (by decide)]; exact e5428
                  have fI5451 : FC g [0, 6, 7, 8, 9, 10, 11, 12, 13, 14, 15, 16, 17, 18, 19, 20, 21, 22, 23, 24, 25, 26, 27, 28, 29, 30, 31, 32, 33, 34, 37, 38, 44, 46, 47] I I5433 := FC_tr fI5429 (FC_mono g5435 (by decide))
                  have fJ5452 : FC g [0, 2, 3, 4, 5] J J5434 := FC_tr fJ5430 (FC_mono g5436 (by decide))
                  have fQ5453 : FQ g [1, 2, 3, 4, 5, 6, 7, 8, 9, 10, 11, 12, 13, 14, 15, 16, 17, 18, 19, 51, 68] I I5433 := FQ_tr fQ5431 (FQ_mono g5437 (by decide))
                  try simp only [e5438, e5439, e5440, ew3395, ew3396, ew3397] at p5432
                  have d23 : ∀ q, q < 21 → I5433 (ad g 23) q = I3412 (ad g 29) q := fun q hq => by rw [p5432 q hq, FC_at hy g5413 29 (by decide) (by decide), FC_at hy g5391 29 (by decide) (by decide), FC_at hy g5369 29 (by decide) (by decide), FC_at hy g5347 29 (by decide) (by decide), FC_at hy g5325 29 (by decide) (by decide), FC_at hy g5303 29 (by decide) (by decide), FC_at hy g5281 29 (by decide) (by decide), FC_at hy g5259 29 (by decide) (by decide), FC_at hy g5237 29 (by decide) (by decide), FC_at hy g5215 29 (by decide) (by decide), eI5184, pp_off _ _ (ly_ne hy (by decide) (by decide) (by decide)), eI5169, pp_off _ _ (ly_ne hy (by decide) (by decide) (by decide)), eI3445, pp_off _ _ (ly_ne hy (by decide) (by decide) (by decide)), eI3434, pp_off _ _ (ly_ne hy (by decide) (by decide) (by decide)), eI3425, pp_off _ _ (ly_ne hy (by decide) (by decide) (by decide))]
                  refine WP_aload_n dX11_town_253 rfl ?_
                  refine WP_getr dX11_town_254 fX11_261 rfl (ly_is hy 0 11 rfl) (rf hr 0 42 24 (by decide)) ?_
                  refine WP_aload_n dX11_town_257 rfl ?_
                  refine WP_getr dX11_town_258 fX11_117 rfl (ly_is hy 0 11 rfl) (rf hr 0 48 30 (by decide)) ?_
                  refine WP_callS2 dX11_town_261 ⟨⟨⟨by decide, by decide⟩, zX11_copy⟩, lX11_338, tX11_copy⟩ (em_copy24 hy hr   ) (Nat.le_of_ble_eq_true rfl) ?_
                  intro r I5455 J5456 Ra hq
                  obtain ⟨ec, g5457, g5458, g5459, er, p5454⟩ := hq
                  rw [ec, er]
                  clear ec er Ra r
                  have e5460 : I5455 (ad g 0) 1 = w3407 := by rw [FC_at hy g5457 0 (by decide) (by decide)]; exact e5438
                  have e5461 : I5455 (ad g 0) 8 = w3421 := by rw [FC_at hy g5457 0 (by decide) (by decide)]; exact e5439
                  have e5462 : I5455 (ad g 0) 9 = w3422 := by rw [FC_at hy g5457 0 (by decide) (by decide)]; exact e5440
                  have e5463 : I5455 (ad g 0) 15 = w3424 := by rw [FC_at hy g5457 0 (by decide) (by decide)]; exact e5441
                  have e5464 : I5455 (ad g 0) 10 = w3424 := by rw [FC_at hy g5457 0 (by decide) (by decide)]; exact e5442
                  have e5465 : I5455 (ad g 0) 16 = w3433 := by rw [FC_at hy g5457 0 (by decide) (by decide)]; exact e5443
                  have e5466 : I5455 (ad g 0) 11 = w3433 := by rw [FC_at hy g5457 0 (by decide) (by decide)]; exact e5444
                  have e5467 : I5455 (ad g 0) 17 = w3444 := by rw [FC_at hy g5457 0 (by decide) (by decide)]; exact e5445
                  have e5468 : I5455 (ad g 0) 13 = w3444 := by rw [FC_at hy g5457 0 (by decide) (by decide)]; exact e5446
                  have e5469 : I5455 (ad g 0) 18 = w3457 := by rw [FC_at hy g5457 0 (by decide) (by decide)]; exact e5447
                  have e5470 : I5455 (ad g 0) 14 = w3457 := by rw [FC_at hy g5457 0 (by decide) (by decide)]; exact e5448
                  have e5471 : I5455 (ad g 0) 19 = w5183 := by rw [FC_at hy g5457 0 (by decide) (by decide)]; exact e5449
                  have e5472 : I5455 (ad g 0) 12 = w5183 := by rw [FC_at hy g5457 0 (by decide) (by decide)]; exact e5450
                  have fI5473 : FC g [0, 6, 7, 8, 9, 10, 11, 12, 13, 14, 15, 16, 17, 18, 19, 20, 21, 22, 23, 24, 25, 26, 27, 28, 29, 30, 31, 32, 33, 34, 37, 38, 44, 46, 47] I I5455 := FC_tr fI5451 (FC_mono g5457 (by decide))
                  have fJ5474 : FC g [0, 2, 3, 4, 5] J J5456 := FC_tr fJ5452 (FC_mono g5458 (by decide))
                  have fQ5475 : FQ g [1, 2, 3, 4, 5, 6, 7, 8, 9, 10, 11, 12, 13, 14, 15, 16, 17, 18, 19, 51, 68] I I5455 := FQ_tr fQ5453 (FQ_mono g5459 (by decide))
                  try simp only [e5460, e5461, e5462, ew3395, ew3396, ew3397] at p5454
                  have d24 : ∀ q, q < 28 → I5455 (ad g 24) q = I3412 (ad g 30) q := fun q hq => by rw [p5454 q hq, FC_at hy g5435 30 (by decide) (by decide), FC_at hy g5413 30 (by decide) (by decide), FC_at hy g5391 30 (by decide) (by decide), FC_at hy g5369 30 (by decide) (by decide), FC_at hy g5347 30 (by decide) (by decide), FC_at hy g5325 30 (by decide) (by decide), FC_at hy g5303 30 (by decide) (by decide), FC_at hy g5281 30 (by decide) (by decide), FC_at hy g5259 30 (by decide) (by decide), FC_at hy g5237 30 (by decide) (by decide), FC_at hy g5215 30 (by decide) (by decide), eI5184, pp_off _ _ (ly_ne hy (by decide) (by decide) (by decide)), eI5169, pp_off _ _ (ly_ne hy (by decide) (by decide) (by decide)), eI3445, pp_off _ _ (ly_ne hy (by decide) (by decide) (by decide)), eI3434, pp_off _ _ (ly_ne hy (by decide) (by decide) (by decide)), eI3425, pp_off _ _ (ly_ne hy (by decide) (by decide) (by decide))]
                  refine WP_aload_n dX11_town_264 rfl ?_
                  refine WP_getr dX11_town_265 fX11_264 rfl (ly_is hy 0 11 rfl) (rf hr 0 43 25 (by decide)) ?_
                  refine WP_aload_n dX11_town_268 rfl ?_
                  refine WP_getr dX11_town_269 fX11_120 rfl (ly_is hy 0 11 rfl) (rf hr 0 49 31 (by decide)) ?_
                  refine WP_callS2 dX11_town_272 ⟨⟨⟨by decide, by decide⟩, zX11_copy⟩, lX11_338, tX11_copy⟩ (em_copy25 hy hr   ) (Nat.le_of_ble_eq_true rfl) ?_
                  intro r I5477 J5478 Ra hq
                  obtain ⟨ec, g5479, g5480, g5481, er, p5476⟩ := hq
                  rw [ec, er]
                  clear ec er Ra r
                  have e5482 : I5477 (ad g 0) 1 = w3407 := by rw [FC_at hy g5479 0 (by decide) (by decide)]; exact e5460
                  have e5483 : I5477 (ad g 0) 8 = w3421 := by rw [FC_at hy g5479 0 (by decide) (by decide)]; exact e5461
                  have e5484 : I5477 (ad g 0) 9 = w3422 := by rw [FC_at hy g5479 0 (by decide) (by decide)]; exact e5462
                  have e5485 : I5477 (ad g 0) 15 = w3424 := by rw [FC_at hy g5479 0 (by decide) (by decide)]; exact e5463
                  have e5486 : I5477 (ad g 0) 10 = w3424 := by rw [FC_at hy g5479 0 (by decide) (by decide)]; exact e5464
                  have e5487 : I5477 (ad g 0) 16 = w3433 := by rw [FC_at hy g5479 0 (by decide) (by decide)]; exact e5465
                  have e5488 : I5477 (ad g 0) 11 = w3433 := by rw [FC_at hy g5479 0 (by decide) (by decide)]; exact e5466
                  have e5489 : I5477 (ad g 0) 17 = w3444 := by rw [FC_at hy g5479 0 (by decide) (by decide)]; exact e5467
                  have e5490 : I5477 (ad g 0) 13 = w3444 := by rw [FC_at hy g5479 0 (by decide) (by decide)]; exact e5468
                  have e5491 : I5477 (ad g 0) 18 = w3457 := by rw [FC_at hy g5479 0 (by decide) (by decide)]; exact e5469
                  have e5492 : I5477 (ad g 0) 14 = w3457 := by rw [FC_at hy g5479 0 (by decide) (by decide)]; exact e5470
                  have e5493 : I5477 (ad g 0) 19 = w5183 := by rw [FC_at hy g5479 0 (by decide) (by decide)]; exact e5471
                  have e5494 : I5477 (ad g 0) 12 = w5183 := by rw [FC_at hy g5479 0 (by decide) (by decide)]; exact e5472
                  have fI5495 : FC g [0, 6, 7, 8, 9, 10, 11, 12, 13, 14, 15, 16, 17, 18, 19, 20, 21, 22, 23, 24, 25, 26, 27, 28, 29, 30, 31, 32, 33, 34, 37, 38, 44, 46, 47] I I5477 := FC_tr fI5473 (FC_mono g5479 (by decide))
                  have fJ5496 : FC g [0, 2, 3, 4, 5] J J5478 := FC_tr fJ5474 (FC_mono g5480 (by decide))
                  have fQ5497 : FQ g [1, 2, 3, 4, 5, 6, 7, 8, 9, 10, 11, 12, 13, 14, 15, 16, 17, 18, 19, 51, 68] I I5477 := FQ_tr fQ5475 (FQ_mono g5481 (by decide))
                  try simp only [e5482, e5483, e5484, ew3395, ew3396, ew3397] at p5476
                  have d25 : ∀ q, q < 28 → I5477 (ad g 25) q = I3412 (ad g 31) q := fun q hq => by rw [p5476 q hq, FC_at hy g5457 31 (by decide) (by decide), FC_at hy g5435 31 (by decide) (by decide), FC_at hy g5413 31 (by decide) (by decide), FC_at hy g5391 31 (by decide) (by decide), FC_at hy g5369 31 (by decide) (by decide), FC_at hy g5347 31 (by decide) (by decide), FC_at hy g5325 31 (by decide) (by decide), FC_at hy g5303 31 (by decide) (by decide), FC_at hy g5281 31 (by decide) (by decide), FC_at hy g5259 31 (by decide) (by decide), FC_at hy g5237 31 (by decide) (by decide), FC_at hy g5215 31 (by decide) (by decide), eI5184, pp_off _ _ (ly_ne hy (by decide) (by decide) (by decide)), eI5169, pp_off _ _ (ly_ne hy (by decide) (by decide) (by decide)), eI3445, pp_off _ _ (ly_ne hy (by decide) (by decide) (by decide)), eI3434, pp_off _ _ (ly_ne hy (by decide) (by decide) (by decide)), eI3425, pp_off _ _ (ly_ne hy (by decide) (by decide) (by decide))]
                  refine WP_aload_n dX11_town_275 rfl ?_
                  refine WP_getr dX11_town_276 fX11_267 rfl (ly_is hy 0 11 rfl) (rf hr 0 44 26 (by decide)) ?_
                  refine WP_aload_n dX11_town_279 rfl ?_
                  refine WP_getr dX11_town_280 fX11_123 rfl (ly_is hy 0 11 rfl) (rf hr 0 50 32 (by decide)) ?_
                  refine WP_callS2 dX11_town_283 ⟨⟨⟨by decide, by decide⟩, zX11_copy⟩, lX11_338, tX11_copy⟩ (em_copy26 hy hr   ) (Nat.le_of_ble_eq_true rfl) ?_
                  intro r I5499 J5500 Ra hq
                  obtain ⟨ec, g5501, g5502, g5503, er, p5498⟩ := hq
                  rw [ec, er]
                  clear ec er Ra r
                  have e5504 : I5499 (ad g 0) 1 = w3407 := by rw [FC_at hy g5501 0 (by decide) (by decide)]; exact e5482
                  have e5505 : I5499 (ad g 0) 8 = w3421 := by rw [FC_at hy g5501 0 (by decide) (by decide)]; exact e5483
                  have e5506 : I5499 (ad g 0) 9 = w3422 := by rw [FC_at hy g5501 0 (by decide) (by decide)]; exact e5484
                  have e5507 : I5499 (ad g 0) 15 = w3424 := by rw [FC_at hy g5501 0 (by decide) (by decide)]; exact e5485
                  have e5508 : I5499 (ad g 0) 10 = w3424 := by rw [FC_at hy g5501 0 (by decide) (by decide)]; exact e5486
                  have e5509 : I5499 (ad g 0) 16 = w3433 := by rw [FC_at hy g5501 0 (by decide) (by decide)]; exact e5487
                  have e5510 : I5499 (ad g 0) 11 = w3433 := by rw [FC_at hy g5501 0 (by decide) (by decide)]; exact e5488
                  have e5511 : I5499 (ad g 0) 17 = w3444 := by rw [FC_at hy g5501 0 (by decide) (by decide)]; exact e5489
                  have e5512 : I5499 (ad g 0) 13 = w3444 := by rw [FC_at hy g5501 0 (by decide) (by decide)]; exact e5490
                  have e5513 : I5499 (ad g 0) 18 = w3457 := by rw [FC_at hy g5501 0 (by decide) (by decide)]; exact e5491
                  have e5514 : I5499 (ad g 0) 14 = w3457 := by rw [FC_at hy g5501 0 (by decide) (by decide)]; exact e5492
                  have e5515 : I5499 (ad g 0) 19 = w5183 := by rw [FC_at hy g5501 0 (by decide) (by decide)]; exact e5493
                  have e5516 : I5499 (ad g 0) 12 = w5183 := by rw [FC_at hy g5501 0 (by decide) (by decide)]; exact e5494
                  have fI5517 : FC g [0, 6, 7, 8, 9, 10, 11, 12, 13, 14, 15, 16, 17, 18, 19, 20, 21, 22, 23, 24, 25, 26, 27, 28, 29, 30, 31, 32, 33, 34, 37, 38, 44, 46, 47] I I5499 := FC_tr fI5495 (FC_mono g5501 (by decide))
                  have fJ5518 : FC g [0, 2, 3, 4, 5] J J5500 := FC_tr fJ5496 (FC_mono g5502 (by decide))
                  have fQ5519 : FQ g [1, 2, 3, 4, 5, 6, 7, 8, 9, 10, 11, 12, 13, 14, 15, 16, 17, 18, 19, 51, 68] I I5499 := FQ_tr fQ5497 (FQ_mono g5503 (by decide))
                  try simp only [e5504, e5505, e5506, ew3395, ew3396, ew3397] at p5498
                  have d26 : ∀ q, q < 28 → I5499 (ad g 26) q = I3412 (ad g 32) q := fun q hq => by rw [p5498 q hq, FC_at hy g5479 32 (by decide) (by decide), FC_at hy g5457 32 (by decide) (by decide), FC_at hy g5435 32 (by decide) (by decide), FC_at hy g5413 32 (by decide) (by decide), FC_at hy g5391 32 (by decide) (by decide), FC_at hy g5369 32 (by decide) (by decide), FC_at hy g5347 32 (by decide) (by decide), FC_at hy g5325 32 (by decide) (by decide), FC_at hy g5303 32 (by decide) (by decide), FC_at hy g5281 32 (by decide) (by decide), FC_at hy g5259 32 (by decide) (by decide), FC_at hy g5237 32 (by decide) (by decide), FC_at hy g5215 32 (by decide) (by decide), eI5184, pp_off _ _ (ly_ne hy (by decide) (by decide) (by decide)), eI5169, pp_off _ _ (ly_ne hy (by decide) (by decide) (by decide)), eI3445, pp_off _ _ (ly_ne hy (by decide) (by decide) (by decide)), eI3434, pp_off _ _ (ly_ne hy (by decide) (by decide) (by decide)), eI3425, pp_off _ _ (ly_ne hy (by decide) (by decide) (by decide))]
                  refine WQ_iconst (0) (0) dX11_town_286 rfl rfl (fun v5520 hv5520 => ?_)
                  refine WP_istore_n (ls' := [(0, _), (1, _)]) dX11_town_287 (by decide) rfl ?_
                  refine WP_iload_n dX11_town_288 rfl ?_
                  refine WQ_iconst (4) (4) dX11_town_289 rfl rfl (fun v5521 hv5521 => ?_)
                  refine WQ_icmp_ge 323 dX11_town_290 rfl (fun c5521 => False.elim (by omega)) (fun c5521 => ?_)
                  refine WP_aload_n dX11_town_293 rfl ?_
                  refine WP_getr dX11_town_294 fX11_283 rfl (ly_is hy 0 11 rfl) (rf hr 0 59 38 (by decide)) ?_
                  refine WQ_bipush (28) (28) dX11_town_297 rfl rfl (fun v5523 hv5523 => ?_)
                  refine WP_iload_n dX11_town_299 rfl ?_
                  refine WQ_iadd dX11_town_300 (by omega) (by omega) (fun v5524 hv5524 => ?_)
                  have kv5524 : v5524.toInt = 28 := by omega
                  clear hv5524; have hv5524 := kv5524; clear kv5524
                  refine WQ_iconst (1) (1) dX11_town_301 rfl rfl (fun v5525 hv5525 => ?_)
                  refine WE_is dX11_town_302 (ly_is hy 38 13 rfl) (ly_n hy 38 35 rfl) (by omega) (by omega) (fun I5526 eI5526 => ?_)
                  rw [show v5524.toInt.toNat = 28 by omega] at eI5526
                  have e5527 : I5526 (ad g 0) 1 = w3407 := by rw [eI5526, pp_ne _ _ (Or.inl (ly_ne hy (by decide) (by decide) (by decide)))]; exact e5504
                  have e5528 : I5526 (ad g 0) 8 = w3421 := by rw [eI5526, pp_ne _ _ (Or.inl (ly_ne hy (by decide) (by decide) (by decide)))]; exact e5505
                  have e5529 : I5526 (ad g 0) 9 = w3422 := by rw [eI5526, pp_ne _ _ (Or.inl (ly_ne hy (by decide) (by decide) (by decide)))]; exact e5506
                  have e5530 : I5526 (ad g 0) 15 = w3424 := by rw [eI5526, pp_ne _ _ (Or.inl (ly_ne hy (by decide) (by decide) (by decide)))]; exact e5507
                  have e5531 : I5526 (ad g 0) 10 = w3424 := by rw [eI5526, pp_ne _ _ (Or.inl (ly_ne hy (by decide) (by decide) (by decide)))]; exact e5508
                  have e5532 : I5526 (ad g 0) 16 = w3433 := by rw [eI5526, pp_ne _ _ (Or.inl (ly_ne hy (by decide) (by decide) (by decide)))]; exact e5509
                  have e5533 : I5526 (ad g 0) 11 = w3433 := by rw [eI5526, pp_ne _ _ (Or.inl (ly_ne hy (by decide) (by decide) (by decide)))]; exact e5510
                  have e5534 : I5526 (ad g 0) 17 = w3444 := by rw [eI5526, pp_ne _ _ (Or.inl (ly_ne hy (by decide) (by decide) (by decide)))]; exact e5511
                  have e5535 : I5526 (ad g 0) 13 = w3444 := by rw [eI5526, pp_ne _ _ (Or.inl (ly_ne hy (by decide) (by decide) (by decide)))]; exact e5512
                  have e5536 : I5526 (ad g 0) 18 = w3457 := by rw [eI5526, pp_ne _ _ (Or.inl (ly_ne hy (by decide) (by decide) (by decide)))]; exact e5513
                  have e5537 : I5526 (ad g 0) 14 = w3457 := by rw [eI5526, pp_ne _ _ (Or.inl (ly_ne hy (by decide) (by decide) (by decide)))]; exact e5514
                  have e5538 : I5526 (ad g 0) 19 = w5183 := by rw [eI5526, pp_ne _ _ (Or.inl (ly_ne hy (by decide) (by decide) (by decide)))]; exact e5515
                  have e5539 : I5526 (ad g 0) 12 = w5183 := by rw [eI5526, pp_ne _ _ (Or.inl (ly_ne hy (by decide) (by decide) (by decide)))]; exact e5516
                  have e5540 : I5526 (ad g 38) 28 = v5525 := by rw [eI5526, pp_self]
                  have fI5541 : FC g [0, 6, 7, 8, 9, 10, 11, 12, 13, 14, 15, 16, 17, 18, 19, 20, 21, 22, 23, 24, 25, 26, 27, 28, 29, 30, 31, 32, 33, 34, 37, 38, 44, 46, 47] I I5526 := by rw [eI5526]; exact FC_pp fI5517 (by decide)
                  have fQ5542 : FQ g [1, 2, 3, 4, 5, 6, 7, 8, 9, 10, 11, 12, 13, 14, 15, 16, 17, 18, 19, 51, 68] I I5526 := by rw [eI5526]; exact FQ_ppn (ly_ne hy (by decide) (by decide) (by decide)) fQ5519
                  refine WP_aload_n dX11_town_303 rfl ?_
                  refine WP_getr dX11_town_304 fX11_310 rfl (ly_is hy 0 11 rfl) (rf hr 0 71 46 (by decide)) ?_
                  refine WP_iload_n dX11_town_307 rfl ?_
                  refine WQ_iconst (0) (0) dX11_town_308 rfl rfl (fun v5543 hv5543 => ?_)
                  refine WE_is dX11_town_309 (ly_is hy 46 13 rfl) (ly_n hy 46 4 rfl) (by omega) (by omega) (fun I5544 eI5544 => ?_)
                  rw [show v5520.toInt.toNat = 0 by omega] at eI5544
                  have e5545 : I5544 (ad g 0) 1 = w3407 := by rw [eI5544, pp_ne _ _ (Or.inl (ly_ne hy (by decide) (by decide) (by decide)))]; exact e5527
                  have e5546 : I5544 (ad g 0) 8 = w3421 := by rw [eI5544, pp_ne _ _ (Or.inl (ly_ne hy (by decide) (by decide) (by decide)))]; exact e5528
                  have e5547 : I5544 (ad g 0) 9 = w3422 := by rw [eI5544, pp_ne _ _ (Or.inl (ly_ne hy (by decide) (by decide) (by decide)))]; exact e5529
                  have e5548 : I5544 (ad g 0) 15 = w3424 := by rw [eI5544, pp_ne _ _ (Or.inl (ly_ne hy (by decide) (by decide) (by decide)))]; exact e5530
                  have e5549 : I5544 (ad g 0) 10 = w3424 := by rw [eI5544, pp_ne _ _ (Or.inl (ly_ne hy (by decide) (by decide) (by decide)))]; exact e5531
                  have e5550 : I5544 (ad g 0) 16 = w3433 := by rw [eI5544, pp_ne _ _ (Or.inl (ly_ne hy (by decide) (by decide) (by decide)))]; exact e5532
                  have e5551 : I5544 (ad g 0) 11 = w3433 := by rw [eI5544, pp_ne _ _ (Or.inl (ly_ne hy (by decide) (by decide) (by decide)))]; exact e5533
                  have e5552 : I5544 (ad g 0) 17 = w3444 := by rw [eI5544, pp_ne _ _ (Or.inl (ly_ne hy (by decide) (by decide) (by decide)))]; exact e5534
                  have e5553 : I5544 (ad g 0) 13 = w3444 := by rw [eI5544, pp_ne _ _ (Or.inl (ly_ne hy (by decide) (by decide) (by decide)))]; exact e5535
                  have e5554 : I5544 (ad g 0) 18 = w3457 := by rw [eI5544, pp_ne _ _ (Or.inl (ly_ne hy (by decide) (by decide) (by decide)))]; exact e5536
                  have e5555 : I5544 (ad g 0) 14 = w3457 := by rw [eI5544, pp_ne _ _ (Or.inl (ly_ne hy (by decide) (by decide) (by decide)))]; exact e5537
                  have e5556 : I5544 (ad g 0) 19 = w5183 := by rw [eI5544, pp_ne _ _ (Or.inl (ly_ne hy (by decide) (by decide) (by decide)))]; exact e5538
                  have e5557 : I5544 (ad g 0) 12 = w5183 := by rw [eI5544, pp_ne _ _ (Or.inl (ly_ne hy (by decide) (by decide) (by decide)))]; exact e5539
                  have e5558 : I5544 (ad g 38) 28 = v5525 := by rw [eI5544, pp_ne _ _ (Or.inl (ly_ne hy (by decide) (by decide) (by decide)))]; exact e5540
                  have e5559 : I5544 (ad g 46) 0 = v5543 := by rw [eI5544, pp_self]
                  have fI5560 : FC g [0, 6, 7, 8, 9, 10, 11, 12, 13, 14, 15, 16, 17, 18, 19, 20, 21, 22, 23, 24, 25, 26, 27, 28, 29, 30, 31, 32, 33, 34, 37, 38, 44, 46, 47] I I5544 := by rw [eI5544]; exact FC_pp fI5541 (by decide)
                  have fQ5561 : FQ g [1, 2, 3, 4, 5, 6, 7, 8, 9, 10, 11, 12, 13, 14, 15, 16, 17, 18, 19, 51, 68] I I5544 := by rw [eI5544]; exact FQ_ppn (ly_ne hy (by decide) (by decide) (by decide)) fQ5542
                  refine WP_aload_n dX11_town_310 rfl ?_
                  refine WP_getr dX11_town_311 fX11_313 rfl (ly_is hy 0 11 rfl) (rf hr 0 72 47 (by decide)) ?_
                  refine WP_iload_n dX11_town_314 rfl ?_
                  refine WQ_iconst (0) (0) dX11_town_315 rfl rfl (fun v5562 hv5562 => ?_)
                  refine WE_is dX11_town_316 (ly_is hy 47 13 rfl) (ly_n hy 47 4 rfl) (by omega) (by omega) (fun I5563 eI5563 => ?_)
                  rw [show v5520.toInt.toNat = 0 by omega] at eI5563
                  have e5564 : I5563 (ad g 0) 1 = w3407 := by rw [eI5563, pp_ne _ _ (Or.inl (ly_ne hy (by decide) (by decide) (by decide)))]; exact e5545
                  have e5565 : I5563 (ad g 0) 8 = w3421 := by rw [eI5563, pp_ne _ _ (Or.inl (ly_ne hy (by decide) (by decide) (by decide)))]; exact e5546
                  have e5566 : I5563 (ad g 0) 9 = w3422 := by rw [eI5563, pp_ne _ _ (Or.inl (ly_ne hy (by decide) (by decide) (by decide)))]; exact e5547
                  have e5567 : I5563 (ad g 0) 15 = w3424 := by rw [eI5563, pp_ne _ _ (Or.inl (ly_ne hy (by decide) (by decide) (by decide)))]; exact e5548
                  have e5568 : I5563 (ad g 0) 10 = w3424 := by rw [eI5563, pp_ne _ _ (Or.inl (ly_ne hy (by decide) (by decide) (by decide)))]; exact e5549
                  have e5569 : I5563 (ad g 0) 16 = w3433 := by rw [eI5563, pp_ne _ _ (Or.inl (ly_ne hy (by decide) (by decide) (by decide)))]; exact e5550
                  have e5570 : I5563 (ad g 0) 11 = w3433 := by rw [eI5563, pp_ne _ _ (Or.inl (ly_ne hy (by decide) (by decide) (by decide)))]; exact e5551
                  have e5571 : I5563 (ad g 0) 17 = w3444 := by rw [eI5563, pp_ne _ _ (Or.inl (ly_ne hy (by decide) (by decide) (by decide)))]; exact e5552
                  have e5572 : I5563 (ad g 0) 13 = w3444 := by rw [eI5563, pp_ne _ _ (Or.inl (ly_ne hy (by decide) (by decide) (by decide)))]; exact e5553
                  have e5573 : I5563 (ad g 0) 18 = w3457 := by rw [eI5563, pp_ne _ _ (Or.inl (ly_ne hy (by decide) (by decide) (by decide)))]; exact e5554
                  have e5574 : I5563 (ad g 0) 14 = w3457 := by rw [eI5563, pp_ne _ _ (Or.inl (ly_ne hy (by decide) (by decide) (by decide)))]; exact e5555
                  have e5575 : I5563 (ad g 0) 19 = w5183 := by rw [eI5563, pp_ne _ _ (Or.inl (ly_ne hy (by decide) (by decide) (by decide)))]; exact e5556
                  have e5576 : I5563 (ad g 0) 12 = w5183 := by rw [eI5563, pp_ne _ _ (Or.inl (ly_ne hy (by decide) (by decide) (by decide)))]; exact e5557
                  have e5577 : I5563 (ad g 38) 28 = v5525 := by rw [eI5563, pp_ne _ _ (Or.inl (ly_ne hy (by decide) (by decide) (by decide)))]; exact e5558
                  have e5578 : I5563 (ad g 46) 0 = v5543 := by rw [eI5563, pp_ne _ _ (Or.inl (ly_ne hy (by decide) (by decide) (by decide)))]; exact e5559
                  have e5579 : I5563 (ad g 47) 0 = v5562 := by rw [eI5563, pp_self]
                  have fI5580 : FC g [0, 6, 7, 8, 9, 10, 11, 12, 13, 14, 15, 16, 17, 18, 19, 20, 21, 22, 23, 24, 25, 26, 27, 28, 29, 30, 31, 32, 33, 34, 37, 38, 44, 46, 47] I I5563 := by rw [eI5563]; exact FC_pp fI5560 (by decide)
                  have fQ5581 : FQ g [1, 2, 3, 4, 5, 6, 7, 8, 9, 10, 11, 12, 13, 14, 15, 16, 17, 18, 19, 51, 68] I I5563 := by rw [eI5563]; exact FQ_ppn (ly_ne hy (by decide) (by decide) (by decide)) fQ5561
                  refine WP_iinc (ls' := [(0, _), (1, _)]) dX11_town_317 rfl (by decide) rfl ?_
                  have hv5582 : (v5520 + Int32.ofInt (1)).toInt = v5520.toInt + (1) := ia_n rfl (by omega) (by omega)
                  generalize v5520 + Int32.ofInt (1) = v5582 at hv5582 ⊢
                  have kv5582 : v5582.toInt = 1 := by omega
                  clear hv5582; have hv5582 := kv5582; clear kv5582
                  refine WP_goto 288 dX11_town_320 rfl ?_
                  refine WP_iload_n dX11_town_288 rfl ?_
                  refine WQ_iconst (4) (4) dX11_town_289 rfl rfl (fun v5583 hv5583 => ?_)
                  refine WQ_icmp_ge 323 dX11_town_290 rfl (fun c5583 => False.elim (by omega)) (fun c5583 => ?_)
                  refine WP_aload_n dX11_town_293 rfl ?_
                  refine WP_getr dX11_town_294 fX11_283 rfl (ly_is hy 0 11 rfl) (rf hr 0 59 38 (by decide)) ?_
                  refine WQ_bipush (28) (28) dX11_town_297 rfl rfl (fun v5585 hv5585 => ?_)
                  refine WP_iload_n dX11_town_299 rfl ?_
                  refine WQ_iadd dX11_town_300 (by omega) (by omega) (fun v5586 hv5586 => ?_)
                  have kv5586 : v5586.toInt = 29 := by omega
                  clear hv5586; have hv5586 := kv5586; clear kv5586
                  refine WQ_iconst (1) (1) dX11_town_301 rfl rfl (fun v5587 hv5587 => ?_)
                  refine WE_is dX11_town_302 (ly_is hy 38 13 rfl) (ly_n hy 38 35 rfl) (by omega) (by omega) (fun I5588 eI5588 => ?_)
                  rw [show v5586.toInt.toNat = 29 by omega] at eI5588
                  have e5589 : I5588 (ad g 0) 1 = w3407 := by rw [eI5588, pp_ne _ _ (Or.inl (ly_ne hy (by decide) (by decide) (by decide)))]; exact e5564
                  have e5590 : I5588 (ad g 0) 8 = w3421 := by rw [eI5588, pp_ne _ _ (Or.inl (ly_ne hy (by decide) (by decide) (by decide)))]; exact e5565
                  have e5591 : I5588 (ad g 0) 9 = w3422 := by rw [eI5588, pp_ne _ _ (Or.inl (ly_ne hy (by decide) (by decide) (by decide)))]; exact e5566
                  have e5592 : I5588 (ad g 0) 15 = w3424 := by rw [eI5588, pp_ne _ _ (Or.inl (ly_ne hy (by decide) (by decide) (by decide)))]; exact e5567
                  have e5593 : I5588 (ad g 0) 10 = w3424 := by rw [eI5588, pp_ne _ _ (Or.inl (ly_ne hy (by decide) (by decide) (by decide)))]; exact e5568
                  have e5594 : I5588 (ad g 0) 16 = w3433 := by rw [eI5588, pp_ne _ _ (Or.inl (ly_ne hy (by decide) (by decide) (by decide)))]; exact e5569
                  have e5595 : I5588 (ad g 0) 11 = w3433 := by rw [eI5588, pp_ne _ _ (Or.inl (ly_ne hy (by decide) (by decide) (by decide)))]; exact e5570
                  have e5596 : I5588 (ad g 0) 17 = w3444 := by rw [eI5588, pp_ne _ _ (Or.inl (ly_ne hy (by decide) (by decide) (by decide)))]; exact e5571
                  have e5597 : I5588 (ad g 0) 13 = w3444 := by rw [eI5588, pp_ne _ _ (Or.inl (ly_ne hy (by decide) (by decide) (by decide)))]; exact e5572
                  have e5598 : I5588 (ad g 0) 18 = w3457 := by rw [eI5588, pp_ne _ _ (Or.inl (ly_ne hy (by decide) (by decide) (by decide)))]; exact e5573
                  have e5599 : I5588 (ad g 0) 14 = w3457 := by rw [eI5588, pp_ne _ _ (Or.inl (ly_ne hy (by decide) (by decide) (by decide)))]; exact e5574
                  have e5600 : I5588 (ad g 0) 19 = w5183 := by rw [eI5588, pp_ne _ _ (Or.inl (ly_ne hy (by decide) (by decide) (by decide)))]; exact e5575
                  have e5601 : I5588 (ad g 0) 12 = w5183 := by rw [eI5588, pp_ne _ _ (Or.inl (ly_ne hy (by decide) (by decide) (by decide)))]; exact e5576
                  have e5602 : I5588 (ad g 38) 28 = v5525 := by rw [eI5588, pp_ne _ _ (Or.inr (by decide))]; exact e5577
                  have e5603 : I5588 (ad g 46) 0 = v5543 := by rw [eI5588, pp_ne _ _ (Or.inl (ly_ne hy (by decide) (by decide) (by decide)))]; exact e5578
                  have e5604 : I5588 (ad g 47) 0 = v5562 := by rw [eI5588, pp_ne _ _ (Or.inl (ly_ne hy (by decide) (by decide) (by decide)))]; exact e5579
                  have e5605 : I5588 (ad g 38) 29 = v5587 := by rw [eI5588, pp_self]
                  have fI5606 : FC g [0, 6, 7, 8, 9, 10, 11, 12, 13, 14, 15, 16, 17, 18, 19, 20, 21, 22, 23, 24, 25, 26, 27, 28, 29, 30, 31, 32, 33, 34, 37, 38, 44, 46, 47] I I5588 := by rw [eI5588]; exact FC_pp fI5580 (by decide)
                  have fQ5607 : FQ g [1, 2, 3, 4, 5, 6, 7, 8, 9, 10, 11, 12, 13, 14, 15, 16, 17, 18, 19, 51, 68] I I5588 := by rw [eI5588]; exact FQ_ppn (ly_ne hy (by decide) (by decide) (by decide)) fQ5581
                  refine WP_aload_n dX11_town_303 rfl ?_
                  refine WP_getr dX11_town_304 fX11_310 rfl (ly_is hy 0 11 rfl) (rf hr 0 71 46 (by decide)) ?_
                  refine WP_iload_n dX11_town_307 rfl ?_
                  refine WQ_iconst (0) (0) dX11_town_308 rfl rfl (fun v5608 hv5608 => ?_)
                  refine WE_is dX11_town_309 (ly_is hy 46 13 rfl) (ly_n hy 46 4 rfl) (by omega) (by omega) (fun I5609 eI5609 => ?_)
                  rw [show v5582.toInt.toNat = 1 by omega] at eI5609
                  have e5610 : I5609 (ad g 0) 1 = w3407 := by rw [eI5609, pp_ne _ _ (Or.inl (ly_ne hy (by decide) (by decide) (by decide)))]; exact e5589
                  have e5611 : I5609 (ad g 0) 8 = w3421 := by rw [eI5609, pp_ne _ _ (Or.inl (ly_ne hy (by decide) (by decide) (by decide)))]; exact e5590
                  have e5612 : I5609 (ad g 0) 9 = w3422 := by rw [eI5609, pp_ne _ _ (Or.inl (ly_ne hy (by decide) (by decide) (by decide)))]; exact e5591
                  have e5613 : I5609 (ad g 0) 15 = w3424 := by rw [eI5609, pp_ne _ _ (Or.inl (ly_ne hy (by decide) (by decide) (by decide)))]; exact e5592
                  have e5614 : I5609 (ad g 0) 10 = w3424 := by rw [eI5609, pp_ne _ _ (Or.inl (ly_ne hy (by decide) (by decide) (by decide)))]; exact e5593
                  have e5615 : I5609 (ad g 0) 16 = w3433 := by rw [eI5609, pp_ne _ _ (Or.inl (ly_ne hy (by decide) (by decide) (by decide)))]; exact e5594
                  have e5616 : I5609 (ad g 0) 11 = w3433 := by rw [eI5609, pp_ne _ _ (Or.inl (ly_ne hy (by decide) (by decide) (by decide)))]; exact e5595
                  have e5617 : I5609 (ad g 0) 17 = w3444 := by rw [eI5609, pp_ne _ _ (Or.inl (ly_ne hy (by decide) (by decide) (by decide)))]; exact e5596
                  have e5618 : I5609 (ad g 0) 13 = w3444 := by rw [eI5609, pp_ne _ _ (Or.inl (ly_ne hy (by decide) (by decide) (by decide)))]; exact e5597
                  have e5619 : I5609 (ad g 0) 18 = w3457 := by rw [eI5609, pp_ne _ _ (Or.inl (ly_ne hy (by decide) (by decide) (by decide)))]; exact e5598
                  have e5620 : I5609 (ad g 0) 14 = w3457 := by rw [eI5609, pp_ne _ _ (Or.inl (ly_ne hy (by decide) (by decide) (by decide)))]; exact e5599
                  have e5621 : I5609 (ad g 0) 19 = w5183 := by rw [eI5609, pp_ne _ _ (Or.inl (ly_ne hy (by decide) (by decide) (by decide)))]; exact e5600
                  have e5622 : I5609 (ad g 0) 12 = w5183 := by rw [eI5609, pp_ne _ _ (Or.inl (ly_ne hy (by decide) (by decide) (by decide)))]; exact e5601
                  have e5623 : I5609 (ad g 38) 28 = v5525 := by rw [eI5609, pp_ne _ _ (Or.inl (ly_ne hy (by decide) (by decide) (by decide)))]; exact e5602
                  have e5624 : I5609 (ad g 46) 0 = v5543 := by rw [eI5609, pp_ne _ _ (Or.inr (by decide))]; exact e5603
                  have e5625 : I5609 (ad g 47) 0 = v5562 := by rw [eI5609, pp_ne _ _ (Or.inl (ly_ne hy (by decide) (by decide) (by decide)))]; exact e5604
                  have e5626 : I5609 (ad g 38) 29 = v5587 := by rw [eI5609, pp_ne _ _ (Or.inl (ly_ne hy (by decide) (by decide) (by decide)))]; exact e5605
                  have e5627 : I5609 (ad g 46) 1 = v5608 := by rw [eI5609, pp_self]
                  have fI5628 : FC g [0, 6, 7, 8, 9, 10, 11, 12, 13, 14, 15, 16, 17, 18, 19, 20, 21, 22, 23, 24, 25, 26, 27, 28, 29, 30, 31, 32, 33, 34, 37, 38, 44, 46, 47] I I5609 := by rw [eI5609]; exact FC_pp fI5606 (by decide)
                  have fQ5629 : FQ g [1, 2, 3, 4, 5, 6, 7, 8, 9, 10, 11, 12, 13, 14, 15, 16, 17, 18, 19, 51, 68] I I5609 := by rw [eI5609]; exact FQ_ppn (ly_ne hy (by decide) (by decide) (by decide)) fQ5607
                  refine WP_aload_n dX11_town_310 rfl ?_
                  refine WP_getr dX11_town_311 fX11_313 rfl (ly_is hy 0 11 rfl) (rf hr 0 72 47 (by decide)) ?_
                  refine WP_iload_n dX11_town_314 rfl ?_
                  refine WQ_iconst (0) (0) dX11_town_315 rfl rfl (fun v5630 hv5630 => ?_)
                  refine WE_is dX11_town_316 (ly_is hy 47 13 rfl) (ly_n hy 47 4 rfl) (by omega) (by omega) (fun I5631 eI5631 => ?_)
                  rw [show v5582.toInt.toNat = 1 by omega] at eI5631
                  have e5632 : I5631 (ad g 0) 1 = w3407 := by rw [eI5631, pp_ne _ _ (Or.inl (ly_ne hy (by decide) (by decide) (by decide)))]; exact e5610
                  have e5633 : I5631 (ad g 0) 8 = w3421 := by rw [eI5631, pp_ne _ _ (Or.inl (ly_ne hy (by decide) (by decide) (by decide)))]; exact e5611
                  have e5634 : I5631 (ad g 0) 9 = w3422 := by rw [eI5631, pp_ne _ _ (Or.inl (ly_ne hy (by decide) (by decide) (by decide)))]; exact e5612
                  have e5635 : I5631 (ad g 0) 15 = w3424 := by rw [eI5631, pp_ne _ _ (Or.inl (ly_ne hy (by decide) (by decide) (by decide)))]; exact e5613
                  have e5636 : I5631 (ad g 0) 10 = w3424 := by rw [eI5631, pp_ne _ _ (Or.inl (ly_ne hy (by decide) (by decide) (by decide)))]; exact e5614
                  have e5637 : I5631 (ad g 0) 16 = w3433 := by rw [eI5631, pp_ne _ _ (Or.inl (ly_ne hy (by decide) (by decide) (by decide)))]; exact e5615
                  have e5638 : I5631 (ad g 0) 11 = w3433 := by rw [eI5631, pp_ne _ _ (Or.inl (ly_ne hy (by decide) (by decide) (by decide)))]; exact e5616
                  have e5639 : I5631 (ad g 0) 17 = w3444 := by rw [eI5631, pp_ne _ _ (Or.inl (ly_ne hy (by decide) (by decide) (by decide)))]; exact e5617
                  have e5640 : I5631 (ad g 0) 13 = w3444 := by rw [eI5631, pp_ne _ _ (Or.inl (ly_ne hy (by decide) (by decide) (by decide)))]; exact e5618
                  have e5641 : I5631 (ad g 0) 18 = w3457 := by rw [eI5631, pp_ne _ _ (Or.inl (ly_ne hy (by decide) (by decide) (by decide)))]; exact e5619
                  have e5642 : I5631 (ad g 0) 14 = w3457 := by rw [eI5631, pp_ne _ _ (Or.inl (ly_ne hy (by decide) (by decide) (by decide)))]; exact e5620
                  have e5643 : I5631 (ad g 0) 19 = w5183 := by rw [eI5631, pp_ne _ _ (Or.inl (ly_ne hy (by decide) (by decide) (by decide)))]; exact e5621
                  have e5644 : I5631 (ad g 0) 12 = w5183 := by rw [eI5631, pp_ne _ _ (Or.inl (ly_ne hy (by decide) (by decide) (by decide)))]; exact e5622
                  have e5645 : I5631 (ad g 38) 28 = v5525 := by rw [eI5631, pp_ne _ _ (Or.inl (ly_ne hy (by decide) (by decide) (by decide)))]; exact e5623
                  have e5646 : I5631 (ad g 46) 0 = v5543 := by rw [eI5631, pp_ne _ _ (Or.inl (ly_ne hy (by decide) (by decide) (by decide)))]; exact e5624
                  have e5647 : I5631 (ad g 47) 0 = v5562 := by rw [eI5631, pp_ne _ _ (Or.inr (by decide))]; exact e5625
                  have e5648 : I5631 (ad g 38) 29 = v5587 := by rw [eI5631, pp_ne _ _ (Or.inl (ly_ne hy (by decide) (by decide) (by decide)))]; exact e5626
                  have e5649 : I5631 (ad g 46) 1 = v5608 := by rw [eI5631, pp_ne _ _ (Or.inl (ly_ne hy (by decide) (by decide) (by decide)))]; exact e5627
                  have e5650 : I5631 (ad g 47) 1 = v5630 := by rw [eI5631, pp_self]
                  have fI5651 : FC g [0, 6, 7, 8, 9, 10, 11, 12, 13, 14, 15, 16, 17, 18, 19, 20, 21, 22, 23, 24, 25, 26, 27, 28, 29, 30, 31, 32, 33, 34, 37, 38, 44, 46, 47] I I5631 := by rw [eI5631]; exact FC_pp fI5628 (by decide)
                  have fQ5652 : FQ g [1, 2, 3, 4, 5, 6, 7, 8, 9, 10, 11, 12, 13, 14, 15, 16, 17, 18, 19, 51, 68] I I5631 := by rw [eI5631]; exact FQ_ppn (ly_ne hy (by decide) (by decide) (by decide)) fQ5629
                  refine WP_iinc (ls' := [(0, _), (1, _)]) dX11_town_317 rfl (by decide) rfl ?_
                  have hv5653 : (v5582 + Int32.ofInt (1)).toInt = v5582.toInt + (1) := ia_n rfl (by omega) (by omega)
                  generalize v5582 + Int32.ofInt (1) = v5653 at hv5653 ⊢
                  have kv5653 : v5653.toInt = 2 := by omega
                  clear hv5653; have hv5653 := kv5653; clear kv5653
                  refine WP_goto 288 dX11_town_320 rfl ?_
                  refine WP_iload_n dX11_town_288 rfl ?_
                  refine WQ_iconst (4) (4) dX11_town_289 rfl rfl (fun v5654 hv5654 => ?_)
                  refine WQ_icmp_ge 323 dX11_town_290 rfl (fun c5654 => False.elim (by omega)) (fun c5654 => ?_)
                  refine WP_aload_n dX11_town_293 rfl ?_
                  refine WP_getr dX11_town_294 fX11_283 rfl (ly_is hy 0 11 rfl) (rf hr 0 59 38 (by decide)) ?_
                  refine WQ_bipush (28) (28) dX11_town_297 rfl rfl (fun v5656 hv5656 => ?_)
                  refine WP_iload_n dX11_town_299 rfl ?_
                  refine WQ_iadd dX11_town_300 (by omega) (by omega) (fun v5657 hv5657 => ?_)
                  have kv5657 : v5657.toInt = 30 := by omega
                  clear hv5657; have hv5657 := kv5657; clear kv5657
                  refine WQ_iconst (1) (1) dX11_town_301 rfl rfl (fun v5658 hv5658 => ?_)
                  refine WE_is dX11_town_302 (ly_is hy 38 13 rfl) (ly_n hy 38 35 rfl) (by omega) (by omega) (fun I5659 eI5659 => ?_)
                  rw [show v5657.toInt.toNat = 30 by omega] at eI5659
                  have e5660 : I5659 (ad g 0) 1 = w3407 := by rw [eI5659, pp_ne _ _ (Or.inl (ly_ne hy (by decide) (by decide) (by decide)))]; exact e5632
                  have e5661 : I5659 (ad g 0) 8 = w3421 := by rw [eI5659, pp_ne _ _ (Or.inl (ly_ne hy (by decide) (by decide) (by decide)))]; exact e5633
                  have e5662 : I5659 (ad g 0) 9 = w3422 := by rw [eI5659, pp_ne _ _ (Or.inl (ly_ne hy (by decide) (by decide) (by decide)))]; exact e5634
                  have e5663 : I5659 (ad g 0) 15 = w3424 := by rw [eI5659, pp_ne _ _ (Or.inl (ly_ne hy (by decide) (by decide) (by decide)))]; exact e5635
                  have e5664 : I5659 (ad g 0) 10 = w3424 := by rw [eI5659, pp_ne _ _ (Or.inl (ly_ne hy (by decide) (by decide) (by decide)))]; exact e5636
                  have e5665 : I5659 (ad g 0) 16 = w3433 := by rw [eI5659, pp_ne _ _ (Or.inl (ly_ne hy (by decide) (by decide) (by decide)))]; exact e5637
                  have e5666 : I5659 (ad g 0) 11 = w3433 := by rw [eI5659, pp_ne _ _ (Or.inl (ly_ne hy (by decide) (by decide) (by decide)))]; exact e5638
                  have e5667 : I5659 (ad g 0) 17 = w3444 := by rw [eI5659, pp_ne _ _ (Or.inl (ly_ne hy (by decide) (by decide) (by decide)))]; exact e5639
                  have e5668 : I5659 (ad g 0) 13 = w3444 := by rw [eI5659, pp_ne _ _ (Or.inl (ly_ne hy (by decide) (by decide) (by decide)))]; exact e5640
                  have e5669 : I5659 (ad g 0) 18 = w3457 := by rw [eI5659, pp_ne _ _ (Or.inl (ly_ne hy (by decide) (by decide) (by decide)))]; exact e5641
                  have e5670 : I5659 (ad g 0) 14 = w3457 := by rw [eI5659, pp_ne _ _ (Or.inl (ly_ne hy (by decide) (by decide) (by decide)))]; exact e5642
                  have e5671 : I5659 (ad g 0) 19 = w5183 := by rw [eI5659, pp_ne _ _ (Or.inl (ly_ne hy (by decide) (by decide) (by decide)))]; exact e5643
                  have e5672 : I5659 (ad g 0) 12 = w5183 := by rw [eI5659, pp_ne _ _ (Or.inl (ly_ne hy (by decide) (by decide) (by decide)))]; exact e5644
                  have e5673 : I5659 (ad g 38) 28 = v5525 := by rw [eI5659, pp_ne _ _ (Or.inr (by decide))]; exact e5645
                  have e5674 : I5659 (ad g 46) 0 = v5543 := by rw [eI5659, pp_ne _ _ (Or.inl (ly_ne hy (by decide) (by decide) (by decide)))]; exact e5646
                  have e5675 : I5659 (ad g 47) 0 = v5562 := by rw [eI5659, pp_ne _ _ (Or.inl (ly_ne hy (by decide) (by decide) (by decide)))]; exact e5647
                  have e5676 : I5659 (ad g 38) 29 = v5587 := by rw [eI5659, pp_ne _ _ (Or.inr (by decide))]; exact e5648
                  have e5677 : I5659 (ad g 46) 1 = v5608 := by rw [eI5659, pp_ne _ _ (Or.inl (ly_ne hy (by decide) (by decide) (by decide)))]; exact e5649
                  have e5678 : I5659 (ad g 47) 1 = v5630 := by rw [eI5659, pp_ne _ _ (Or.inl (ly_ne hy (by decide) (by decide) (by decide)))]; exact e5650
                  have e5679 : I5659 (ad g 38) 30 = v5658 := by rw [eI5659, pp_self]
                  have fI5680 : FC g [0, 6, 7, 8, 9, 10, 11, 12, 13, 14, 15, 16, 17, 18, 19, 20, 21, 22, 23, 24, 25, 26, 27, 28, 29, 30, 31, 32, 33, 34, 37, 38, 44, 46, 47] I I5659 := by rw [eI5659]; exact FC_pp fI5651 (by decide)
                  have fQ5681 : FQ g [1, 2, 3, 4, 5, 6, 7, 8, 9, 10, 11, 12, 13, 14, 15, 16, 17, 18, 19, 51, 68] I I5659 := by rw [eI5659]; exact FQ_ppn (ly_ne hy (by decide) (by decide) (by decide)) fQ5652
                  refine WP_aload_n dX11_town_303 rfl ?_
                  refine WP_getr dX11_town_304 fX11_310 rfl (ly_is hy 0 11 rfl) (rf hr 0 71 46 (by decide)) ?_
                  refine WP_iload_n dX11_town_307 rfl ?_
                  refine WQ_iconst (0) (0) dX11_town_308 rfl rfl (fun v5682 hv5682 => ?_)
                  refine WE_is dX11_town_309 (ly_is hy 46 13 rfl) (ly_n hy 46 4 rfl) (by omega) (by omega) (fun I5683 eI5683 => ?_)
                  rw [show v5653.toInt.toNat = 2 by omega] at eI5683
                  have e5684 : I5683 (ad g 0) 1 = w3407 := by rw [eI5683, pp_ne _ _ (Or.inl (ly_ne hy (by decide) (by decide) (by decide)))]; exact e5660
                  have e5685 : I5683 (ad g 0) 8 = w3421 := by rw [eI5683, pp_ne _ _ (Or.inl (ly_ne hy (by decide) (by decide) (by decide)))]; exact e5661
                  have e5686 : I5683 (ad g 0) 9 = w3422 := by rw [eI5683, pp_ne _ _ (Or.inl (ly_ne hy (by decide) (by decide) (by decide)))]; exact e5662
                  have e5687 : I5683 (ad g 0) 15 = w3424 := by rw [eI5683, pp_ne _ _ (Or.inl (ly_ne hy (by decide) (by decide) (by decide)))]; exact e5663
                  have e5688 : I5683 (ad g 0) 10 = w3424 := by rw [eI5683, pp_ne _ _ (Or.inl (ly_ne hy (by decide) (by decide) (by decide)))]; exact e5664
                  have e5689 : I5683 (ad g 0) 16 = w3433 := by rw [eI5683, pp_ne _ _ (Or.inl (ly_ne hy (by decide) (by decide) (by decide)))]; exact e5665
                  have e5690 : I5683 (ad g 0) 11 = w3433 := by rw [eI5683, pp_ne _ _ (Or.inl (ly_ne hy (by decide) (by decide) (by decide)))]; exact e5666
                  have e5691 : I5683 (ad g 0) 17 = w3444 := by rw [eI5683, pp_ne _ _ (Or.inl (ly_ne hy (by decide) (by decide) (by decide)))]; exact e5667
                  have e5692 : I5683 (ad g 0) 13 = w3444 := by rw [eI5683, pp_ne _ _ (Or.inl (ly_ne hy (by decide) (by decide) (by decide)))]; exact e5668
                  have e5693 : I5683 (ad g 0) 18 = w3457 := by rw [eI5683, pp_ne _ _ (Or.inl (ly_ne hy (by decide) (by decide) (by decide)))]; exact e5669
                  have e5694 : I5683 (ad g 0) 14 = w3457 := by rw [eI5683, pp_ne _ _ (Or.inl (ly_ne hy (by decide) (by decide) (by decide)))]; exact e5670
                  have e5695 : I5683 (ad g 0) 19 = w5183 := by rw [eI5683, pp_ne _ _ (Or.inl (ly_ne hy (by decide) (by decide) (by decide)))]; exact e5671
                  have e5696 : I5683 (ad g 0) 12 = w5183 := by rw [eI5683, pp_ne _ _ (Or.inl (ly_ne hy (by decide) (by decide) (by decide)))]; exact e5672
                  have e5697 : I5683 (ad g 38) 28 = v5525 := by rw [eI5683, pp_ne _ _ (Or.inl (ly_ne hy (by decide) (by decide) (by decide)))]; exact e5673
                  have e5698 : I5683 (ad g 46) 0 = v5543 := by rw [eI5683, pp_ne _ _ (Or.inr (by decide))]; exact e5674
                  have e5699 : I5683 (ad g 47) 0 = v5562 := by rw [eI5683, pp_ne _ _ (Or.inl (ly_ne hy (by decide) (by decide) (by decide)))]; exact e5675
                  have e5700 : I5683 (ad g 38) 29 = v5587 := by rw [eI5683, pp_ne _ _ (Or.inl (ly_ne hy (by decide) (by decide) (by decide)))]; exact e5676
                  have e5701 : I5683 (ad g 46) 1 = v5608 := by rw [eI5683, pp_ne _ _ (Or.inr (by decide))]; exact e5677
                  have e5702 : I5683 (ad g 47) 1 = v5630 := by rw [eI5683, pp_ne _ _ (Or.inl (ly_ne hy (by decide) (by decide) (by decide)))]; exact e5678
                  have e5703 : I5683 (ad g 38) 30 = v5658 := by rw [eI5683, pp_ne _ _ (Or.inl (ly_ne hy (by decide) (by decide) (by decide)))]; exact e5679
                  have e5704 : I5683 (ad g 46) 2 = v5682 := by rw [eI5683, pp_self]
                  have fI5705 : FC g [0, 6, 7, 8, 9, 10, 11, 12, 13, 14, 15, 16, 17, 18, 19, 20, 21, 22, 23, 24, 25, 26, 27, 28, 29, 30, 31, 32, 33, 34, 37, 38, 44, 46, 47] I I5683 := by rw [eI5683]; exact FC_pp fI5680 (by decide)
                  have fQ5706 : FQ g [1, 2, 3, 4, 5, 6, 7, 8, 9, 10, 11, 12, 13, 14, 15, 16, 17, 18, 19, 51, 68] I I5683 := by rw [eI5683]; exact FQ_ppn (ly_ne hy (by decide) (by decide) (by decide)) fQ5681
                  refine WP_aload_n dX11_town_310 rfl ?_
                  refine WP_getr dX11_town_311 fX11_313 rfl (ly_is hy 0 11 rfl) (rf hr 0 72 47 (by decide)) ?_
                  refine WP_iload_n dX11_town_314 rfl ?_
                  refine WQ_iconst (0) (0) dX11_town_315 rfl rfl (fun v5707 hv5707 => ?_)
                  refine WE_is dX11_town_316 (ly_is hy 47 13 rfl) (ly_n hy 47 4 rfl) (by omega) (by omega) (fun I5708 eI5708 => ?_)
                  rw [show v5653.toInt.toNat = 2 by omega] at eI5708
                  have e5709 : I5708 (ad g 0) 1 = w3407 := by rw [eI5708, pp_ne _ _ (Or.inl (ly_ne hy (by decide) (by decide) (by decide)))]; exact e5684
                  have e5710 : I5708 (ad g 0) 8 = w3421 := by rw [eI5708, pp_ne _ _ (Or.inl (ly_ne hy (by decide) (by decide) (by decide)))]; exact e5685
                  have e5711 : I5708 (ad g 0) 9 = w3422 := by rw [eI5708, pp_ne _ _ (Or.inl (ly_ne hy (by decide) (by decide) (by decide)))]; exact e5686
                  have e5712 : I5708 (ad g 0) 15 = w3424 := by rw [eI5708, pp_ne _ _ (Or.inl (ly_ne hy (by decide) (by decide) (by decide)))]; exact e5687
                  have e5713 : I5708 (ad g 0) 10 = w3424 := by rw [eI5708, pp_ne _ _ (Or.inl (ly_ne hy (by decide) (by decide) (by decide)))]; exact e5688
                  have e5714 : I5708 (ad g 0) 16 = w3433 := by rw [eI5708, pp_ne _ _ (Or.inl (ly_ne hy (by decide) (by decide) (by decide)))]; exact e5689
                  have e5715 : I5708 (ad g 0) 11 = w3433 := by rw [eI5708, pp_ne _ _ (Or.inl (ly_ne hy (by decide) (by decide) (by decide)))]; exact e5690
                  have e5716 : I5708 (ad g 0) 17 = w3444 := by rw [eI5708, pp_ne _ _ (Or.inl (ly_ne hy (by decide) (by decide) (by decide)))]; exact e5691
                  have e5717 : I5708 (ad g 0) 13 = w3444 := by rw [eI5708, pp_ne _ _ (Or.inl (ly_ne hy (by decide) (by decide) (by decide)))]; exact e5692
                  have e5718 : I5708 (ad g 0) 18 = w3457 := by rw [eI5708, pp_ne _ _ (Or.inl (ly_ne hy (by decide) (by decide) (by decide)))]; exact e5693
                  have e5719 : I5708 (ad g 0) 14 = w3457 := by rw [eI5708, pp_ne _ _ (Or.inl (ly_ne hy (by decide) (by decide) (by decide)))]; exact e5694
                  have e5720 : I5708 (ad g 0) 19 = w5183 := by rw [eI5708, pp_ne _ _ (Or.inl (ly_ne hy (by decide) (by decide) (by decide)))]; exact e5695
                  have e5721 : I5708 (ad g 0) 12 = w5183 := by rw [eI5708, pp_ne _ _ (Or.inl (ly_ne hy (by decide) (by decide) (by decide)))]; exact e5696
                  have e5722 : I5708 (ad g 38) 28 = v5525 := by rw [eI5708, pp_ne _ _ (Or.inl (ly_ne hy (by decide) (by decide) (by decide)))]; exact e5697
                  have e5723 : I5708 (ad g 46) 0 = v5543 := by rw [eI5708, pp_ne _ _ (Or.inl (ly_ne hy (by decide) (by decide) (by decide)))]; exact e5698
                  have e5724 : I5708 (ad g 47) 0 = v5562 := by rw [eI5708, pp_ne _ _ (Or.inr (by decide))]; exact e5699
                  have e5725 : I5708 (ad g 38) 29 = v5587 := by rw [eI5708, pp_ne _ _ (Or.inl (ly_ne hy (by decide) (by decide) (by decide)))]; exact e5700
                  have e5726 : I5708 (ad g 46) 1 = v5608 := by rw [eI5708, pp_ne _ _ (Or.inl (ly_ne hy (by decide) (by decide) (by decide)))]; exact e5701
                  have e5727 : I5708 (ad g 47) 1 = v5630 := by rw [eI5708, pp_ne _ _ (Or.inr (by decide))]; exact e5702
                  have e5728 : I5708 (ad g 38) 30 = v5658 := by rw [eI5708, pp_ne _ _ (Or.inl (ly_ne hy (by decide) (by decide) (by decide)))]; exact e5703
                  have e5729 : I5708 (ad g 46) 2 = v5682 := by rw [eI5708, pp_ne _ _ (Or.inl (ly_ne hy (by decide) (by decide) (by decide)))]; exact e5704
                  have e5730 : I5708 (ad g 47) 2 = v5707 := by rw [eI5708, pp_self]
                  have fI5731 : FC g [0, 6, 7, 8, 9, 10, 11, 12, 13, 14, 15, 16, 17, 18, 19, 20, 21, 22, 23, 24, 25, 26, 27, 28, 29, 30, 31, 32, 33, 34, 37, 38, 44, 46, 47] I I5708 := by rw [eI5708]; exact FC_pp fI5705 (by decide)
                  have fQ5732 : FQ g [1, 2, 3, 4, 5, 6, 7, 8, 9, 10, 11, 12, 13, 14, 15, 16, 17, 18, 19, 51, 68] I I5708 := by rw [eI5708]; exact FQ_ppn (ly_ne hy (by decide) (by decide) (by decide)) fQ5706
                  refine WP_iinc (ls' := [(0, _), (1, _)]) dX11_town_317 rfl (by decide) rfl ?_
                  have hv5733 : (v5653 + Int32.ofInt (1)).toInt = v5653.toInt + (1) := ia_n rfl (by omega) (by omega)
                  generalize v5653 + Int32.ofInt (1) = v5733 at hv5733 ⊢
                  have kv5733 : v5733.toInt = 3 := by omega
                  clear hv5733; have hv5733 := kv5733; clear kv5733
                  refine WP_goto 288 dX11_town_320 rfl ?_
                  refine WP_iload_n dX11_town_288 rfl ?_
                  refine WQ_iconst (4) (4) dX11_town_289 rfl rfl (fun v5734 hv5734 => ?_)
                  refine WQ_icmp_ge 323 dX11_town_290 rfl (fun c5734 => False.elim (by omega)) (fun c5734 => ?_)
                  refine WP_aload_n dX11_town_293 rfl ?_
                  refine WP_getr dX11_town_294 fX11_283 rfl (ly_is hy 0 11 rfl) (rf hr 0 59 38 (by decide)) ?_
                  refine WQ_bipush (28) (28) dX11_town_297 rfl rfl (fun v5736 hv5736 => ?_)
                  refine WP_iload_n dX11_town_299 rfl ?_
                  refine WQ_iadd dX11_town_300 (by omega) (by omega) (fun v5737 hv5737 => ?_)
                  have kv5737 : v5737.toInt = 31 := by omega
                  clear hv5737; have hv5737 := kv5737; clear kv5737
                  refine WQ_iconst (1) (1) dX11_town_301 rfl rfl (fun v5738 hv5738 => ?_)
                  refine WE_is dX11_town_302 (ly_is hy 38 13 rfl) (ly_n hy 38 35 rfl) (by omega) (by omega) (fun I5739 eI5739 => ?_)
                  rw [show v5737.toInt.toNat = 31 by omega] at eI5739
                  have e5740 : I5739 (ad g 0) 1 = w3407 := by rw [eI5739, pp_ne _ _ (Or.inl (ly_ne hy (by decide) (by decide) (by decide)))]; exact e5709
                  have e5741 : I5739 (ad g 0) 8 = w3421 := by rw [eI5739, pp_ne _ _ (Or.inl (ly_ne hy (by decide) (by decide) (by decide)))]; exact e5710
                  have e5742 : I5739 (ad g 0) 9 = w3422 := by rw [eI5739, pp_ne _ _ (Or.inl (ly_ne hy (by decide) (by decide) (by decide)))]; exact e5711
                  have e5743 : I5739 (ad g 0) 15 = w3424 := by rw [eI5739, pp_ne _ _ (Or.inl (ly_ne hy (by decide) (by decide) (by decide)))]; exact e5712
                  have e5744 : I5739 (ad g 0) 10 = w3424 := by rw [eI5739, pp_ne _ _ (Or.inl (ly_ne hy (by decide) (by decide) (by decide)))]; exact e5713
                  have e5745 : I5739 (ad g 0) 16 = w3433 := by rw [eI5739, pp_ne _ _ (Or.inl (ly_ne hy (by decide) (by decide) (by decide)))]; exact e5714
                  have e5746 : I5739 (ad g 0) 11 = w3433 := by rw [eI5739, pp_ne _ _ (Or.inl (ly_ne hy (by decide) (by decide) (by decide)))]; exact e5715
                  have e5747 : I5739 (ad g 0) 17 = w3444 := by rw [eI5739, pp_ne _ _ (Or.inl (ly_ne hy (by decide) (by decide) (by decide)))]; exact e5716
                  have e5748 : I5739 (ad g 0) 13 = w3444 := by rw [eI5739, pp_ne _ _ (Or.inl (ly_ne hy (by decide) (by decide) (by decide)))]; exact e5717
                  have e5749 : I5739 (ad g 0) 18 = w3457 := by rw [eI5739, pp_ne _ _ (Or.inl (ly_ne hy (by decide) (by decide) (by decide)))]; exact e5718
                  have e5750 : I5739 (ad g 0) 14 = w3457 := by rw [eI5739, pp_ne _ _ (Or.inl (ly_ne hy (by decide) (by decide) (by decide)))]; exact e5719
                  have e5751 : I5739 (ad g 0) 19 = w5183 := by rw [eI5739, pp_ne _ _ (Or.inl (ly_ne hy (by decide) (by decide) (by decide)))]; exact e5720
                  have e5752 : I5739 (ad g 0) 12 = w5183 := by rw [eI5739, pp_ne _ _ (Or.inl (ly_ne hy (by decide) (by decide) (by decide)))]; exact e5721
                  have e5753 : I5739 (ad g 38) 28 = v5525 := by rw [eI5739, pp_ne _ _ (Or.inr (by decide))]; exact e5722
                  have e5754 : I5739 (ad g 46) 0 = v5543 := by rw [eI5739, pp_ne _ _ (Or.inl (ly_ne hy (by decide) (by decide) (by decide)))]; exact e5723
                  have e5755 : I5739 (ad g 47) 0 = v5562 := by rw [eI5739, pp_ne _ _ (Or.inl (ly_ne hy (by decide) (by decide) (by decide)))]; exact e5724
                  have e5756 : I5739 (ad g 38) 29 = v5587 := by rw [eI5739, pp_ne _ _ (Or.inr (by decide))]; exact e5725
                  have e5757 : I5739 (ad g 46) 1 = v5608 := by rw [eI5739, pp_ne _ _ (Or.inl (ly_ne hy (by decide) (by decide) (by decide)))]; exact e5726
                  have e5758 : I5739 (ad g 47) 1 = v5630 := by rw [eI5739, pp_ne _ _ (Or.inl (ly_ne hy (by decide) (by decide) (by decide)))]; exact e5727
                  have e5759 : I5739 (ad g 38) 30 = v5658 := by rw [eI5739, pp_ne _ _ (Or.inr (by decide))]; exact e5728
                  have e5760 : I5739 (ad g 46) 2 = v5682 := by rw [eI5739, pp_ne _ _ (Or.inl (ly_ne hy (by decide) (by decide) (by decide)))]; exact e5729
                  have e5761 : I5739 (ad g 47) 2 = v5707 := by rw [eI5739, pp_ne _ _ (Or.inl (ly_ne hy (by decide) (by decide) (by decide)))]; exact e5730
                  have e5762 : I5739 (ad g 38) 31 = v5738 := by rw [eI5739, pp_self]
                  have fI5763 : FC g [0, 6, 7, 8, 9, 10, 11, 12, 13, 14, 15, 16, 17, 18, 19, 20, 21, 22, 23, 24, 25, 26, 27, 28, 29, 30, 31, 32, 33, 34, 37, 38, 44, 46, 47] I I5739 := by rw [eI5739]; exact FC_pp fI5731 (by decide)
                  have fQ5764 : FQ g [1, 2, 3, 4, 5, 6, 7, 8, 9, 10, 11, 12, 13, 14, 15, 16, 17, 18, 19, 51, 68] I I5739 := by rw [eI5739]; exact FQ_ppn (ly_ne hy (by decide) (by decide) (by decide)) fQ5732
                  refine WP_aload_n dX11_town_303 rfl ?_
                  refine WP_getr dX11_town_304 fX11_310 rfl (ly_is hy 0 11 rfl) (rf hr 0 71 46 (by decide)) ?_
                  refine WP_iload_n dX11_town_307 rfl ?_
                  refine WQ_iconst (0) (0) dX11_town_308 rfl rfl (fun v5765 hv5765 => ?_)
                  refine WE_is dX11_town_309 (ly_is hy 46 13 rfl) (ly_n hy 46 4 rfl) (by omega) (by omega) (fun I5766 eI5766 => ?_)
                  rw [show v5733.toInt.toNat = 3 by omega] at eI5766
                  have e5767 : I5766 (ad g 0) 1 = w3407 := by rw [eI5766, pp_ne _ _ (Or.inl (ly_ne hy (by decide) (by decide) (by decide)))]; exact e5740
                  have e5768 : I5766 (ad g 0) 8 = w3421 := by rw [eI5766, pp_ne _ _ (Or.inl (ly_ne hy (by decide) (by decide) (by decide)))]; exact e5741
                  have e5769 : I5766 (ad g 0) 9 = w3422 := by rw [eI5766, pp_ne _ _ (Or.inl (ly_ne hy (by decide) (by decide) (by decide)))]; exact e5742
                  have e5770 : I5766 (ad g 0) 15 = w3424 := by rw [eI5766, pp_ne _ _ (Or.inl (ly_ne hy (by decide) (by decide) (by decide)))]; exact e5743
                  have e5771 : I5766 (ad g 0) 10 = w3424 := by rw [eI5766, pp_ne _ _ (Or.inl (ly_ne hy (by decide) (by decide) (by decide)))]; exact e5744
                  have e5772 : I5766 (ad g 0) 16 = w3433 := by rw [eI5766, pp_ne _ _ (Or.inl (ly_ne hy (by decide) (by decide) (by decide)))]; exact e5745
                  have e5773 : I5766 (ad g 0) 11 = w3433 := by rw [eI5766, pp_ne _ _ (Or.inl (ly_ne hy (by decide) (by decide) (by decide)))]; exact e5746
                  have e5774 : I5766 (ad g 0) 17 = w3444 := by rw [eI5766, pp_ne _ _ (Or.inl (ly_ne hy (by decide) (by decide) (by decide)))]; exact e5747
                  have e5775 : I5766 (ad g 0) 13 = w3444 := by rw [eI5766, pp_ne _ _ (Or.inl (ly_ne hy (by decide) (by decide) (by decide)))]; exact e5748
                  have e5776 : I5766 (ad g 0) 18 = w3457 := by rw [eI5766, pp_ne _ _ (Or.inl (ly_ne hy (by decide) (by decide) (by decide)))]; exact e5749
                  have e5777 : I5766 (ad g 0) 14 = w3457 := by rw [eI5766, pp_ne _ _ (Or.inl (ly_ne hy (by decide) (by decide) (by decide)))]; exact e5750
                  have e5778 : I5766 (ad g 0) 19 = w5183 := by rw [eI5766, pp_ne _ _ (Or.inl (ly_ne hy (by decide) (by decide) (by decide)))]; exact e5751
                  have e5779 : I5766 (ad g 0) 12 = w5183 := by rw [eI5766, pp_ne _ _ (Or.inl (ly_ne hy (by decide) (by decide) (by decide)))]; exact e5752
                  have e5780 : I5766 (ad g 38) 28 = v5525 := by rw [eI5766, pp_ne _ _ (Or.inl (ly_ne hy (by decide) (by decide) (by decide)))]; exact e5753
                  have e5781 : I5766 (ad g 46) 0 = v5543 := by rw [eI5766, pp_ne _ _ (Or.inr (by decide))]; exact e5754
                  have e5782 : I5766 (ad g 47) 0 = v5562 := by rw [eI5766, pp_ne _ _ (Or.inl (ly_ne hy (by decide) (by decide) (by decide)))]; exact e5755
                  have e5783 : I5766 (ad g 38) 29 = v5587 := by rw [eI5766, pp_ne _ _ (Or.inl (ly_ne hy (by decide) (by decide) (by decide)))]; exact e5756
                  have e5784 : I5766 (ad g 46) 1 = v5608 := by rw [eI5766, pp_ne _ _ (Or.inr (by decide))]; exact e5757
                  have e5785 : I5766 (ad g 47) 1 = v5630 := by rw [eI5766, pp_ne _ _ (Or.inl (ly_ne hy (by decide) (by decide) (by decide)))]; exact e5758
                  have e5786 : I5766 (ad g 38) 30 = v5658 := by rw [eI5766, pp_ne _ _ (Or.inl (ly_ne hy (by decide) (by decide) (by decide)))]; exact e5759
                  have e5787 : I5766 (ad g 46) 2 = v5682 := by rw [eI5766, pp_ne _ _ (Or.inr (by decide))]; exact e5760
                  have e5788 : I5766 (ad g 47) 2 = v5707 := by rw [eI5766, pp_ne _ _ (Or.inl (ly_ne hy (by decide) (by decide) (by decide)))]; exact e5761
                  have e5789 : I5766 (ad g 38) 31 = v5738 := by rw [eI5766, pp_ne _ _ (Or.inl (ly_ne hy (by decide) (by decide) (by decide)))]; exact e5762
                  have e5790 : I5766 (ad g 46) 3 = v5765 := by rw [eI5766, pp_self]
                  have fI5791 : FC g [0, 6, 7, 8, 9, 10, 11, 12, 13, 14, 15, 16, 17, 18, 19, 20, 21, 22, 23, 24, 25, 26, 27, 28, 29, 30, 31, 32, 33, 34, 37, 38, 44, 46, 47] I I5766 := by rw [eI5766]; exact FC_pp fI5763 (by decide)
                  have fQ5792 : FQ g [1, 2, 3, 4, 5, 6, 7, 8, 9, 10, 11, 12, 13, 14, 15, 16, 17, 18, 19, 51, 68] I I5766 := by rw [eI5766]; exact FQ_ppn (ly_ne hy (by decide) (by decide) (by decide)) fQ5764
                  refine WP_aload_n dX11_town_310 rfl ?_
                  refine WP_getr dX11_town_311 fX11_313 rfl (ly_is hy 0 11 rfl) (rf hr 0 72 47 (by decide)) ?_
                  refine WP_iload_n dX11_town_314 rfl ?_
                  refine WQ_iconst (0) (0) dX11_town_315 rfl rfl (fun v5793 hv5793 => ?_)
                  refine WE_is dX11_town_316 (ly_is hy 47 13 rfl) (ly_n hy 47 4 rfl) (by omega) (by omega) (fun I5794 eI5794 => ?_)
                  rw [show v5733.toInt.toNat = 3 by omega] at eI5794
                  have e5795 : I5794 (ad g 0) 1 = w3407 := by rw [eI5794, pp_ne _ _ (Or.inl (ly_ne hy (by decide) (by decide) (by decide)))]; exact e5767
                  have e5796 : I5794 (ad g 0) 8 = w3421 := by rw [eI5794, pp_ne _ _ (Or.inl (ly_ne hy (by decide) (by decide) (by decide)))]; exact e5768
                  have e5797 : I5794 (ad g 0) 9 = w3422 := by rw [eI5794, pp_ne _ _ (Or.inl (ly_ne hy (by decide) (by decide) (by decide)))]; exact e5769
                  have e5798 : I5794 (ad g 0) 15 = w3424 := by rw [eI5794, pp_ne _ _ (Or.inl (ly_ne hy (by decide) (by decide) (by decide)))]; exact e5770
                  have e5799 : I5794 (ad g 0) 10 = w3424 := by rw [eI5794, pp_ne _ _ (Or.inl (ly_ne hy (by decide) (by decide) (by decide)))]; exact e5771
                  have e5800 : I5794 (ad g 0) 16 = w3433 := by rw [eI5794, pp_ne _ _ (Or.inl (ly_ne hy (by decide) (by decide) (by decide)))]; exact e5772
                  have e5801 : I5794 (ad g 0) 11 = w3433 := by rw [eI5794, pp_ne _ _ (Or.inl (ly_ne hy (by decide) (by decide) (by decide)))]; exact e5773
                  have e5802 : I5794 (ad g 0) 17 = w3444 := by rw [eI5794, pp_ne _ _ (Or.inl (ly_ne hy (by decide) (by decide) (by decide)))]; exact e5774
                  have e5803 : I5794 (ad g 0) 13 = w3444 := by rw [eI5794, pp_ne _ _ (Or.inl (ly_ne hy (by decide) (by decide) (by decide)))]; exact e5775
                  have e5804 : I5794 (ad g 0) 18 = w3457 := by rw [eI5794, pp_ne _ _ (Or.inl (ly_ne hy (by decide) (by decide) (by decide)))]; exact e5776
                  have e5805 : I5794 (ad g 0) 14 = w3457 := by rw [eI5794, pp_ne _ _ (Or.inl (ly_ne hy (by decide) (by decide) (by decide)))]; exact e5777
                  have e5806 : I5794 (ad g 0) 19 = w5183 := by rw [eI5794, pp_ne _ _ (Or.inl (ly_ne hy (by decide) (by decide) (by decide)))]; exact e5778
                  have e5807 : I5794 (ad g 0) 12 = w5183 := by rw [eI5794, pp_ne _ _ (Or.inl (ly_ne hy (by decide) (by decide) (by decide)))]; exact e5779
                  have e5808 : I5794 (ad g 38) 28 = v5525 := by rw [eI5794, pp_ne _ _ (Or.inl (ly_ne hy (by decide) (by decide) (by decide)))]; exact e5780
                  have e5809 : I5794 (ad g 46) 0 = v5543 := by rw [eI5794, pp_ne _ _ (Or.inl (ly_ne hy (by decide) (by decide) (by decide)))]; exact e5781
                  have e5810 : I5794 (ad g 47) 0 = v5562 := by rw [eI5794, pp_ne _ _ (Or.inr (by decide))]; exact e5782
                  have e5811 : I5794 (ad g 38) 29 = v5587 := by rw [eI5794, pp_ne _ _ (Or.inl (ly_ne hy (by decide) (by decide) (by decide)))]; exact e5783
                  have e5812 : I5794 (ad g 46) 1 = v5608 := by rw [eI5794, pp_ne _ _ (Or.inl (ly_ne hy (by decide) (by decide) (by decide)))]; exact e5784
                  have e5813 : I5794 (ad g 47) 1 = v5630 := by rw [eI5794, pp_ne _ _ (Or.inr (by decide))]; exact e5785
                  have e5814 : I5794 (ad g 38) 30 = v5658 := by rw [eI5794, pp_ne _ _ (Or.inl (ly_ne hy (by decide) (by decide) (by decide)))]; exact e5786
                  have e5815 : I5794 (ad g 46) 2 = v5682 := by rw [eI5794, pp_ne _ _ (Or.inl (ly_ne hy (by decide) (by decide) (by decide)))]; exact e5787
                  have e5816 : I5794 (ad g 47) 2 = v5707 := by rw [eI5794, pp_ne _ _ (Or.inr (by decide))]; exact e5788
                  have e5817 : I5794 (ad g 38) 31 = v5738 := by rw [eI5794, pp_ne _ _ (Or.inl (ly_ne hy (by decide) (by decide) (by decide)))]; exact e5789
                  have e5818 : I5794 (ad g 46) 3 = v5765 := by rw [eI5794, pp_ne _ _ (Or.inl (ly_ne hy (by decide) (by decide) (by decide)))]; exact e5790
                  have e5819 : I5794 (ad g 47) 3 = v5793 := by rw [eI5794, pp_self]
                  have fI5820 : FC g [0, 6, 7, 8, 9, 10, 11, 12, 13, 14, 15, 16, 17, 18, 19, 20, 21, 22, 23, 24, 25, 26, 27, 28, 29, 30, 31, 32, 33, 34, 37, 38, 44, 46, 47] I I5794 := by rw [eI5794]; exact FC_pp fI5791 (by decide)
                  have fQ5821 : FQ g [1, 2, 3, 4, 5, 6, 7, 8, 9, 10, 11, 12, 13, 14, 15, 16, 17, 18, 19, 51, 68] I I5794 := by rw [eI5794]; exact FQ_ppn (ly_ne hy (by decide) (by decide) (by decide)) fQ5792
                  refine WP_iinc (ls' := [(0, _), (1, _)]) dX11_town_317 rfl (by decide) rfl ?_
                  have hv5822 : (v5733 + Int32.ofInt (1)).toInt = v5733.toInt + (1) := ia_n rfl (by omega) (by omega)
                  generalize v5733 + Int32.ofInt (1) = v5822 at hv5822 ⊢
                  have kv5822 : v5822.toInt = 4 := by omega
                  clear hv5822; have hv5822 := kv5822; clear kv5822
                  refine WP_goto 288 dX11_town_320 rfl ?_
                  refine WP_iload_n dX11_town_288 rfl ?_
                  refine WQ_iconst (4) (4) dX11_town_289 rfl rfl (fun v5823 hv5823 => ?_)
                  refine WQ_icmp_ge 323 dX11_town_290 rfl (fun c5823 => ?_) (fun c5823 => False.elim (by omega))
                  have d10b : ∀ q, q < 4 → I5794 (ad g 10) q = I3412 (ad g 16) q := fun q hq => by rw [eI5794, pp_off _ _ (ly_ne hy (by decide) (by decide) (by decide)), eI5766, pp_off _ _ (ly_ne hy (by decide) (by decide) (by decide)), eI5739, pp_off _ _ (ly_ne hy (by decide) (by decide) (by decide)), eI5708, pp_off _ _ (ly_ne hy (by decide) (by decide) (by decide)), eI5683, pp_off _ _ (ly_ne hy (by decide) (by decide) (by decide)), eI5659, pp_off _ _ (ly_ne hy (by decide) (by decide) (by decide)), eI5631, pp_off _ _ (ly_ne hy (by decide) (by decide) (by decide)), eI5609, pp_off _ _ (ly_ne hy (by decide) (by decide) (by decide)), eI5588, pp_off _ _ (ly_ne hy (by decide) (by decide) (by decide)), eI5563, pp_off _ _ (ly_ne hy (by decide) (by decide) (by decide)), eI5544, pp_off _ _ (ly_ne hy (by decide) (by decide) (by decide)), eI5526, pp_off _ _ (ly_ne hy (by decide) (by decide) (by decide)), FC_at hy g5501 10 (by decide) (by decide), FC_at hy g5479 10 (by decide) (by decide), FC_at hy g5457 10 (by decide) (by decide), FC_at hy g5435 10 (by decide) (by decide), FC_at hy g5413 10 (by decide) (by decide), FC_at hy g5391 10 (by decide) (by decide), FC_at hy g5369 10 (by decide) (by decide), FC_at hy g5347 10 (by decide) (by decide), FC_at hy g5325 10 (by decide) (by decide), FC_at hy g5303 10 (by decide) (by decide)]; exact d10 q hq
                  refine WP_aload_n dX11_town_323 rfl ?_
                  refine WP_aload_n dX11_town_324 rfl ?_
                  refine WP_getr dX11_town_325 fX11_283 rfl (ly_is hy 0 11 rfl) (rf hr 0 59 38 (by decide)) ?_
                  refine WP_callV1 (k := 11) dX11_town_328 ⟨⟨⟨by decide, by decide⟩, zX11_begin⟩, lX11_342, by decide, rfl, vX11_begin.1, vX11_begin.2⟩ (ly_is hy 0 11 rfl) (em_begin38 hy hr   (mm := S2.1 0 1) (by rw [e5799]; exact hR.1.1) ⟨hb1, hb2⟩) (Nat.le_of_ble_eq_true rfl) ?_
                  intro r I5826 J5827 Ra hq
                  obtain ⟨ec, g5828, g5829, g5830, er, p5825⟩ := hq
                  rw [ec, er]
                  clear ec er Ra r
                  have e5831 : I5826 (ad g 0) 1 = w3407 := by rw [FC_at hy g5828 0 (by decide) (by decide)]; exact e5795
                  have e5832 : I5826 (ad g 0) 8 = w3421 := by rw [FC_at hy g5828 0 (by decide) (by decide)]; exact e5796
                  have e5833 : I5826 (ad g 0) 9 = w3422 := by rw [FC_at hy g5828 0 (by decide) (by decide)]; exact e5797
                  have e5834 : I5826 (ad g 0) 15 = w3424 := by rw [FC_at hy g5828 0 (by decide) (by decide)]; exact e5798
                  have e5835 : I5826 (ad g 0) 10 = w3424 := by rw [FC_at hy g5828 0 (by decide) (by decide)]; exact e5799
                  have e5836 : I5826 (ad g 0) 16 = w3433 := by rw [FC_at hy g5828 0 (by decide) (by decide)]; exact e5800
                  have e5837 : I5826 (ad g 0) 11 = w3433 := by rw [FC_at hy g5828 0 (by decide) (by decide)]; exact e5801
                  have e5838 : I5826 (ad g 0) 17 = w3444 := by rw [FC_at hy g5828 0 (by decide) (by decide)]; exact e5802
                  have e5839 : I5826 (ad g 0) 13 = w3444 := by rw [FC_at hy g5828 0 (by decide) (by decide)]; exact e5803
                  have e5840 : I5826 (ad g 0) 18 = w3457 := by rw [FC_at hy g5828 0 (by decide) (by decide)]; exact e5804
                  have e5841 : I5826 (ad g 0) 14 = w3457 := by rw [FC_at hy g5828 0 (by decide) (by decide)]; exact e5805
                  have e5842 : I5826 (ad g 0) 19 = w5183 := by rw [FC_at hy g5828 0 (by decide) (by decide)]; exact e5806
                  have e5843 : I5826 (ad g 0) 12 = w5183 := by rw [FC_at hy g5828 0 (by decide) (by decide)]; exact e5807
                  have e5844 : I5826 (ad g 46) 0 = v5543 := by rw [FC_at hy g5828 46 (by decide) (by decide)]; exact e5809
                  have e5845 : I5826 (ad g 47) 0 = v5562 := by rw [FC_at hy g5828 47 (by decide) (by decide)]; exact e5810
                  have e5846 : I5826 (ad g 46) 1 = v5608 := by rw [FC_at hy g5828 46 (by decide) (by decide)]; exact e5812
                  have e5847 : I5826 (ad g 47) 1 = v5630 := by rw [FC_at hy g5828 47 (by decide) (by decide)]; exact e5813
                  have e5848 : I5826 (ad g 46) 2 = v5682 := by rw [FC_at hy g5828 46 (by decide) (by decide)]; exact e5815
                  have e5849 : I5826 (ad g 47) 2 = v5707 := by rw [FC_at hy g5828 47 (by decide) (by decide)]; exact e5816
                  have e5850 : I5826 (ad g 46) 3 = v5765 := by rw [FC_at hy g5828 46 (by decide) (by decide)]; exact e5818
                  have e5851 : I5826 (ad g 47) 3 = v5793 := by rw [FC_at hy g5828 47 (by decide) (by decide)]; exact e5819
                  have fI5852 : FC g [0, 6, 7, 8, 9, 10, 11, 12, 13, 14, 15, 16, 17, 18, 19, 20, 21, 22, 23, 24, 25, 26, 27, 28, 29, 30, 31, 32, 33, 34, 37, 38, 44, 46, 47] I I5826 := FC_tr fI5820 (FC_mono g5828 (by decide))
                  have fJ5853 : FC g [0, 2, 3, 4, 5] J J5827 := FC_tr fJ5518 (FC_mono g5829 (by decide))
                  have fQ5854 : FQ g [1, 2, 3, 4, 5, 6, 7, 8, 9, 10, 11, 12, 13, 14, 15, 16, 17, 18, 19, 51, 68] I I5826 := FQ_tr fQ5821 (FQ_mono g5830 (by decide))
                  try simp only [e5831, e5832, e5833, ew3395, ew3396, ew3397] at p5825
                  refine WP_aload_n dX11_town_331 rfl ?_
                  refine WP_lconst (0) dX11_town_332 rfl ?_
                  obtain ⟨l5855, hl5855, el5855⟩ : ∃ v : Int64, v.toInt = 0 ∧ (0 : Int64) = v := ⟨_, rfl, rfl⟩
                  rw [el5855]
                  refine WQ_putl dX11_town_333 fX11_346 rfl rfl (ly_is hy 0 11 rfl) (fun J5856 eJ5856 => ?_)
                  have e5857 : J5856 (ad g 0) 61 = l5855 := by rw [eJ5856, pp_self]
                  have fJ5858 : FC g [0, 2, 3, 4, 5] J J5856 := by rw [eJ5856]; exact FC_pp fJ5853 (by decide)
                  refine WP_aload_n dX11_town_336 rfl ?_
                  refine WP_callV0 (k := 11) dX11_town_337 ⟨⟨⟨by decide, by decide⟩, zX11_forgetWeeks⟩, lX11_350, by decide, rfl, vX11_forgetWeeks.1, vX11_forgetWeeks.2⟩ (ly_is hy 0 11 rfl) (em_forgetWeeks hy hr   ) (Nat.le_of_ble_eq_true rfl) ?_
                  intro r I5860 J5861 Ra hq
                  obtain ⟨ec, g5862, g5863, g5864, er, p5859⟩ := hq
                  rw [ec, er]
                  clear ec er Ra r
                  have e5865 : I5860 (ad g 0) 1 = w3407 := by rw [FC_at hy g5862 0 (by decide) (by decide)]; exact e5831
                  have e5866 : I5860 (ad g 0) 8 = w3421 := by rw [FC_at hy g5862 0 (by decide) (by decide)]; exact e5832
                  have e5867 : I5860 (ad g 0) 9 = w3422 := by rw [FC_at hy g5862 0 (by decide) (by decide)]; exact e5833
                  have e5868 : I5860 (ad g 0) 15 = w3424 := by rw [FC_at hy g5862 0 (by decide) (by decide)]; exact e5834
                  have e5869 : I5860 (ad g 0) 10 = w3424 := by rw [FC_at hy g5862 0 (by decide) (by decide)]; exact e5835
                  have e5870 : I5860 (ad g 0) 16 = w3433 := by rw [FC_at hy g5862 0 (by decide) (by decide)]; exact e5836
                  have e5871 : I5860 (ad g 0) 11 = w3433 := by rw [FC_at hy g5862 0 (by decide) (by decide)]; exact e5837
                  have e5872 : I5860 (ad g 0) 17 = w3444 := by rw [FC_at hy g5862 0 (by decide) (by decide)]; exact e5838
                  have e5873 : I5860 (ad g 0) 13 = w3444 := by rw [FC_at hy g5862 0 (by decide) (by decide)]; exact e5839
                  have e5874 : I5860 (ad g 0) 18 = w3457 := by rw [FC_at hy g5862 0 (by decide) (by decide)]; exact e5840
                  have e5875 : I5860 (ad g 0) 14 = w3457 := by rw [FC_at hy g5862 0 (by decide) (by decide)]; exact e5841
                  have e5876 : I5860 (ad g 0) 19 = w5183 := by rw [FC_at hy g5862 0 (by decide) (by decide)]; exact e5842
                  have e5877 : I5860 (ad g 0) 12 = w5183 := by rw [FC_at hy g5862 0 (by decide) (by decide)]; exact e5843
                  have e5878 : I5860 (ad g 46) 0 = v5543 := by rw [FC_at hy g5862 46 (by decide) (by decide)]; exact e5844
                  have e5879 : I5860 (ad g 47) 0 = v5562 := by rw [FC_at hy g5862 47 (by decide) (by decide)]; exact e5845
                  have e5880 : I5860 (ad g 46) 1 = v5608 := by rw [FC_at hy g5862 46 (by decide) (by decide)]; exact e5846
                  have e5881 : I5860 (ad g 47) 1 = v5630 := by rw [FC_at hy g5862 47 (by decide) (by decide)]; exact e5847
                  have e5882 : I5860 (ad g 46) 2 = v5682 := by rw [FC_at hy g5862 46 (by decide) (by decide)]; exact e5848
                  have e5883 : I5860 (ad g 47) 2 = v5707 := by rw [FC_at hy g5862 47 (by decide) (by decide)]; exact e5849
                  have e5884 : I5860 (ad g 46) 3 = v5765 := by rw [FC_at hy g5862 46 (by decide) (by decide)]; exact e5850
                  have e5885 : I5860 (ad g 47) 3 = v5793 := by rw [FC_at hy g5862 47 (by decide) (by decide)]; exact e5851
                  have e5886 : J5861 (ad g 0) 61 = l5855 := by rw [FC_at hy g5863 0 (by decide) (by decide)]; exact e5857
                  have fI5887 : FC g [0, 6, 7, 8, 9, 10, 11, 12, 13, 14, 15, 16, 17, 18, 19, 20, 21, 22, 23, 24, 25, 26, 27, 28, 29, 30, 31, 32, 33, 34, 37, 38, 44, 46, 47] I I5860 := FC_tr fI5852 (FC_mono g5862 (by decide))
                  have fJ5888 : FC g [0, 2, 3, 4, 5] J J5861 := FC_tr fJ5858 (FC_mono g5863 (by decide))
                  have fQ5889 : FQ g [1, 2, 3, 4, 5, 6, 7, 8, 9, 10, 11, 12, 13, 14, 15, 16, 17, 18, 19, 51, 68] I I5860 := FQ_tr fQ5854 (FQ_mono g5864 (by decide))
                  try simp only [e5865, e5866, e5867, ew3395, ew3396, ew3397] at p5859
                  refine WQ_iconst (0) (0) dX11_town_340 rfl rfl (fun v5890 hv5890 => ?_)
                  refine WP_istore_n (ls' := [(0, _), (1, _)]) dX11_town_341 (by decide) rfl ?_
                  refine WP_iload_n dX11_town_342 rfl ?_
                  refine WQ_iconst (3) (3) dX11_town_343 rfl rfl (fun v5891 hv5891 => ?_)
                  refine WQ_icmp_ge 360 dX11_town_344 rfl (fun c5891 => False.elim (by omega)) (fun c5891 => ?_)
                  refine WP_aload_n dX11_town_347 rfl ?_
                  refine WP_getr dX11_town_348 fX11_301 rfl (ly_is hy 0 11 rfl) (rf hr 0 67 44 (by decide)) ?_
                  refine WP_iload_n dX11_town_351 rfl ?_
                  refine WQ_iconst (0) (0) dX11_town_352 rfl rfl (fun v5893 hv5893 => ?_)
                  refine WE_zs dX11_town_353 (ly_is hy 44 15 rfl) (ly_n hy 44 3 rfl) (by omega) (by omega) (fun I5894 eI5894 => ?_)
                  rw [show v5890.toInt.toNat = 0 by omega] at eI5894
                  have e5895 : I5894 (ad g 0) 1 = w3407 := by rw [eI5894, pp_ne _ _ (Or.inl (ly_ne hy (by decide) (by decide) (by decide)))]; exact e5865
                  have e5896 : I5894 (ad g 0) 8 = w3421 := by rw [eI5894, pp_ne _ _ (Or.inl (ly_ne hy (by decide) (by decide) (by decide)))]; exact e5866
                  have e5897 : I5894 (ad g 0) 9 = w3422 := by rw [eI5894, pp_ne _ _ (Or.inl (ly_ne hy (by decide) (by decide) (by decide)))]; exact e5867
                  have e5898 : I5894 (ad g 0) 15 = w3424 := by rw [eI5894, pp_ne _ _ (Or.inl (ly_ne hy (by decide) (by decide) (by decide)))]; exact e5868
                  have e5899 : I5894 (ad g 0) 10 = w3424 := by rw [eI5894, pp_ne _ _ (Or.inl (ly_ne hy (by decide) (by decide) (by decide)))]; exact e5869
                  have e5900 : I5894 (ad g 0) 16 = w3433 := by rw [eI5894, pp_ne _ _ (Or.inl (ly_ne hy (by decide) (by decide) (by decide)))]; exact e5870
                  have e5901 : I5894 (ad g 0) 11 = w3433 := by rw [eI5894, pp_ne _ _ (Or.inl (ly_ne hy (by decide) (by decide) (by decide)))]; exact e5871
                  have e5902 : I5894 (ad g 0) 17 = w3444 := by rw [eI5894, pp_ne _ _ (Or.inl (ly_ne hy (by decide) (by decide) (by decide)))]; exact e5872
                  have e5903 : I5894 (ad g 0) 13 = w3444 := by rw [eI5894, pp_ne _ _ (Or.inl (ly_ne hy (by decide) (by decide) (by decide)))]; exact e5873
                  have e5904 : I5894 (ad g 0) 18 = w3457 := by rw [eI5894, pp_ne _ _ (Or.inl (ly_ne hy (by decide) (by decide) (by decide)))]; exact e5874
                  have e5905 : I5894 (ad g 0) 14 = w3457 := by rw [eI5894, pp_ne _ _ (Or.inl (ly_ne hy (by decide) (by decide) (by decide)))]; exact e5875
                  have e5906 : I5894 (ad g 0) 19 = w5183 := by rw [eI5894, pp_ne _ _ (Or.inl (ly_ne hy (by decide) (by decide) (by decide)))]; exact e5876
                  have e5907 : I5894 (ad g 0) 12 = w5183 := by rw [eI5894, pp_ne _ _ (Or.inl (ly_ne hy (by decide) (by decide) (by decide)))]; exact e5877
                  have e5908 : I5894 (ad g 46) 0 = v5543 := by rw [eI5894, pp_ne _ _ (Or.inl (ly_ne hy (by decide) (by decide) (by decide)))]; exact e5878
                  have e5909 : I5894 (ad g 47) 0 = v5562 := by rw [eI5894, pp_ne _ _ (Or.inl (ly_ne hy (by decide) (by decide) (by decide)))]; exact e5879
                  have e5910 : I5894 (ad g 46) 1 = v5608 := by rw [eI5894, pp_ne _ _ (Or.inl (ly_ne hy (by decide) (by decide) (by decide)))]; exact e5880
                  have e5911 : I5894 (ad g 47) 1 = v5630 := by rw [eI5894, pp_ne _ _ (Or.inl (ly_ne hy (by decide) (by decide) (by decide)))]; exact e5881
                  have e5912 : I5894 (ad g 46) 2 = v5682 := by rw [eI5894, pp_ne _ _ (Or.inl (ly_ne hy (by decide) (by decide) (by decide)))]; exact e5882
                  have e5913 : I5894 (ad g 47) 2 = v5707 := by rw [eI5894, pp_ne _ _ (Or.inl (ly_ne hy (by decide) (by decide) (by decide)))]; exact e5883
                  have e5914 : I5894 (ad g 46) 3 = v5765 := by rw [eI5894, pp_ne _ _ (Or.inl (ly_ne hy (by decide) (by decide) (by decide)))]; exact e5884
                  have e5915 : I5894 (ad g 47) 3 = v5793 := by rw [eI5894, pp_ne _ _ (Or.inl (ly_ne hy (by decide) (by decide) (by decide)))]; exact e5885
                  have e5916 : I5894 (ad g 44) 0 = (vp_nar .boolean v5893) := by rw [eI5894, pp_self]
                  have fI5917 : FC g [0, 6, 7, 8, 9, 10, 11, 12, 13, 14, 15, 16, 17, 18, 19, 20, 21, 22, 23, 24, 25, 26, 27, 28, 29, 30, 31, 32, 33, 34, 37, 38, 44, 46, 47] I I5894 := by rw [eI5894]; exact FC_pp fI5887 (by decide)
                  have fQ5918 : FQ g [1, 2, 3, 4, 5, 6, 7, 8, 9, 10, 11, 12, 13, 14, 15, 16, 17, 18, 19, 51, 68] I I5894 := by rw [eI5894]; exact FQ_ppn (ly_ne hy (by decide) (by decide) (by decide)) fQ5889
                  refine WP_iinc (ls' := [(0, _), (1, _)]) dX11_town_354 rfl (by decide) rfl ?_
                  have hv5919 : (v5890 + Int32.ofInt (1)).toInt = v5890.toInt + (1) := ia_n rfl (by omega) (by omega)
                  generalize v5890 + Int32.ofInt (1) = v5919 at hv5919 ⊢
                  have kv5919 : v5919.toInt = 1 := by omega
                  clear hv5919; have hv5919 := kv5919; clear kv5919
                  refine WP_goto 342 dX11_town_357 rfl ?_
                  refine WP_iload_n dX11_town_342 rfl ?_
                  refine WQ_iconst (3) (3) dX11_town_343 rfl rfl (fun v5920 hv5920 => ?_)
                  refine WQ_icmp_ge 360 dX11_town_344 rfl (fun c5920 => False.elim (by omega)) (fun c5920 => ?_)
                  refine WP_aload_n dX11_town_347 rfl ?_
                  refine WP_getr dX11_town_348 fX11_301 rfl (ly_is hy 0 11 rfl) (rf hr 0 67 44 (by decide)) ?_
                  refine WP_iload_n dX11_town_351 rfl ?_
                  refine WQ_iconst (0) (0) dX11_town_352 rfl rfl (fun v5922 hv5922 => ?_)
                  refine WE_zs dX11_town_353 (ly_is hy 44 15 rfl) (ly_n hy 44 3 rfl) (by omega) (by omega) (fun I5923 eI5923 => ?_)
                  rw [show v5919.toInt.toNat = 1 by omega] at eI5923
                  have e5924 : I5923 (ad g 0) 1 = w3407 := by rw [eI5923, pp_ne _ _ (Or.inl (ly_ne hy (by decide) (by decide) (by decide)))]; exact e5895
                  have e5925 : I5923 (ad g 0) 8 = w3421 := by rw [eI5923, pp_ne _ _ (Or.inl (ly_ne hy (by decide) (by decide) (by decide)))]; exact e5896
                  have e5926 : I5923 (ad g 0) 9 = w3422 := by rw [eI5923, pp_ne _ _ (Or.inl (ly_ne hy (by decide) (by decide) (by decide)))]; exact e5897
                  have e5927 : I5923 (ad g 0) 15 = w3424 := by rw [eI5923, pp_ne _ _ (Or.inl (ly_ne hy (by decide) (by decide) (by decide)))]; exact e5898
                  have e5928 : I5923 (ad g 0) 10 = w3424 := by rw [eI5923, pp_ne _ _ (Or.inl (ly_ne hy (by decide) (by decide) (by decide)))]; exact e5899
                  have e5929 : I5923 (ad g 0) 16 = w3433 := by rw [eI5923, pp_ne _ _ (Or.inl (ly_ne hy (by decide) (by decide) (by decide)))]; exact e5900
                  have e5930 : I5923 (ad g 0) 11 = w3433 := by rw [eI5923, pp_ne _ _ (Or.inl (ly_ne hy (by decide) (by decide) (by decide)))]; exact e5901
                  have e5931 : I5923 (ad g 0) 17 = w3444 := by rw [eI5923, pp_ne _ _ (Or.inl (ly_ne hy (by decide) (by decide) (by decide)))]; exact e5902
                  have e5932 : I5923 (ad g 0) 13 = w3444 := by rw [eI5923, pp_ne _ _ (Or.inl (ly_ne hy (by decide) (by decide) (by decide)))]; exact e5903
                  have e5933 : I5923 (ad g 0) 18 = w3457 := by rw [eI5923, pp_ne _ _ (Or.inl (ly_ne hy (by decide) (by decide) (by decide)))]; exact e5904
                  have e5934 : I5923 (ad g 0) 14 = w3457 := by rw [eI5923, pp_ne _ _ (Or.inl (ly_ne hy (by decide) (by decide) (by decide)))]; exact e5905
                  have e5935 : I5923 (ad g 0) 19 = w5183 := by rw [eI5923, pp_ne _ _ (Or.inl (ly_ne hy (by decide) (by decide) (by decide)))]; exact e5906
                  have e5936 : I5923 (ad g 0) 12 = w5183 := by rw [eI5923, pp_ne _ _ (Or.inl (ly_ne hy (by decide) (by decide) (by decide)))]; exact e5907
                  have e5937 : I5923 (ad g 46) 0 = v5543 := by rw [eI5923, pp_ne _ _ (Or.inl (ly_ne hy (by decide) (by decide) (by decide)))]; exact e5908
                  have e5938 : I5923 (ad g 47) 0 = v5562 := by rw [eI5923, pp_ne _ _ (Or.inl (ly_ne hy (by decide) (by decide) (by decide)))]; exact e5909
                  have e5939 : I5923 (ad g 46) 1 = v5608 := by rw [eI5923, pp_ne _ _ (Or.inl (ly_ne hy (by decide) (by decide) (by decide)))]; exact e5910
                  have e5940 : I5923 (ad g 47) 1 = v5630 := by rw [eI5923, pp_ne _ _ (Or.inl (ly_ne hy (by decide) (by decide) (by decide)))]; exact e5911
                  have e5941 : I5923 (ad g 46) 2 = v5682 := by rw [eI5923, pp_ne _ _ (Or.inl (ly_ne hy (by decide) (by decide) (by decide)))]; exact e5912
                  have e5942 : I5923 (ad g 47) 2 = v5707 := by rw [eI5923, pp_ne _ _ (Or.inl (ly_ne hy (by decide) (by decide) (by decide)))]; exact e5913
                  have e5943 : I5923 (ad g 46) 3 = v5765 := by rw [eI5923, pp_ne _ _ (Or.inl (ly_ne hy (by decide) (by decide) (by decide)))]; exact e5914
                  have e5944 : I5923 (ad g 47) 3 = v5793 := by rw [eI5923, pp_ne _ _ (Or.inl (ly_ne hy (by decide) (by decide) (by decide)))]; exact e5915
                  have e5945 : I5923 (ad g 44) 0 = (vp_nar .boolean v5893) := by rw [eI5923, pp_ne _ _ (Or.inr (by decide))]; exact e5916
                  have e5946 : I5923 (ad g 44) 1 = (vp_nar .boolean v5922) := by rw [eI5923, pp_self]
                  have fI5947 : FC g [0, 6, 7, 8, 9, 10, 11, 12, 13, 14, 15, 16, 17, 18, 19, 20, 21, 22, 23, 24, 25, 26, 27, 28, 29, 30, 31, 32, 33, 34, 37, 38, 44, 46, 47] I I5923 := by rw [eI5923]; exact FC_pp fI5917 (by decide)
                  have fQ5948 : FQ g [1, 2, 3, 4, 5, 6, 7, 8, 9, 10, 11, 12, 13, 14, 15, 16, 17, 18, 19, 51, 68] I I5923 := by rw [eI5923]; exact FQ_ppn (ly_ne hy (by decide) (by decide) (by decide)) fQ5918
                  refine WP_iinc (ls' := [(0, _), (1, _)]) dX11_town_354 rfl (by decide) rfl ?_
                  have hv5949 : (v5919 + Int32.ofInt (1)).toInt = v5919.toInt + (1) := ia_n rfl (by omega) (by omega)
                  generalize v5919 + Int32.ofInt (1) = v5949 at hv5949 ⊢
                  have kv5949 : v5949.toInt = 2 := by omega
                  clear hv5949; have hv5949 := kv5949; clear kv5949
                  refine WP_goto 342 dX11_town_357 rfl ?_
                  refine WP_iload_n dX11_town_342 rfl ?_
                  refine WQ_iconst (3) (3) dX11_town_343 rfl rfl (fun v5950 hv5950 => ?_)
                  refine WQ_icmp_ge 360 dX11_town_344 rfl (fun c5950 => False.elim (by omega)) (fun c5950 => ?_)
                  refine WP_aload_n dX11_town_347 rfl ?_
                  refine WP_getr dX11_town_348 fX11_301 rfl (ly_is hy 0 11 rfl) (rf hr 0 67 44 (by decide)) ?_
                  refine WP_iload_n dX11_town_351 rfl ?_
                  refine WQ_iconst (0) (0) dX11_town_352 rfl rfl (fun v5952 hv5952 => ?_)
                  refine WE_zs dX11_town_353 (ly_is hy 44 15 rfl) (ly_n hy 44 3 rfl) (by omega) (by omega) (fun I5953 eI5953 => ?_)
                  rw [show v5949.toInt.toNat = 2 by omega] at eI5953
                  have e5954 : I5953 (ad g 0) 1 = w3407 := by rw [eI5953, pp_ne _ _ (Or.inl (ly_ne hy (by decide) (by decide) (by decide)))]; exact e5924
                  have e5955 : I5953 (ad g 0) 8 = w3421 := by rw [eI5953, pp_ne _ _ (Or.inl (ly_ne hy (by decide) (by decide) (by decide)))]; exact e5925
                  have e5956 : I5953 (ad g 0) 9 = w3422 := by rw [eI5953, pp_ne _ _ (Or.inl (ly_ne hy (by decide) (by decide) (by decide)))]; exact e5926
                  have e5957 : I5953 (ad g 0) 15 = w3424 := by rw [eI5953, pp_ne _ _ (Or.inl (ly_ne hy (by decide) (by decide) (by decide)))]; exact e5927
                  have e5958 : I5953 (ad g 0) 10 = w3424 := by rw [eI5953, pp_ne _ _ (Or.inl (ly_ne hy (by decide) (by decide) (by decide)))]; exact e5928
                  have e5959 : I5953 (ad g 0) 16 = w3433 := by rw [eI5953, pp_ne _ _ (Or.inl (ly_ne hy (by decide) (by decide) (by decide)))]; exact e5929
                  have e5960 : I5953 (ad g 0) 11 = w3433 := by rw [eI5953, pp_ne _ _ (Or.inl (ly_ne hy (by decide) (by decide) (by decide)))]; exact e5930
                  have e5961 : I5953 (ad g 0) 17 = w3444 := by rw [eI5953, pp_ne _ _ (Or.inl (ly_ne hy (by decide) (by decide) (by decide)))]; exact e5931
                  have e5962 : I5953 (ad g 0) 13 = w3444 := by rw [eI5953, pp_ne _ _ (Or.inl (ly_ne hy (by decide) (by decide) (by decide)))]; exact e5932
                  have e5963 : I5953 (ad g 0) 18 = w3457 := by rw [eI5953, pp_ne _ _ (Or.inl (ly_ne hy (by decide) (by decide) (by decide)))]; exact e5933
                  have e5964 : I5953 (ad g 0) 14 = w3457 := by rw [eI5953, pp_ne _ _ (Or.inl (ly_ne hy (by decide) (by decide) (by decide)))]; exact e5934
                  have e5965 : I5953 (ad g 0) 19 = w5183 := by rw [eI5953, pp_ne _ _ (Or.inl (ly_ne hy (by decide) (by decide) (by decide)))]; exact e5935
                  have e5966 : I5953 (ad g 0) 12 = w5183 := by rw [eI5953, pp_ne _ _ (Or.inl (ly_ne hy (by decide) (by decide) (by decide)))]; exact e5936
                  have e5967 : I5953 (ad g 46) 0 = v5543 := by rw [eI5953, pp_ne _ _ (Or.inl (ly_ne hy (by decide) (by decide) (by decide)))]; exact e5937
                  have e5968 : I5953 (ad g 47) 0 = v5562 := by rw [eI5953, pp_ne _ _ (Or.inl (ly_ne hy (by decide) (by decide) (by decide)))]; exact e5938
                  have e5969 : I5953 (ad g 46) 1 = v5608 := by rw [eI5953, pp_ne _ _ (Or.inl (ly_ne hy (by decide) (by decide) (by decide)))]; exact e5939
                  have e5970 : I5953 (ad g 47) 1 = v5630 := by rw [eI5953, pp_ne _ _ (Or.inl (ly_ne hy (by decide) (by decide) (by decide)))]; exact e5940
                  have e5971 : I5953 (ad g 46) 2 = v5682 := by rw [eI5953, pp_ne _ _ (Or.inl (ly_ne hy (by decide) (by decide) (by decide)))]; exact e5941
                  have e5972 : I5953 (ad g 47) 2 = v5707 := by rw [eI5953, pp_ne _ _ (Or.inl (ly_ne hy (by decide) (by decide) (by decide)))]; exact e5942
                  have e5973 : I5953 (ad g 46) 3 = v5765 := by rw [eI5953, pp_ne _ _ (Or.inl (ly_ne hy (by decide) (by decide) (by decide)))]; exact e5943
                  have e5974 : I5953 (ad g 47) 3 = v5793 := by rw [eI5953, pp_ne _ _ (Or.inl (ly_ne hy (by decide) (by decide) (by decide)))]; exact e5944
                  have e5975 : I5953 (ad g 44) 0 = (vp_nar .boolean v5893) := by rw [eI5953, pp_ne _ _ (Or.inr (by decide))]; exact e5945
                  have e5976 : I5953 (ad g 44) 1 = (vp_nar .boolean v5922) := by rw [eI5953, pp_ne _ _ (Or.inr (by decide))]; exact e5946
                  have e5977 : I5953 (ad g 44) 2 = (vp_nar .boolean v5952) := by rw [eI5953, pp_self]
                  have fI5978 : FC g [0, 6, 7, 8, 9, 10, 11, 12, 13, 14, 15, 16, 17, 18, 19, 20, 21, 22, 23, 24, 25, 26, 27, 28, 29, 30, 31, 32, 33, 34, 37, 38, 44, 46, 47] I I5953 := by rw [eI5953]; exact FC_pp fI5947 (by decide)
                  have fQ5979 : FQ g [1, 2, 3, 4, 5, 6, 7, 8, 9, 10, 11, 12, 13, 14, 15, 16, 17, 18, 19, 51, 68] I I5953 := by rw [eI5953]; exact FQ_ppn (ly_ne hy (by decide) (by decide) (by decide)) fQ5948
                  refine WP_iinc (ls' := [(0, _), (1, _)]) dX11_town_354 rfl (by decide) rfl ?_
                  have hv5980 : (v5949 + Int32.ofInt (1)).toInt = v5949.toInt + (1) := ia_n rfl (by omega) (by omega)
                  generalize v5949 + Int32.ofInt (1) = v5980 at hv5980 ⊢
                  have kv5980 : v5980.toInt = 3 := by omega
                  clear hv5980; have hv5980 := kv5980; clear kv5980
                  refine WP_goto 342 dX11_town_357 rfl ?_
                  refine WP_iload_n dX11_town_342 rfl ?_
                  refine WQ_iconst (3) (3) dX11_town_343 rfl rfl (fun v5981 hv5981 => ?_)
                  refine WQ_icmp_ge 360 dX11_town_344 rfl (fun c5981 => ?_) (fun c5981 => False.elim (by omega))
                  refine WP_aload_n dX11_town_360 rfl ?_
                  refine WQ_iconst (-1) (-1) dX11_town_361 rfl rfl (fun v5983 hv5983 => ?_)
                  refine WQ_puti dX11_town_362 fX11_304 rfl rfl (ly_is hy 0 11 rfl) (fun I5984 eI5984 => ?_)
                  have e5985 : I5984 (ad g 0) 1 = w3407 := by rw [eI5984, pp_ne _ _ (Or.inr (by decide))]; exact e5954
                  have e5986 : I5984 (ad g 0) 8 = w3421 := by rw [eI5984, pp_ne _ _ (Or.inr (by decide))]; exact e5955
                  have e5987 : I5984 (ad g 0) 9 = w3422 := by rw [eI5984, pp_ne _ _ (Or.inr (by decide))]; exact e5956
                  have e5988 : I5984 (ad g 0) 15 = w3424 := by rw [eI5984, pp_ne _ _ (Or.inr (by decide))]; exact e5957
                  have e5989 : I5984 (ad g 0) 10 = w3424 := by rw [eI5984, pp_ne _ _ (Or.inr (by decide))]; exact e5958
                  have e5990 : I5984 (ad g 0) 16 = w3433 := by rw [eI5984, pp_ne _ _ (Or.inr (by decide))]; exact e5959
                  have e5991 : I5984 (ad g 0) 11 = w3433 := by rw [eI5984, pp_ne _ _ (Or.inr (by decide))]; exact e5960
                  have e5992 : I5984 (ad g 0) 17 = w3444 := by rw [eI5984, pp_ne _ _ (Or.inr (by decide))]; exact e5961
                  have e5993 : I5984 (ad g 0) 13 = w3444 := by rw [eI5984, pp_ne _ _ (Or.inr (by decide))]; exact e5962
                  have e5994 : I5984 (ad g 0) 18 = w3457 := by rw [eI5984, pp_ne _ _ (Or.inr (by decide))]; exact e5963
                  have e5995 : I5984 (ad g 0) 14 = w3457 := by rw [eI5984, pp_ne _ _ (Or.inr (by decide))]; exact e5964
                  have e5996 : I5984 (ad g 0) 19 = w5183 := by rw [eI5984, pp_ne _ _ (Or.inr (by decide))]; exact e5965
                  have e5997 : I5984 (ad g 0) 12 = w5183 := by rw [eI5984, pp_ne _ _ (Or.inr (by decide))]; exact e5966
                  have e5998 : I5984 (ad g 46) 0 = v5543 := by rw [eI5984, pp_ne _ _ (Or.inl (ly_ne hy (by decide) (by decide) (by decide)))]; exact e5967
                  have e5999 : I5984 (ad g 47) 0 = v5562 := by rw [eI5984, pp_ne _ _ (Or.inl (ly_ne hy (by decide) (by decide) (by decide)))]; exact e5968
                  have e6000 : I5984 (ad g 46) 1 = v5608 := by rw [eI5984, pp_ne _ _ (Or.inl (ly_ne hy (by decide) (by decide) (by decide)))]; exact e5969
                  have e6001 : I5984 (ad g 47) 1 = v5630 := by rw [eI5984, pp_ne _ _ (Or.inl (ly_ne hy (by decide) (by decide) (by decide)))]; exact e5970
                  have e6002 : I5984 (ad g 46) 2 = v5682 := by rw [eI5984, pp_ne _ _ (Or.inl (ly_ne hy (by decide) (by decide) (by decide)))]; exact e5971
                  have e6003 : I5984 (ad g 47) 2 = v5707 := by rw [eI5984, pp_ne _ _ (Or.inl (ly_ne hy (by decide) (by decide) (by decide)))]; exact e5972
                  have e6004 : I5984 (ad g 46) 3 = v5765 := by rw [eI5984, pp_ne _ _ (Or.inl (ly_ne hy (by decide) (by decide) (by decide)))]; exact e5973
                  have e6005 : I5984 (ad g 47) 3 = v5793 := by rw [eI5984, pp_ne _ _ (Or.inl (ly_ne hy (by decide) (by decide) (by decide)))]; exact e5974
                  have e6006 : I5984 (ad g 44) 0 = (vp_nar .boolean v5893) := by rw [eI5984, pp_ne _ _ (Or.inl (ly_ne hy (by decide) (by decide) (by decide)))]; exact e5975
                  have e6007 : I5984 (ad g 44) 1 = (vp_nar .boolean v5922) := by rw [eI5984, pp_ne _ _ (Or.inl (ly_ne hy (by decide) (by decide) (by decide)))]; exact e5976
                  have e6008 : I5984 (ad g 44) 2 = (vp_nar .boolean v5952) := by rw [eI5984, pp_ne _ _ (Or.inl (ly_ne hy (by decide) (by decide) (by decide)))]; exact e5977
                  have e6009 : I5984 (ad g 0) 68 = v5983 := by rw [eI5984, pp_self]
                  have fI6010 : FC g [0, 6, 7, 8, 9, 10, 11, 12, 13, 14, 15, 16, 17, 18, 19, 20, 21, 22, 23, 24, 25, 26, 27, 28, 29, 30, 31, 32, 33, 34, 37, 38, 44, 46, 47] I I5984 := by rw [eI5984]; exact FC_pp fI5978 (by decide)
                  have fQ6011 : FQ g [1, 2, 3, 4, 5, 6, 7, 8, 9, 10, 11, 12, 13, 14, 15, 16, 17, 18, 19, 51, 68] I I5984 := by rw [eI5984]; exact FQ_pp0 fQ5979 (by decide)
                  refine WP_aload_n dX11_town_365 rfl ?_
                  refine WQ_getim dX11_town_366 fX11_335 rfl (ly_is hy 0 11 rfl) e5997 ?_
                  exact WP_iret dX11_town_369 rfl ⟨rfl, fI6010, fJ5888, fQ6011, w5183, rfl, by
                    try simp only [e5985, e5986, e5987, e5988, e5989, e5990, e5991, e5992, e5993, e5994, e5995, e5996, e5997, e5998, e5999, e6000, e6001, e6002, e6003, e6004, e6005, e6006, e6007, e6008, e6009, e5886, ew3395, ew3396, ew3397]
                    have hb4 : ∀ e ∈ rsT, ∀ q : Nat, (q : Int) < (e.2.2 : Int) * S2.1 0 1 → (I3412 (ad g e.1) q).toInt = S2.1 e.2.1 q := hR.2.2.2.1
                    have hb5 : ∀ e ∈ rtT, ∀ q : Nat, (q : Int) < (e.2.2 : Int) * S2.1 0 2 → (I3412 (ad g e.1) q).toInt = S2.1 e.2.1 q := hR.2.2.2.2.1
                    refine Or.inr ⟨S2, hok, ?_, ⟨⟨?_, ?_, ?_, ?_, ?_⟩, fun q hq => ?_, ?_, ?_, ?_, ?_⟩, fun q hq => ?_, fun q hq => ?_, ?_, fun q hq => ?_, fun q hq => ?_, fun q hq => ?_, ?_⟩
                    · omega
                    · omega
                    · omega
                    · omega
                    · omega
                    · omega
                    · rw [eI5984, pp_off _ _ (ly_ne hy (by decide) (by decide) (by decide)), eI5953, pp_off _ _ (ly_ne hy (by decide) (by decide) (by decide)), eI5923, pp_off _ _ (ly_ne hy (by decide) (by decide) (by decide)), eI5894, pp_off _ _ (ly_ne hy (by decide) (by decide) (by decide)), FC_at hy g5862 6 (by decide) (by decide), FC_at hy g5828 6 (by decide) (by decide), eI5794, pp_off _ _ (ly_ne hy (by decide) (by decide) (by decide)), eI5766, pp_off _ _ (ly_ne hy (by decide) (by decide) (by decide)), eI5739, pp_off _ _ (ly_ne hy (by decide) (by decide) (by decide)), eI5708, pp_off _ _ (ly_ne hy (by decide) (by decide) (by decide)), eI5683, pp_off _ _ (ly_ne hy (by decide) (by decide) (by decide)), eI5659, pp_off _ _ (ly_ne hy (by decide) (by decide) (by decide)), eI5631, pp_off _ _ (ly_ne hy (by decide) (by decide) (by decide)), eI5609, pp_off _ _ (ly_ne hy (by decide) (by decide) (by decide)), eI5588, pp_off _ _ (ly_ne hy (by decide) (by decide) (by decide)), eI5563, pp_off _ _ (ly_ne hy (by decide) (by decide) (by decide)), eI5544, pp_off _ _ (ly_ne hy (by decide) (by decide) (by decide)), eI5526, pp_off _ _ (ly_ne hy (by decide) (by decide) (by decide)), FC_at hy g5501 6 (by decide) (by decide), FC_at hy g5479 6 (by decide) (by decide), FC_at hy g5457 6 (by decide) (by decide), FC_at hy g5435 6 (by decide) (by decide), FC_at hy g5413 6 (by decide) (by decide), FC_at hy g5391 6 (by decide) (by decide), FC_at hy g5369 6 (by decide) (by decide), FC_at hy g5347 6 (by decide) (by decide), FC_at hy g5325 6 (by decide) (by decide), FC_at hy g5303 6 (by decide) (by decide), FC_at hy g5281 6 (by decide) (by decide), FC_at hy g5259 6 (by decide) (by decide), FC_at hy g5237 6 (by decide) (by decide), d6 q hq]; exact hR.2.1 q hq
                    · intro e he q hq
                      have hmul := hb2
                      rcases (show e = (8, 2, 1) ∨ e = (9, 3, 1) ∨ e = (10, 4, 1) ∨ e = (11, 5, 1) ∨ e = (20, 6, 7) ∨ e = (24, 7, 7) ∨ e = (25, 8, 7) ∨ e = (26, 9, 7) by simpa [tsT] using he) with rfl | rfl | rfl | rfl | rfl | rfl | rfl | rfl
                      · show (I5984 (ad g 8) q).toInt = S2.1 2 q
                        have hq2 : (q : Int) < 1 * S2.1 0 1 := hq
                        rw [eI5984, pp_off _ _ (ly_ne hy (by decide) (by decide) (by decide)), eI5953, pp_off _ _ (ly_ne hy (by decide) (by decide) (by decide)), eI5923, pp_off _ _ (ly_ne hy (by decide) (by decide) (by decide)), eI5894, pp_off _ _ (ly_ne hy (by decide) (by decide) (by decide)), FC_at hy g5862 8 (by decide) (by decide), FC_at hy g5828 8 (by decide) (by decide), eI5794, pp_off _ _ (ly_ne hy (by decide) (by decide) (by decide)), eI5766, pp_off _ _ (ly_ne hy (by decide) (by decide) (by decide)), eI5739, pp_off _ _ (ly_ne hy (by decide) (by decide) (by decide)), eI5708, pp_off _ _ (ly_ne hy (by decide) (by decide) (by decide)), eI5683, pp_off _ _ (ly_ne hy (by decide) (by decide) (by decide)), eI5659, pp_off _ _ (ly_ne hy (by decide) (by decide) (by decide)), eI5631, pp_off _ _ (ly_ne hy (by decide) (by decide) (by decide)), eI5609, pp_off _ _ (ly_ne hy (by decide) (by decide) (by decide)), eI5588, pp_off _ _ (ly_ne hy (by decide) (by decide) (by decide)), eI5563, pp_off _ _ (ly_ne hy (by decide) (by decide) (by decide)), eI5544, pp_off _ _ (ly_ne hy (by decide) (by decide) (by decide)), eI5526, pp_off _ _ (ly_ne hy (by decide) (by decide) (by decide)), FC_at hy g5501 8 (by decide) (by decide), FC_at hy g5479 8 (by decide) (by decide), FC_at hy g5457 8 (by decide) (by decide), FC_at hy g5435 8 (by decide) (by decide), FC_at hy g5413 8 (by decide) (by decide), FC_at hy g5391 8 (by decide) (by decide), FC_at hy g5369 8 (by decide) (by decide), FC_at hy g5347 8 (by decide) (by decide), FC_at hy g5325 8 (by decide) (by decide), FC_at hy g5303 8 (by decide) (by decide), FC_at hy g5281 8 (by decide) (by decide), FC_at hy g5259 8 (by decide) (by decide), d8 q (by omega)]
                        exact hb4 (14, 2, 1) (by decide) q hq
                      · show (I5984 (ad g 9) q).toInt = S2.1 3 q
                        have hq2 : (q : Int) < 1 * S2.1 0 1 := hq
                        rw [eI5984, pp_off _ _ (ly_ne hy (by decide) (by decide) (by decide)), eI5953, pp_off _ _ (ly_ne hy (by decide) (by decide) (by decide)), eI5923, pp_off _ _ (ly_ne hy (by decide) (by decide) (by decide)), eI5894, pp_off _ _ (ly_ne hy (by decide) (by decide) (by decide)), FC_at hy g5862 9 (by decide) (by decide), FC_at hy g5828 9 (by decide) (by decide), eI5794, pp_off _ _ (ly_ne hy (by decide) (by decide) (by decide)), eI5766, pp_off _ _ (ly_ne hy (by decide) (by decide) (by decide)), eI5739, pp_off _ _ (ly_ne hy (by decide) (by decide) (by decide)), eI5708, pp_off _ _ (ly_ne hy (by decide) (by decide) (by decide)), eI5683, pp_off _ _ (ly_ne hy (by decide) (by decide) (by decide)), eI5659, pp_off _ _ (ly_ne hy (by decide) (by decide) (by decide)), eI5631, pp_off _ _ (ly_ne hy (by decide) (by decide) (by decide)), eI5609, pp_off _ _ (ly_ne hy (by decide) (by decide) (by decide)), eI5588, pp_off _ _ (ly_ne hy (by decide) (by decide) (by decide)), eI5563, pp_off _ _ (ly_ne hy (by decide) (by decide) (by decide)), eI5544, pp_off _ _ (ly_ne hy (by decide) (by decide) (by decide)), eI5526, pp_off _ _ (ly_ne hy (by decide) (by decide) (by decide)), FC_at hy g5501 9 (by decide) (by decide), FC_at hy g5479 9 (by decide) (by decide), FC_at hy g5457 9 (by decide) (by decide), FC_at hy g5435 9 (by decide) (by decide), FC_at hy g5413 9 (by decide) (by decide), FC_at hy g5391 9 (by decide) (by decide), FC_at hy g5369 9 (by decide) (by decide), FC_at hy g5347 9 (by decide) (by decide), FC_at hy g5325 9 (by decide) (by decide), FC_at hy g5303 9 (by decide) (by decide), FC_at hy g5281 9 (by decide) (by decide), d9 q (by omega)]
                        exact hb4 (15, 3, 1) (by decide) q hq
                      · show (I5984 (ad g 10) q).toInt = S2.1 4 q
                        have hq2 : (q : Int) < 1 * S2.1 0 1 := hq
                        rw [eI5984, pp_off _ _ (ly_ne hy (by decide) (by decide) (by decide)), eI5953, pp_off _ _ (ly_ne hy (by decide) (by decide) (by decide)), eI5923, pp_off _ _ (ly_ne hy (by decide) (by decide) (by decide)), eI5894, pp_off _ _ (ly_ne hy (by decide) (by decide) (by decide)), FC_at hy g5862 10 (by decide) (by decide), FC_at hy g5828 10 (by decide) (by decide), eI5794, pp_off _ _ (ly_ne hy (by decide) (by decide) (by decide)), eI5766, pp_off _ _ (ly_ne hy (by decide) (by decide) (by decide)), eI5739, pp_off _ _ (ly_ne hy (by decide) (by decide) (by decide)), eI5708, pp_off _ _ (ly_ne hy (by decide) (by decide) (by decide)), eI5683, pp_off _ _ (ly_ne hy (by decide) (by decide) (by decide)), eI5659, pp_off _ _ (ly_ne hy (by decide) (by decide) (by decide)), eI5631, pp_off _ _ (ly_ne hy (by decide) (by decide) (by decide)), eI5609, pp_off _ _ (ly_ne hy (by decide) (by decide) (by decide)), eI5588, pp_off _ _ (ly_ne hy (by decide) (by decide) (by decide)), eI5563, pp_off _ _ (ly_ne hy (by decide) (by decide) (by decide)), eI5544, pp_off _ _ (ly_ne hy (by decide) (by decide) (by decide)), eI5526, pp_off _ _ (ly_ne hy (by decide) (by decide) (by decide)), FC_at hy g5501 10 (by decide) (by decide), FC_at hy g5479 10 (by decide) (by decide), FC_at hy g5457 10 (by decide) (by decide), FC_at hy g5435 10 (by decide) (by decide), FC_at hy g5413 10 (by decide) (by decide), FC_at hy g5391 10 (by decide) (by decide), FC_at hy g5369 10 (by decide) (by decide), FC_at hy g5347 10 (by decide) (by decide), FC_at hy g5325 10 (by decide) (by decide), FC_at hy g5303 10 (by decide) (by decide), d10 q (by omega)]
                        exact hb4 (16, 4, 1) (by decide) q hq
                      · show (I5984 (ad g 11) q).toInt = S2.1 5 q
                        have hq2 : (q : Int) < 1 * S2.1 0 1 := hq
                        rw [eI5984, pp_off _ _ (ly_ne hy (by decide) (by decide) (by decide)), eI5953, pp_off _ _ (ly_ne hy (by decide) (by decide) (by decide)), eI5923, pp_off _ _ (ly_ne hy (by decide) (by decide) (by decide)), eI5894, pp_off _ _ (ly_ne hy (by decide) (by decide) (by decide)), FC_at hy g5862 11 (by decide) (by decide), FC_at hy g5828 11 (by decide) (by decide), eI5794, pp_off _ _ (ly_ne hy (by decide) (by decide) (by decide)), eI5766, pp_off _ _ (ly_ne hy (by decide) (by decide) (by decide)), eI5739, pp_off _ _ (ly_ne hy (by decide) (by decide) (by decide)), eI5708, pp_off _ _ (ly_ne hy (by decide) (by decide) (by decide)), eI5683, pp_off _ _ (ly_ne hy (by decide) (by decide) (by decide)), eI5659, pp_off _ _ (ly_ne hy (by decide) (by decide) (by decide)), eI5631, pp_off _ _ (ly_ne hy (by decide) (by decide) (by decide)), eI5609, pp_off _ _ (ly_ne hy (by decide) (by decide) (by decide)), eI5588, pp_off _ _ (ly_ne hy (by decide) (by decide) (by decide)), eI5563, pp_off _ _ (ly_ne hy (by decide) (by decide) (by decide)), eI5544, pp_off _ _ (ly_ne hy (by decide) (by decide) (by decide)), eI5526, pp_off _ _ (ly_ne hy (by decide) (by decide) (by decide)), FC_at hy g5501 11 (by decide) (by decide), FC_at hy g5479 11 (by decide) (by decide), FC_at hy g5457 11 (by decide) (by decide), FC_at hy g5435 11 (by decide) (by decide), FC_at hy g5413 11 (by decide) (by decide), FC_at hy g5391 11 (by decide) (by decide), FC_at hy g5369 11 (by decide) (by decide), FC_at hy g5347 11 (by decide) (by decide), FC_at hy g5325 11 (by decide) (by decide), d11 q (by omega)]
                        exact hb4 (17, 5, 1) (by decide) q hq
                      · show (I5984 (ad g 20) q).toInt = S2.1 6 q
                        have hq2 : (q : Int) < 7 * S2.1 0 1 := hq
                        rw [eI5984, pp_off _ _ (ly_ne hy (by decide) (by decide) (by decide)), eI5953, pp_off _ _ (ly_ne hy (by decide) (by decide) (by decide)), eI5923, pp_off _ _ (ly_ne hy (by decide) (by decide) (by decide)), eI5894, pp_off _ _ (ly_ne hy (by decide) (by decide) (by decide)), FC_at hy g5862 20 (by decide) (by decide), FC_at hy g5828 20 (by decide) (by decide), eI5794, pp_off _ _ (ly_ne hy (by decide) (by decide) (by decide)), eI5766, pp_off _ _ (ly_ne hy (by decide) (by decide) (by decide)), eI5739, pp_off _ _ (ly_ne hy (by decide) (by decide) (by decide)), eI5708, pp_off _ _ (ly_ne hy (by decide) (by decide) (by decide)), eI5683, pp_off _ _ (ly_ne hy (by decide) (by decide) (by decide)), eI5659, pp_off _ _ (ly_ne hy (by decide) (by decide) (by decide)), eI5631, pp_off _ _ (ly_ne hy (by decide) (by decide) (by decide)), eI5609, pp_off _ _ (ly_ne hy (by decide) (by decide) (by decide)), eI5588, pp_off _ _ (ly_ne hy (by decide) (by decide) (by decide)), eI5563, pp_off _ _ (ly_ne hy (by decide) (by decide) (by decide)), eI5544, pp_off _ _ (ly_ne hy (by decide) (by decide) (by decide)), eI5526, pp_off _ _ (ly_ne hy (by decide) (by decide) (by decide)), FC_at hy g5501 20 (by decide) (by decide), FC_at hy g5479 20 (by decide) (by decide), FC_at hy g5457 20 (by decide) (by decide), FC_at hy g5435 20 (by decide) (by decide), FC_at hy g5413 20 (by decide) (by decide), FC_at hy g5391 20 (by decide) (by decide), d20 q (by omega)]
                        exact hb4 (27, 6, 7) (by decide) q hq
                      · show (I5984 (ad g 24) q).toInt = S2.1 7 q
                        have hq2 : (q : Int) < 7 * S2.1 0 1 := hq
                        rw [eI5984, pp_off _ _ (ly_ne hy (by decide) (by decide) (by decide)), eI5953, pp_off _ _ (ly_ne hy (by decide) (by decide) (by decide)), eI5923, pp_off _ _ (ly_ne hy (by decide) (by decide) (by decide)), eI5894, pp_off _ _ (ly_ne hy (by decide) (by decide) (by decide)), FC_at hy g5862 24 (by decide) (by decide), FC_at hy g5828 24 (by decide) (by decide), eI5794, pp_off _ _ (ly_ne hy (by decide) (by decide) (by decide)), eI5766, pp_off _ _ (ly_ne hy (by decide) (by decide) (by decide)), eI5739, pp_off _ _ (ly_ne hy (by decide) (by decide) (by decide)), eI5708, pp_off _ _ (ly_ne hy (by decide) (by decide) (by decide)), eI5683, pp_off _ _ (ly_ne hy (by decide) (by decide) (by decide)), eI5659, pp_off _ _ (ly_ne hy (by decide) (by decide) (by decide)), eI5631, pp_off _ _ (ly_ne hy (by decide) (by decide) (by decide)), eI5609, pp_off _ _ (ly_ne hy (by decide) (by decide) (by decide)), eI5588, pp_off _ _ (ly_ne hy (by decide) (by decide) (by decide)), eI5563, pp_off _ _ (ly_ne hy (by decide) (by decide) (by decide)), eI5544, pp_off _ _ (ly_ne hy (by decide) (by decide) (by decide)), eI5526, pp_off _ _ (ly_ne hy (by decide) (by decide) (by decide)), FC_at hy g5501 24 (by decide) (by decide), FC_at hy g5479 24 (by decide) (by decide), d24 q (by omega)]
                        exact hb4 (30, 7, 7) (by decide) q hq
                      · show (I5984 (ad g 25) q).toInt = S2.1 8 q
                        have hq2 : (q : Int) < 7 * S2.1 0 1 := hq
                        rw [eI5984, pp_off _ _ (ly_ne hy (by decide) (by decide) (by decide)), eI5953, pp_off _ _ (ly_ne hy (by decide) (by decide) (by decide)), eI5923, pp_off _ _ (ly_ne hy (by decide) (by decide) (by decide)), eI5894, pp_off _ _ (ly_ne hy (by decide) (by decide) (by decide)), FC_at hy g5862 25 (by decide) (by decide), FC_at hy g5828 25 (by decide) (by decide), eI5794, pp_off _ _ (ly_ne hy (by decide) (by decide) (by decide)), eI5766, pp_off _ _ (ly_ne hy (by decide) (by decide) (by decide)), eI5739, pp_off _ _ (ly_ne hy (by decide) (by decide) (by decide)), eI5708, pp_off _ _ (ly_ne hy (by decide) (by decide) (by decide)), eI5683, pp_off _ _ (ly_ne hy (by decide) (by decide) (by decide)), eI5659, pp_off _ _ (ly_ne hy (by decide) (by decide) (by decide)), eI5631, pp_off _ _ (ly_ne hy (by decide) (by decide) (by decide)), eI5609, pp_off _ _ (ly_ne hy (by decide) (by decide) (by decide)), eI5588, pp_off _ _ (ly_ne hy (by decide) (by decide) (by decide)), eI5563, pp_off _ _ (ly_ne hy (by decide) (by decide) (by decide)), eI5544, pp_off _ _ (ly_ne hy (by decide) (by decide) (by decide)), eI5526, pp_off _ _ (ly_ne hy (by decide) (by decide) (by decide)), FC_at hy g5501 25 (by decide) (by decide), d25 q (by omega)]
                        exact hb4 (31, 8, 7) (by decide) q hq
                      · show (I5984 (ad g 26) q).toInt = S2.1 9 q
                        have hq2 : (q : Int) < 7 * S2.1 0 1 := hq
                        rw [eI5984, pp_off _ _ (ly_ne hy (by decide) (by decide) (by decide)), eI5953, pp_off _ _ (ly_ne hy (by decide) (by decide) (by decide)), eI5923, pp_off _ _ (ly_ne hy (by decide) (by decide) (by decide)), eI5894, pp_off _ _ (ly_ne hy (by decide) (by decide) (by decide)), FC_at hy g5862 26 (by decide) (by decide), FC_at hy g5828 26 (by decide) (by decide), eI5794, pp_off _ _ (ly_ne hy (by decide) (by decide) (by decide)), eI5766, pp_off _ _ (ly_ne hy (by decide) (by decide) (by decide)), eI5739, pp_off _ _ (ly_ne hy (by decide) (by decide) (by decide)), eI5708, pp_off _ _ (ly_ne hy (by decide) (by decide) (by decide)), eI5683, pp_off _ _ (ly_ne hy (by decide) (by decide) (by decide)), eI5659, pp_off _ _ (ly_ne hy (by decide) (by decide) (by decide)), eI5631, pp_off _ _ (ly_ne hy (by decide) (by decide) (by decide)), eI5609, pp_off _ _ (ly_ne hy (by decide) (by decide) (by decide)), eI5588, pp_off _ _ (ly_ne hy (by decide) (by decide) (by decide)), eI5563, pp_off _ _ (ly_ne hy (by decide) (by decide) (by decide)), eI5544, pp_off _ _ (ly_ne hy (by decide) (by decide) (by decide)), eI5526, pp_off _ _ (ly_ne hy (by decide) (by decide) (by decide)), d26 q (by omega)]
                        exact hb4 (32, 9, 7) (by decide) q hq
                    · intro e he q hq
                      have hmul := hb3
                      rcases (show e = (12, 10, 1) ∨ e = (13, 11, 1) ∨ e = (21, 12, 7) ∨ e = (23, 13, 7) by simpa [ttT] using he) with rfl | rfl | rfl | rfl
                      · show (I5984 (ad g 12) q).toInt = S2.1 10 q
                        have hq2 : (q : Int) < 1 * S2.1 0 2 := hq
                        rw [eI5984, pp_off _ _ (ly_ne hy (by decide) (by decide) (by decide)), eI5953, pp_off _ _ (ly_ne hy (by decide) (by decide) (by decide)), eI5923, pp_off _ _ (ly_ne hy (by decide) (by decide) (by decide)), eI5894, pp_off _ _ (ly_ne hy (by decide) (by decide) (by decide)), FC_at hy g5862 12 (by decide) (by decide), FC_at hy g5828 12 (by decide) (by decide), eI5794, pp_off _ _ (ly_ne hy (by decide) (by decide) (by decide)), eI5766, pp_off _ _ (ly_ne hy (by decide) (by decide) (by decide)), eI5739, pp_off _ _ (ly_ne hy (by decide) (by decide) (by decide)), eI5708, pp_off _ _ (ly_ne hy (by decide) (by decide) (by decide)), eI5683, pp_off _ _ (ly_ne hy (by decide) (by decide) (by decide)), eI5659, pp_off _ _ (ly_ne hy (by decide) (by decide) (by decide)), eI5631, pp_off _ _ (ly_ne hy (by decide) (by decide) (by decide)), eI5609, pp_off _ _ (ly_ne hy (by decide) (by decide) (by decide)), eI5588, pp_off _ _ (ly_ne hy (by decide) (by decide) (by decide)), eI5563, pp_off _ _ (ly_ne hy (by decide) (by decide) (by decide)), eI5544, pp_off _ _ (ly_ne hy (by decide) (by decide) (by decide)), eI5526, pp_off _ _ (ly_ne hy (by decide) (by decide) (by decide)), FC_at hy g5501 12 (by decide) (by decide), FC_at hy g5479 12 (by decide) (by decide), FC_at hy g5457 12 (by decide) (by decide), FC_at hy g5435 12 (by decide) (by decide), FC_at hy g5413 12 (by decide) (by decide), FC_at hy g5391 12 (by decide) (by decide), FC_at hy g5369 12 (by decide) (by decide), FC_at hy g5347 12 (by decide) (by decide), d12 q (by omega)]
                        exact hb5 (18, 10, 1) (by decide) q hq
                      · show (I5984 (ad g 13) q).toInt = S2.1 11 q
                        have hq2 : (q : Int) < 1 * S2.1 0 2 := hq
                        rw [eI5984, pp_off _ _ (ly_ne hy (by decide) (by decide) (by decide)), eI5953, pp_off _ _ (ly_ne hy (by decide) (by decide) (by decide)), eI5923, pp_off _ _ (ly_ne hy (by decide) (by decide) (by decide)), eI5894, pp_off _ _ (ly_ne hy (by decide) (by decide) (by decide)), FC_at hy g5862 13 (by decide) (by decide), FC_at hy g5828 13 (by decide) (by decide), eI5794, pp_off _ _ (ly_ne hy (by decide) (by decide) (by decide)), eI5766, pp_off _ _ (ly_ne hy (by decide) (by decide) (by decide)), eI5739, pp_off _ _ (ly_ne hy (by decide) (by decide) (by decide)), eI5708, pp_off _ _ (ly_ne hy (by decide) (by decide) (by decide)), eI5683, pp_off _ _ (ly_ne hy (by decide) (by decide) (by decide)), eI5659, pp_off _ _ (ly_ne hy (by decide) (by decide) (by decide)), eI5631, pp_off _ _ (ly_ne hy (by decide) (by decide) (by decide)), eI5609, pp_off _ _ (ly_ne hy (by decide) (by decide) (by decide)), eI5588, pp_off _ _ (ly_ne hy (by decide) (by decide) (by decide)), eI5563, pp_off _ _ (ly_ne hy (by decide) (by decide) (by decide)), eI5544, pp_off _ _ (ly_ne hy (by decide) (by decide) (by decide)), eI5526, pp_off _ _ (ly_ne hy (by decide) (by decide) (by decide)), FC_at hy g5501 13 (by decide) (by decide), FC_at hy g5479 13 (by decide) (by decide), FC_at hy g5457 13 (by decide) (by decide), FC_at hy g5435 13 (by decide) (by decide), FC_at hy g5413 13 (by decide) (by decide), FC_at hy g5391 13 (by decide) (by decide), FC_at hy g5369 13 (by decide) (by decide), d13 q (by omega)]
                        exact hb5 (19, 11, 1) (by decide) q hq
                      · show (I5984 (ad g 21) q).toInt = S2.1 12 q
                        have hq2 : (q : Int) < 7 * S2.1 0 2 := hq
                        rw [eI5984, pp_off _ _ (ly_ne hy (by decide) (by decide) (by decide)), eI5953, pp_off _ _ (ly_ne hy (by decide) (by decide) (by decide)), eI5923, pp_off _ _ (ly_ne hy (by decide) (by decide) (by decide)), eI5894, pp_off _ _ (ly_ne hy (by decide) (by decide) (by decide)), FC_at hy g5862 21 (by decide) (by decide), FC_at hy g5828 21 (by decide) (by decide), eI5794, pp_off _ _ (ly_ne hy (by decide) (by decide) (by decide)), eI5766, pp_off _ _ (ly_ne hy (by decide) (by decide) (by decide)), eI5739, pp_off _ _ (ly_ne hy (by decide) (by decide) (by decide)), eI5708, pp_off _ _ (ly_ne hy (by decide) (by decide) (by decide)), eI5683, pp_off _ _ (ly_ne hy (by decide) (by decide) (by decide)), eI5659, pp_off _ _ (ly_ne hy (by decide) (by decide) (by decide)), eI5631, pp_off _ _ (ly_ne hy (by decide) (by decide) (by decide)), eI5609, pp_off _ _ (ly_ne hy (by decide) (by decide) (by decide)), eI5588, pp_off _ _ (ly_ne hy (by decide) (by decide) (by decide)), eI5563, pp_off _ _ (ly_ne hy (by decide) (by decide) (by decide)), eI5544, pp_off _ _ (ly_ne hy (by decide) (by decide) (by decide)), eI5526, pp_off _ _ (ly_ne hy (by decide) (by decide) (by decide)), FC_at hy g5501 21 (by decide) (by decide), FC_at hy g5479 21 (by decide) (by decide), FC_at hy g5457 21 (by decide) (by decide), FC_at hy g5435 21 (by decide) (by decide), FC_at hy g5413 21 (by decide) (by decide), d21 q (by omega)]
                        exact hb5 (28, 12, 7) (by decide) q hq
                      · show (I5984 (ad g 23) q).toInt = S2.1 13 q
                        have hq2 : (q : Int) < 7 * S2.1 0 2 := hq
                        rw [eI5984, pp_off _ _ (ly_ne hy (by decide) (by decide) (by decide)), eI5953, pp_off _ _ (ly_ne hy (by decide) (by decide) (by decide)), eI5923, pp_off _ _ (ly_ne hy (by decide) (by decide) (by decide)), eI5894, pp_off _ _ (ly_ne hy (by decide) (by decide) (by decide)), FC_at hy g5862 23 (by decide) (by decide), FC_at hy g5828 23 (by decide) (by decide), eI5794, pp_off _ _ (ly_ne hy (by decide) (by decide) (by decide)), eI5766, pp_off _ _ (ly_ne hy (by decide) (by decide) (by decide)), eI5739, pp_off _ _ (ly_ne hy (by decide) (by decide) (by decide)), eI5708, pp_off _ _ (ly_ne hy (by decide) (by decide) (by decide)), eI5683, pp_off _ _ (ly_ne hy (by decide) (by decide) (by decide)), eI5659, pp_off _ _ (ly_ne hy (by decide) (by decide) (by decide)), eI5631, pp_off _ _ (ly_ne hy (by decide) (by decide) (by decide)), eI5609, pp_off _ _ (ly_ne hy (by decide) (by decide) (by decide)), eI5588, pp_off _ _ (ly_ne hy (by decide) (by decide) (by decide)), eI5563, pp_off _ _ (ly_ne hy (by decide) (by decide) (by decide)), eI5544, pp_off _ _ (ly_ne hy (by decide) (by decide) (by decide)), eI5526, pp_off _ _ (ly_ne hy (by decide) (by decide) (by decide)), FC_at hy g5501 23 (by decide) (by decide), FC_at hy g5479 23 (by decide) (by decide), FC_at hy g5457 23 (by decide) (by decide), d23 q (by omega)]
                        exact hb5 (29, 13, 7) (by decide) q hq
                    · intro q hq; rw [FC_at hy g5863 2 (by decide) (by decide), eJ5856, pp_off _ _ (ly_ne hy (by decide) (by decide) (by decide)), FC_at hy g5829 2 (by decide) (by decide), FC_at hy g5502 2 (by decide) (by decide), FC_at hy g5480 2 (by decide) (by decide), FC_at hy g5458 2 (by decide) (by decide), FC_at hy g5436 2 (by decide) (by decide), FC_at hy g5414 2 (by decide) (by decide), FC_at hy g5392 2 (by decide) (by decide), FC_at hy g5370 2 (by decide) (by decide), FC_at hy g5348 2 (by decide) (by decide), FC_at hy g5326 2 (by decide) (by decide), FC_at hy g5304 2 (by decide) (by decide), FC_at hy g5282 2 (by decide) (by decide), FC_at hy g5260 2 (by decide) (by decide), FC_at hy g5238 2 (by decide) (by decide), FC_at hy g5216 2 (by decide) (by decide), FC_at hy kG 2 (by decide) (by decide), jA q (by omega)]; exact hR.2.2.2.2.2.2.2.1 q hq
                    · intro q hq; rw [FC_at hy g5863 3 (by decide) (by decide), eJ5856, pp_off _ _ (ly_ne hy (by decide) (by decide) (by decide)), FC_at hy g5829 3 (by decide) (by decide), FC_at hy g5502 3 (by decide) (by decide), FC_at hy g5480 3 (by decide) (by decide), FC_at hy g5458 3 (by decide) (by decide), FC_at hy g5436 3 (by decide) (by decide), FC_at hy g5414 3 (by decide) (by decide), FC_at hy g5392 3 (by decide) (by decide), FC_at hy g5370 3 (by decide) (by decide), FC_at hy g5348 3 (by decide) (by decide), FC_at hy g5326 3 (by decide) (by decide), FC_at hy g5304 3 (by decide) (by decide), FC_at hy g5282 3 (by decide) (by decide), FC_at hy g5260 3 (by decide) (by decide), FC_at hy g5238 3 (by decide) (by decide), FC_at hy g5216 3 (by decide) (by decide), kA q (by omega)]; exact hR.2.2.2.2.2.2.2.2 q hq
                    · rw [eI5984, pp_off _ _ (ly_ne hy (by decide) (by decide) (by decide)), eI5953, pp_off _ _ (ly_ne hy (by decide) (by decide) (by decide)), eI5923, pp_off _ _ (ly_ne hy (by decide) (by decide) (by decide)), eI5894, pp_off _ _ (ly_ne hy (by decide) (by decide) (by decide)), FC_at hy g5862 22 (by decide) (by decide), FC_at hy g5828 22 (by decide) (by decide), eI5794, pp_off _ _ (ly_ne hy (by decide) (by decide) (by decide)), eI5766, pp_off _ _ (ly_ne hy (by decide) (by decide) (by decide)), eI5739, pp_off _ _ (ly_ne hy (by decide) (by decide) (by decide)), eI5708, pp_off _ _ (ly_ne hy (by decide) (by decide) (by decide)), eI5683, pp_off _ _ (ly_ne hy (by decide) (by decide) (by decide)), eI5659, pp_off _ _ (ly_ne hy (by decide) (by decide) (by decide)), eI5631, pp_off _ _ (ly_ne hy (by decide) (by decide) (by decide)), eI5609, pp_off _ _ (ly_ne hy (by decide) (by decide) (by decide)), eI5588, pp_off _ _ (ly_ne hy (by decide) (by decide) (by decide)), eI5563, pp_off _ _ (ly_ne hy (by decide) (by decide) (by decide)), eI5544, pp_off _ _ (ly_ne hy (by decide) (by decide) (by decide)), eI5526, pp_off _ _ (ly_ne hy (by decide) (by decide) (by decide)), FC_at hy g5501 22 (by decide) (by decide), FC_at hy g5479 22 (by decide) (by decide), FC_at hy g5457 22 (by decide) (by decide), FC_at hy g5435 22 (by decide) (by decide), d22 q (by omega)]; exact hb5 (28, 12, 7) (by decide) q hq
                    · rw [eI5984, pp_off _ _ (ly_ne hy (by decide) (by decide) (by decide)), eI5953, pp_off _ _ (ly_ne hy (by decide) (by decide) (by decide)), eI5923, pp_off _ _ (ly_ne hy (by decide) (by decide) (by decide)), eI5894, pp_off _ _ (ly_ne hy (by decide) (by decide) (by decide)), FC_at hy g5862 38 (by decide) (by decide)]
                      unfold NW0
                      by_cases h9 : q < 28 ∨ 32 ≤ q
                      · rw [if_pos h9, p5825.1 q hq h9]
                        split
                        · rw [d10b q (by omega)]; exact hb4 (16, 4, 1) (by decide) q (by show (q : Int) < 1 * S2.1 0 1; omega)
                        · rfl
                      · rw [if_neg h9, p5825.2 q (by omega) (by omega)]
                        rcases (show q = 28 ∨ q = 29 ∨ q = 30 ∨ q = 31 by omega) with rfl | rfl | rfl | rfl
                        · rw [e5808]; omega
                        · rw [e5811]; omega
                        · rw [e5814]; omega
                        · rw [e5817]; omega
                    · omega
                    · rcases (show q = 0 ∨ q = 1 ∨ q = 2 by omega) with rfl | rfl | rfl
                      · first | exact narz (by omega) | (rw [e6006]; exact narz (by omega))
                      · first | exact narz (by omega) | (rw [e6007]; exact narz (by omega))
                      · first | exact narz (by omega) | (rw [e6008]; exact narz (by omega))
                    · rw [eI5984, pp_off _ _ (ly_ne hy (by decide) (by decide) (by decide)), eI5953, pp_off _ _ (ly_ne hy (by decide) (by decide) (by decide)), eI5923, pp_off _ _ (ly_ne hy (by decide) (by decide) (by decide)), eI5894, pp_off _ _ (ly_ne hy (by decide) (by decide) (by decide))]; exact p5859 q hq
                    · rcases (show q = 0 ∨ q = 1 ∨ q = 2 ∨ q = 3 by omega) with rfl | rfl | rfl | rfl
                      · constructor <;> first | omega | (rw [e5998]; omega) | (rw [e5999]; omega)
                      · constructor <;> first | omega | (rw [e6000]; omega) | (rw [e6001]; omega)
                      · constructor <;> first | omega | (rw [e6002]; omega) | (rw [e6003]; omega)
                      · constructor <;> first | omega | (rw [e6004]; omega) | (rw [e6005]; omega)
                    · omega⟩
                · refine WP_aload_n dX11_town_114 rfl ?_
                  refine WP_getr dX11_town_115 fX11_230 rfl (ly_is hy 0 11 rfl) (rf hr 0 21 3 (by decide)) ?_
                  refine WP_iload_n dX11_town_118 rfl ?_
                  refine WP_aload_n dX11_town_119 rfl ?_
                  refine WP_getr dX11_town_120 fX11_129 rfl (ly_is hy 0 11 rfl) (rf hr 0 23 5 (by decide)) ?_
                  refine WP_iload_n dX11_town_123 rfl ?_
                  refine WE_la dX11_town_124 (ly_is hy 5 14 rfl) (ly_n hy 5 3 rfl) (by omega) (by omega) (fun l6012 el6012 => ?_)
                  refine WE_ls dX11_town_125 (ly_is hy 3 14 rfl) (ly_n hy 3 3 rfl) (by omega) (by omega) (fun J6013 eJ6013 => ?_)
                  have e6014 : J6013 (ad g 5) i5207.toInt.toNat = l6012 := by rw [eJ6013, pp_ne _ _ (Or.inl (ly_ne hy (by decide) (by decide) (by decide)))]; exact el6012
                  have fJ6015 : FC g [0, 2, 3, 4, 5] J J6013 := by rw [eJ6013]; exact FC_pp fJ5209 (by decide)
                  refine WP_iinc (ls' := [(0, _), (1, _)]) dX11_town_126 rfl (by decide) rfl ?_
                  have hv6016 : (i5207 + Int32.ofInt (1)).toInt = i5207.toInt + (1) := ia_n rfl (by omega) (by omega)
                  generalize i5207 + Int32.ofInt (1) = v6016 at hv6016 ⊢
                  refine WP_goto 106 dX11_town_129 rfl ?_
                  refine WP_sub (fc rfl (fc rfl fn)) (ihlp5210 v6016 J6013 fJ6015 ?_ ?_)
                  · try simp only [e5185, e5186, e5187, ew3395, ew3396, ew3397]
                    refine ⟨k2 + 1, by omega, by omega, fun q hq => ?_, by rw [eJ6013]; exact FC_pp kF (by decide), by rw [eJ6013]; exact FC_pp kG (by decide)⟩
                    rw [eJ6013, show i5207.toInt.toNat = k2 by omega, pp_at]
                    split
                    · rename_i e9
                      rw [e9, ← el6012, show i5207.toInt.toNat = k2 by omega, FC_at hy kF 5 (by decide) (by decide)]
                    · exact kA q (by omega)
                  · try simp only [e5185, e5186, e5187, ew3395, ew3396, ew3397]
                    omega
            refine WP_sub (fc rfl (fc rfl fn)) (lp5210 _ v5206 J5202 fJ5203 ?_ (Nat.lt_succ_self _))
            · try simp only [e5185, e5186, e5187, ew3395, ew3396, ew3397]
              exact ⟨0, by omega, by omega, fun q h => absurd h (Nat.not_lt_zero _), FC_mono jF (by decide), FC_rf⟩
          · refine WP_aload_n dX11_town_86 rfl ?_
            refine WP_getr dX11_town_87 fX11_227 rfl (ly_is hy 0 11 rfl) (rf hr 0 20 2 (by decide)) ?_
            refine WP_iload_n dX11_town_90 rfl ?_
            refine WP_aload_n dX11_town_91 rfl ?_
            refine WP_getr dX11_town_92 fX11_91 rfl (ly_is hy 0 11 rfl) (rf hr 0 22 4 (by decide)) ?_
            refine WP_iload_n dX11_town_95 rfl ?_
            refine WE_la dX11_town_96 (ly_is hy 4 14 rfl) (ly_n hy 4 4 rfl) (by omega) (by omega) (fun l6017 el6017 => ?_)
            refine WE_ls dX11_town_97 (ly_is hy 2 14 rfl) (ly_n hy 2 4 rfl) (by omega) (by omega) (fun J6018 eJ6018 => ?_)
            have e6019 : J6018 (ad g 4) i5201.toInt.toNat = l6017 := by rw [eJ6018, pp_ne _ _ (Or.inl (ly_ne hy (by decide) (by decide) (by decide)))]; exact el6017
            have fJ6020 : FC g [0, 2, 3, 4, 5] J J6018 := by rw [eJ6018]; exact FC_pp fJ5203 (by decide)
            refine WP_iinc (ls' := [(0, _), (1, _)]) dX11_town_98 rfl (by decide) rfl ?_
            have hv6021 : (i5201 + Int32.ofInt (1)).toInt = i5201.toInt + (1) := ia_n rfl (by omega) (by omega)
            generalize i5201 + Int32.ofInt (1) = v6021 at hv6021 ⊢
            refine WP_goto 78 dX11_town_101 rfl ?_
            refine WP_sub (fc rfl (fc rfl fn)) (ihlp5204 v6021 J6018 fJ6020 ?_ ?_)
            · try simp only [e5185, e5186, e5187, ew3395, ew3396, ew3397]
              refine ⟨k + 1, by omega, by omega, fun q hq => ?_, by rw [eJ6018]; exact FC_pp jF (by decide)⟩
              rw [eJ6018, show i5201.toInt.toNat = k by omega, pp_at]
              split
              · rename_i e9
                rw [e9, ← el6017, show i5201.toInt.toNat = k by omega, FC_at hy jF 4 (by decide) (by decide)]
              · exact jA q (by omega)
            · try simp only [e5185, e5186, e5187, ew3395, ew3396, ew3397]
              omega
      refine WP_sub (fc rfl (fc rfl fn)) (lp5204 _ v5200 J3413 fJ3419 ?_ (Nat.lt_succ_self _))
      · try simp only [e5185, e5186, e5187, ew3395, ew3396, ew3397]
        exact ⟨0, by omega, by omega, fun q h => absurd h (Nat.not_lt_zero _), FC_rf⟩
  · refine WQ_iconst (-1) (-1) dX11_town_11 rfl rfl (fun v6022 hv6022 => ?_)
    exact WP_iret dX11_town_12 rfl ⟨rfl, fI3418, fJ3419, fQ3420, v6022, rfl, by
      try simp only [e3417, ew3421, ew3422, ew3395, ew3396, ew3397]
      rcases p3410 with ⟨z, e⟩ | ⟨z, -⟩
      · exact Or.inl ⟨by omega, e, FC_tr (FC_mono g3401 (by decide)) (FC_mono g3414 (by decide)), FC_tr (FC_mono g3402 (by decide)) (FC_mono g3415 (by decide)), FQ_tr (FQ_mono g3403 (by decide)) (FQ_mono g3416 (by decide))⟩
      · exact absurd z (by omega)⟩
