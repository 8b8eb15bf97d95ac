theorem WE_zs {g : GG} {d : MD} {pc : Nat} {ls : List (Nat × Value)} {st : List Value} {I : pI} {J : pJ} {R : pR} {Q : Post} {a n : Nat} {i x : Int32} (h : decode (md_c d) pc = .ok (.bastore, 1)) (ha : g_is g a 15) (hn : g_n g a = n) (h0 : 0 ≤ i.toInt) (h1 : i.toInt < n) (kk : ∀ (I2 : pI), I2 = pp I a i.toInt.toNat (vp_nar .boolean x) → WP g d (pc + 1) ls st I2 J R Q) : WP g d pc ls (.int x :: .int i :: .ref a :: st) I J R Q := WP_zast h ha (by rw [hn]; exact vin h0 h1) (by rw [cln h0]; exact kk _ rfl)
theorem narz {x : Int32} (h : x.toInt = 0) : (vp_nar .boolean x).toInt = 0 := by
  obtain rfl : x = 0 := (eq32 x 0).mpr h
  rfl
/-- the town at hand of the reference -/
def tsT : List (Nat × Nat × Nat) := [(8, 2, 1), (9, 3, 1), (10, 4, 1), (11, 5, 1), (20, 6, 7), (24, 7, 7), (25, 8, 7), (26, 9, 7)]
def ttT : List (Nat × Nat × Nat) := [(12, 10, 1), (13, 11, 1), (21, 12, 7), (23, 13, 7)]
def RTT (g : GG) (S : TwS) (I : pI) (J : pJ) : Prop :=
  ((I (ad g 0) 10).toInt = S.1 0 1 ∧ (I (ad g 0) 11).toInt = S.1 0 2 ∧ (I (ad g 0) 12).toInt = S.1 0 0 ∧ (I (ad g 0) 13).toInt = S.1 0 3 ∧ (I (ad g 0) 14).toInt = S.1 0 4) ∧
  (∀ q, q < 7 → (I (ad g 6) q).toInt = S.1 1 q) ∧
  (∀ e ∈ tsT, ∀ q : Nat, (q : Int) < (e.2.2 : Int) * S.1 0 1 → (I (ad g e.1) q).toInt = S.1 e.2.1 q) ∧
  (∀ e ∈ ttT, ∀ q : Nat, (q : Int) < (e.2.2 : Int) * S.1 0 2 → (I (ad g e.1) q).toInt = S.1 e.2.1 q) ∧ NMT g S J
def NW0 (S : TwS) (q : Nat) : Int := if q < 28 ∨ 32 ≤ q then (if (q : Int) < S.1 0 1 then S.1 4 q else 0) else 1
/-- all that begins anew with a town -/
def STM (g : GG) (S : TwS) (I : pI) (J : pJ) : Prop := (∀ q : Nat, (q : Int) < 7 * S.1 0 2 → (I (ad g 22) q).toInt = S.1 12 q) ∧ (∀ q, q < 35 → (I (ad g 38) q).toInt = NW0 S q) ∧ (J (ad g 0) 61).toInt = 0 ∧ (∀ q, q < 3 → (I (ad g 44) q).toInt = 0) ∧ (∀ q, q < 28 → (I (ad g 37) q).toInt = 0) ∧ (∀ q, q < 4 → (I (ad g 46) q).toInt = 0 ∧ (I (ad g 47) q).toInt = 0) ∧ (I (ad g 0) 68).toInt = -1
set_option maxHeartbeats 4000000 in
set_option maxRecDepth 100000 in
theorem em_putFour {g : GG} {I : pI} {J : pJ} {R : pR} (hy : Ly g) (hr : Rf g R) {n : Nat} (four : Int32) (h1 : (I (ad g 0) 1).toInt = (n : Int)) (hn : n + 4 ≤ 900) : SP g mX11_putFour [.ref (ad g 0), .int four] I J R (fun r I' J' R' => R' = R ∧ FC g [0, 1] I I' ∧ FC g [] J J' ∧ FQ g [1] I I' ∧ r = none ∧ ((I' (ad g 0) 1).toInt = (n + 4 : Nat) ∧ I' (ad g 1) = PUT (I (ad g 1)) n four 4)) := by
  refine SP_of ⟨by decide, rfl⟩ (Nat.le_of_ble_eq_true rfl) ?_
  have fI0 : FC g [0, 1] I I := FC_rf
  have fJ0 : FC g [] J J := FC_rf
  have fQ0 : FQ g [1] I I := FQ_rf
  obtain ⟨w3020, ew3020⟩ : ∃ w : Int32, I (ad g 0) 1 = w := ⟨_, rfl⟩
  try simp only [ew3020] at h1
  refine WQ_bipush (24) (24) dX11_putFour_0 rfl rfl (fun v3021 hv3021 => ?_)
  refine WP_istore_n (ls' := [(0, _), (1, _), (2, _)]) dX11_putFour_2 (by decide) rfl ?_
  have lp3026 : ∀ (mz : Nat) (i3022 : Int32) (I3023 : pI), FC g [0, 1] I I3023 → FQ g [1] I I3023 → (∃ k : Nat, k ≤ 4 ∧ i3022.toInt = 24 - 8 * (k : Int) ∧ (I3023 (ad g 0) 1).toInt = (n : Int) + k ∧ I3023 (ad g 1) = PUT (I (ad g 1)) n four k) → (i3022.toInt + 9).toNat < mz → WP g mX11_putFour 3 [(0, .ref (ad g 0)), (1, .int four), (2, .int i3022)] [] I3023 J R (fun r I' J' R' => R' = R ∧ FC g [0, 1] I I' ∧ FC g [] J J' ∧ FQ g [1] I I' ∧ r = none ∧ ((I' (ad g 0) 1).toInt = (n + 4 : Nat) ∧ I' (ad g 1) = PUT (I (ad g 1)) n four 4)) := by
    intro mz
    induction mz with
    | zero =>
      intro i3022 I3023 fI3024 fQ3025 hvlp3026 hmlp3026
      exact absurd hmlp3026 (Nat.not_lt_zero _)
    | succ mz ihlp3026 =>
      intro i3022 I3023 fI3024 fQ3025 hvlp3026 hmlp3026
      obtain ⟨w3027, ew3027⟩ : ∃ w : Int32, I3023 (ad g 0) 1 = w := ⟨_, rfl⟩
      try simp only [ew3027, ew3020] at hvlp3026 hmlp3026
      obtain ⟨k, ik, i2, i1, iP⟩ := hvlp3026
      refine WP_iload_n dX11_putFour_3 rfl ?_
      refine WQ_if_lt 36 dX11_putFour_4 rfl (fun c3027 => ?_) (fun c3027 => ?_)
      · exact WP_vret dX11_putFour_36 rfl ⟨rfl, fI3024, fJ0, fQ3025, rfl, by
          try simp only [ew3027, ew3020]
          obtain rfl : k = 4 := by omega
          exact ⟨by omega, iP⟩⟩
      · refine WP_aload_n dX11_putFour_7 rfl ?_
        refine WP_getr dX11_putFour_8 fX11_16 rfl (ly_is hy 0 11 rfl) (rf hr 0 0 1 (by decide)) ?_
        refine WP_aload_n dX11_putFour_11 rfl ?_
        refine WQ_getim dX11_putFour_12 fX11_75 rfl (ly_is hy 0 11 rfl) ew3027 ?_
        refine WP_iload_n dX11_putFour_15 rfl ?_
        refine WP_iload_n dX11_putFour_16 rfl ?_
        refine WP_ishr dX11_putFour_17 ?_
        obtain ⟨v3029, xv3029⟩ : ∃ v : Int32, v = four >>> (i3022 &&& 31) := ⟨_, rfl⟩
        rw [← xv3029]
        refine WP_i2b dX11_putFour_18 ?_
        obtain ⟨v3030, xv3030⟩ : ∃ v : Int32, v = v3029.toInt8.toInt32 := ⟨_, rfl⟩
        rw [← xv3030]
        refine WE_bs dX11_putFour_19 (ly_is hy 1 12 rfl) (ly_n hy 1 900 rfl) (by omega) (by omega) (fun I3031 eI3031 => ?_)
        have e3032 : I3031 (ad g 0) 1 = w3027 := by rw [eI3031, pp_ne _ _ (Or.inl (ly_ne hy (by decide) (by decide) (by decide)))]; exact ew3027
        have fI3033 : FC g [0, 1] I I3031 := by rw [eI3031]; exact FC_pp fI3024 (by decide)
        have fQ3034 : FQ g [1] I I3031 := by rw [eI3031]; exact FQ_ppn (ly_ne hy (by decide) (by decide) (by decide)) fQ3025
        refine WP_aload_n dX11_putFour_20 rfl ?_
        refine WP_dup dX11_putFour_21 rfl ?_
        refine WQ_getim dX11_putFour_22 fX11_75 rfl (ly_is hy 0 11 rfl) e3032 ?_
        refine WQ_iconst (1) (1) dX11_putFour_25 rfl rfl (fun v3035 hv3035 => ?_)
        refine WQ_iadd dX11_putFour_26 (by omega) (by omega) (fun v3036 hv3036 => ?_)
        refine WQ_puti dX11_putFour_27 fX11_75 rfl rfl (ly_is hy 0 11 rfl) (fun I3037 eI3037 => ?_)
        have e3038 : I3037 (ad g 0) 1 = v3036 := by rw [eI3037, pp_self]
        have fI3039 : FC g [0, 1] I I3037 := by rw [eI3037]; exact FC_pp fI3033 (by decide)
        have fQ3040 : FQ g [1] I I3037 := by rw [eI3037]; exact FQ_pp0 fQ3034 (by decide)
        refine WP_iinc (ls' := [(0, _), (1, _), (2, _)]) dX11_putFour_30 rfl (by decide) rfl ?_
        have hv3041 : (i3022 + Int32.ofInt (-8)).toInt = i3022.toInt + (-8) := ia_n rfl (by omega) (by omega)
        generalize i3022 + Int32.ofInt (-8) = v3041 at hv3041 ⊢
        refine WP_goto 3 dX11_putFour_33 rfl ?_
        refine WP_sub (fc rfl (fc rfl (fc rfl fn))) (ihlp3026 v3041 I3037 fI3039 fQ3040 ?_ ?_)
        · try simp only [e3038, ew3020]
          refine ⟨k + 1, by omega, by omega, by omega, ?_⟩
          rw [eI3037, pp_off _ _ (ly_ne hy (by decide) (by decide) (by decide)), eI3031, show w3027.toInt.toNat = n + k by omega, pp_fun, iP]
          exact PUT_s (by4_of (by omega) (by omega) xv3029 xv3030)
        · try simp only [e3038, ew3020]
          omega
  refine WP_sub (fc rfl (fc rfl (fc rfl fn))) (lp3026 _ v3021 I fI0 fQ0 ?_ (Nat.lt_succ_self _))
  · try simp only [ew3020]
    exact ⟨0, by omega, by omega, by omega, PUT_0.symm⟩
set_option maxHeartbeats 4000000 in
set_option maxRecDepth 100000 in
theorem em_feed {g : GG} {I : pI} {J : pJ} {R : pR} (hy : Ly g) (hr : Rf g R) {n : Nat} (a : Int32) (b : Int32) (c : Int32) (d : Int32) (e : Int32) (h1 : (I (ad g 0) 1).toInt = (n : Int)) (hn : n ≤ 900) : SP g mX11_feed [.ref (ad g 0), .int a, .int b, .int c, .int d, .int e] I J R (fun r I' J' R' => R' = R ∧ FC g [0, 1] I I' ∧ FC g [] J J' ∧ FQ g [1] I I' ∧ ∃ v : Int32, r = some (.int v) ∧ ((880 < n ∧ v.toInt = -3 ∧ I' (ad g 1) = I (ad g 1)) ∨ (n ≤ 880 ∧ v.toInt = (n : Int) + 20 ∧ I' (ad g 1) = PUT5 (I (ad g 1)) n a b c d e))) := by
  refine SP_of ⟨by decide, rfl⟩ (Nat.le_of_ble_eq_true rfl) ?_
  have fI0 : FC g [0, 1] I I := FC_rf
  have fJ0 : FC g [] J J := FC_rf
  have fQ0 : FQ g [1] I I := FQ_rf
  have h1x := h1
  obtain ⟨w3042, ew3042⟩ : ∃ w : Int32, I (ad g 0) 1 = w := ⟨_, rfl⟩
  try simp only [ew3042] at h1
  refine WP_aload_n dX11_feed_0 rfl ?_
  refine WQ_getim dX11_feed_1 fX11_75 rfl (ly_is hy 0 11 rfl) ew3042 ?_
  refine WQ_bipush (20) (20) dX11_feed_4 rfl rfl (fun v3043 hv3043 => ?_)
  refine WQ_iadd dX11_feed_6 (by omega) (by omega) (fun v3044 hv3044 => ?_)
  refine WQ_sipush (900) (900) dX11_feed_7 rfl rfl (fun v3045 hv3045 => ?_)
  refine WQ_icmp_le 16 dX11_feed_10 rfl (fun c3045 => ?_) (fun c3045 => ?_)
  · refine WP_aload_n dX11_feed_16 rfl ?_
    refine WP_iload_n dX11_feed_17 rfl ?_
    refine WP_callV1 (k := 11) dX11_feed_18 ⟨⟨⟨by decide, by decide⟩, zX11_putFour⟩, lX11_319, by decide, rfl, vX11_putFour.1, vX11_putFour.2⟩ (ly_is hy 0 11 rfl) (em_putFour hy hr _  (n := n) h1x (by omega)) (Nat.le_of_ble_eq_true rfl) ?_
    intro r I3048 J3049 Ra hq
    obtain ⟨ec, g3050, g3051, g3052, er, p3047⟩ := hq
    rw [ec, er]
    clear ec er Ra r
    have fI3053 : FC g [0, 1] I I3048 := FC_tr fI0 (FC_mono g3050 (by decide))
    have fJ3054 : FC g [] J J3049 := FC_tr fJ0 (FC_mono g3051 (by decide))
    have fQ3055 : FQ g [1] I I3048 := FQ_tr fQ0 (FQ_mono g3052 (by decide))
    obtain ⟨w3056, ew3056⟩ : ∃ w : Int32, I3048 (ad g 0) 1 = w := ⟨_, rfl⟩
    try simp only [ew3056, ew3042] at p3047
    obtain ⟨a1, b1⟩ := p3047
    refine WP_aload_n dX11_feed_21 rfl ?_
    refine WP_iload_n dX11_feed_22 rfl ?_
    refine WP_callV1 (k := 11) dX11_feed_23 ⟨⟨⟨by decide, by decide⟩, zX11_putFour⟩, lX11_319, by decide, rfl, vX11_putFour.1, vX11_putFour.2⟩ (ly_is hy 0 11 rfl) (em_putFour hy hr _  (n := n + 4) (by rw [ew3056]; exact a1) (by omega)) (Nat.le_of_ble_eq_true rfl) ?_
    intro r I3058 J3059 Ra hq
    obtain ⟨ec, g3060, g3061, g3062, er, p3057⟩ := hq
    rw [ec, er]
    clear ec er Ra r
    have fI3063 : FC g [0, 1] I I3058 := FC_tr fI3053 (FC_mono g3060 (by decide))
    have fJ3064 : FC g [] J J3059 := FC_tr fJ3054 (FC_mono g3061 (by decide))
    have fQ3065 : FQ g [1] I I3058 := FQ_tr fQ3055 (FQ_mono g3062 (by decide))
    obtain ⟨w3066, ew3066⟩ : ∃ w : Int32, I3058 (ad g 0) 1 = w := ⟨_, rfl⟩
    try simp only [ew3066, ew3042] at p3057
    obtain ⟨a2, b2⟩ := p3057
    refine WP_aload_n dX11_feed_26 rfl ?_
    refine WP_iload_n dX11_feed_27 rfl ?_
    refine WP_callV1 (k := 11) dX11_feed_28 ⟨⟨⟨by decide, by decide⟩, zX11_putFour⟩, lX11_319, by decide, rfl, vX11_putFour.1, vX11_putFour.2⟩ (ly_is hy 0 11 rfl) (em_putFour hy hr _  (n := n + 4 + 4) (by rw [ew3066]; exact a2) (by omega)) (Nat.le_of_ble_eq_true rfl) ?_
    intro r I3068 J3069 Ra hq
    obtain ⟨ec, g3070, g3071, g3072, er, p3067⟩ := hq
    rw [ec, er]
    clear ec er Ra r
    have fI3073 : FC g [0, 1] I I3068 := FC_tr fI3063 (FC_mono g3070 (by decide))
    have fJ3074 : FC g [] J J3069 := FC_tr fJ3064 (FC_mono g3071 (by decide))
    have fQ3075 : FQ g [1] I I3068 := FQ_tr fQ3065 (FQ_mono g3072 (by decide))
    obtain ⟨w3076, ew3076⟩ : ∃ w : Int32, I3068 (ad g 0) 1 = w := ⟨_, rfl⟩
    try simp only [ew3076, ew3042] at p3067
    obtain ⟨a3, b3⟩ := p3067
    refine WP_aload_n dX11_feed_31 rfl ?_
    refine WP_iload dX11_feed_32 rfl ?_
    refine WP_callV1 (k := 11) dX11_feed_34 ⟨⟨⟨by decide, by decide⟩, zX11_putFour⟩, lX11_319, by decide, rfl, vX11_putFour.1, vX11_putFour.2⟩ (ly_is hy 0 11 rfl) (em_putFour hy hr _  (n := n + 4 + 4 + 4) (by rw [ew3076]; exact a3) (by omega)) (Nat.le_of_ble_eq_true rfl) ?_
    intro r I3078 J3079 Ra hq
    obtain ⟨ec, g3080, g3081, g3082, er, p3077⟩ := hq
    rw [ec, er]
    clear ec er Ra r
    have fI3083 : FC g [0, 1] I I3078 := FC_tr fI3073 (FC_mono g3080 (by decide))
    have fJ3084 : FC g [] J J3079 := FC_tr fJ3074 (FC_mono g3081 (by decide))
    have fQ3085 : FQ g [1] I I3078 := FQ_tr fQ3075 (FQ_mono g3082 (by decide))
    obtain ⟨w3086, ew3086⟩ : ∃ w : Int32, I3078 (ad g 0) 1 = w := ⟨_, rfl⟩
    try simp only [ew3086, ew3042] at p3077
    obtain ⟨a4, b4⟩ := p3077
    refine WP_aload_n dX11_feed_37 rfl ?_
    refine WP_iload dX11_feed_38 rfl ?_
    refine WP_callV1 (k := 11) dX11_feed_40 ⟨⟨⟨by decide, by decide⟩, zX11_putFour⟩, lX11_319, by decide, rfl, vX11_putFour.1, vX11_putFour.2⟩ (ly_is hy 0 11 rfl) (em_putFour hy hr _  (n := n + 4 + 4 + 4 + 4) (by rw [ew3086]; exact a4) (by omega)) (Nat.le_of_ble_eq_true rfl) ?_
    intro r I3088 J3089 Ra hq
    obtain ⟨ec, g3090, g3091, g3092, er, p3087⟩ := hq
    rw [ec, er]
    clear ec er Ra r
    have fI3093 : FC g [0, 1] I I3088 := FC_tr fI3083 (FC_mono g3090 (by decide))
    have fJ3094 : FC g [] J J3089 := FC_tr fJ3084 (FC_mono g3091 (by decide))
    have fQ3095 : FQ g [1] I I3088 := FQ_tr fQ3085 (FQ_mono g3092 (by decide))
    obtain ⟨w3096, ew3096⟩ : ∃ w : Int32, I3088 (ad g 0) 1 = w := ⟨_, rfl⟩
    try simp only [ew3096, ew3042] at p3087
    obtain ⟨a5, b5⟩ := p3087
    refine WP_aload_n dX11_feed_43 rfl ?_
    refine WQ_getim dX11_feed_44 fX11_75 rfl (ly_is hy 0 11 rfl) ew3096 ?_
    exact WP_iret dX11_feed_47 rfl ⟨rfl, fI3093, fJ3094, fQ3095, w3096, rfl, by
      try simp only [ew3096, ew3042]
      refine Or.inr ⟨by omega, by omega, ?_⟩
      rw [b5, b4, b3, b2, b1]
      rfl⟩
  · refine WQ_bipush (-3) (-3) dX11_feed_13 rfl rfl (fun v3097 hv3097 => ?_)
    exact WP_iret dX11_feed_15 rfl ⟨rfl, fI0, fJ0, fQ0, v3097, rfl, by
      try simp only [ew3042]
      exact Or.inl ⟨by omega, by omega, by first | rfl | trivial⟩⟩
set_option maxHeartbeats 4000000 in
set_option maxRecDepth 100000 in
theorem em_copy6 {g : GG} {I : pI} {J : pJ} {R : pR} (hy : Ly g) (hr : Rf g R)    : SP g mX11_copy [.ref (ad g 6), .ref (ad g 7)] I J R (fun r I' J' R' => R' = R ∧ FC g [6] I I' ∧ FC g [] J J' ∧ FQ g [] I I' ∧ r = none ∧ (∀ q, q < 7 → I' (ad g 6) q = I (ad g 7) q)) := by
  refine SP_of ⟨by decide, rfl⟩ (Nat.le_of_ble_eq_true rfl) ?_
  have fI0 : FC g [6] I I := FC_rf
  have fJ0 : FC g [] J J := FC_rf
  have fQ0 : FQ g [] I I := FQ_rf
  refine WQ_iconst (0) (0) dX11_copy_0 rfl rfl (fun v3098 hv3098 => ?_)
  refine WP_istore_n (ls' := [(0, _), (1, _), (2, _)]) dX11_copy_1 (by decide) rfl ?_
  have lp3103 : ∀ (mz : Nat) (i3099 : Int32) (I3100 : pI), FC g [6] I I3100 → FQ g [] I I3100 → (∃ k : Nat, i3099.toInt = (k : Int) ∧ k ≤ 7 ∧ ∀ q, q < k → I3100 (ad g 6) q = I (ad g 7) q) → (8 - i3099.toInt.toNat) < mz → WP g mX11_copy 2 [(0, .ref (ad g 6)), (1, .ref (ad g 7)), (2, .int i3099)] [] I3100 J R (fun r I' J' R' => R' = R ∧ FC g [6] I I' ∧ FC g [] J J' ∧ FQ g [] I I' ∧ r = none ∧ (∀ q, q < 7 → I' (ad g 6) q = I (ad g 7) q)) := by
    intro mz
    induction mz with
    | zero =>
      intro i3099 I3100 fI3101 fQ3102 hvlp3103 hmlp3103
      exact absurd hmlp3103 (Nat.not_lt_zero _)
    | succ mz ihlp3103 =>
      intro i3099 I3100 fI3101 fQ3102 hvlp3103 hmlp3103
      obtain ⟨k, ik, ik4, iA⟩ := hvlp3103
      refine WP_iload_n dX11_copy_2 rfl ?_
      refine WP_aload_n dX11_copy_3 rfl ?_
      refine WP_alen dX11_copy_4 (ly_is hy 6 13 rfl) (by decide) ?_
      rw [(ly_n hy 6 7 rfl)]
      obtain ⟨v3104, hv3104, ev3104⟩ : ∃ v : Int32, v.toInt = 7 ∧ nI 7 = v := ⟨_, nI_toInt (by decide), rfl⟩
      rw [ev3104]; clear ev3104
      refine WQ_icmp_ge 20 dX11_copy_5 rfl (fun c3104 => ?_) (fun c3104 => ?_)
      · exact WP_vret dX11_copy_20 rfl ⟨rfl, fI3101, fJ0, fQ3102, rfl, by
          intro q9 hq9
          exact iA q9 (by omega)⟩
      · refine WP_aload_n dX11_copy_8 rfl ?_
        refine WP_iload_n dX11_copy_9 rfl ?_
        refine WP_aload_n dX11_copy_10 rfl ?_
        refine WP_iload_n dX11_copy_11 rfl ?_
        have fB := fI3101
        refine WE_ia dX11_copy_12 (ly_is hy 7 13 rfl) (ly_n hy 7 7 rfl) (by omega) (by omega) (fun v3106 ev3106 => ?_)
        refine WE_is dX11_copy_13 (ly_is hy 6 13 rfl) (ly_n hy 6 7 rfl) (by omega) (by omega) (fun I3107 eI3107 => ?_)
        have e3108 : I3107 (ad g 7) i3099.toInt.toNat = v3106 := by rw [eI3107, pp_ne _ _ (Or.inl (ly_ne hy (by decide) (by decide) (by decide)))]; exact ev3106
        have fI3109 : FC g [6] I I3107 := by rw [eI3107]; exact FC_pp fI3101 (by decide)
        have fQ3110 : FQ g [] I I3107 := by rw [eI3107]; exact FQ_ppn (ly_ne hy (by decide) (by decide) (by decide)) fQ3102
        refine WP_iinc (ls' := [(0, _), (1, _), (2, _)]) dX11_copy_14 rfl (by decide) rfl ?_
        have hv3111 : (i3099 + Int32.ofInt (1)).toInt = i3099.toInt + (1) := ia_n rfl (by omega) (by omega)
        generalize i3099 + Int32.ofInt (1) = v3111 at hv3111 ⊢
        refine WP_goto 2 dX11_copy_17 rfl ?_
        refine WP_sub (fc rfl (fc rfl (fc rfl fn))) (ihlp3103 v3111 I3107 fI3109 fQ3110 ?_ ?_)
        · refine ⟨k + 1, by omega, by omega, fun q hq => ?_⟩
          rw [eI3107, show i3099.toInt.toNat = k by omega, pp_at]
          split
          · rename_i e9
            rw [e9, ← ev3106, show i3099.toInt.toNat = k by omega, FC_at hy fB 7 (by decide) (by decide)]
          · exact iA q (by omega)
        · omega
  refine WP_sub (fc rfl (fc rfl (fc rfl fn))) (lp3103 _ v3098 I fI0 fQ0 ?_ (Nat.lt_succ_self _))
  · exact ⟨0, by omega, by omega, fun q h => absurd h (Nat.not_lt_zero _)⟩
set_option maxHeartbeats 4000000 in
set_option maxRecDepth 100000 in
theorem em_copy8 {g : GG} {I : pI} {J : pJ} {R : pR} (hy : Ly g) (hr : Rf g R)    : SP g mX11_copy [.ref (ad g 8), .ref (ad g 14)] I J R (fun r I' J' R' => R' = R ∧ FC g [8] I I' ∧ FC g [] J J' ∧ FQ g [] I I' ∧ r = none ∧ (∀ q, q < 4 → I' (ad g 8) q = I (ad g 14) q)) := by
  refine SP_of ⟨by decide, rfl⟩ (Nat.le_of_ble_eq_true rfl) ?_
  have fI0 : FC g [8] I I := FC_rf
  have fJ0 : FC g [] J J := FC_rf
  have fQ0 : FQ g [] I I := FQ_rf
  refine WQ_iconst (0) (0) dX11_copy_0 rfl rfl (fun v3112 hv3112 => ?_)
  refine WP_istore_n (ls' := [(0, _), (1, _), (2, _)]) dX11_copy_1 (by decide) rfl ?_
  have lp3117 : ∀ (mz : Nat) (i3113 : Int32) (I3114 : pI), FC g [8] I I3114 → FQ g [] I I3114 → (∃ k : Nat, i3113.toInt = (k : Int) ∧ k ≤ 4 ∧ ∀ q, q < k → I3114 (ad g 8) q = I (ad g 14) q) → (5 - i3113.toInt.toNat) < mz → WP g mX11_copy 2 [(0, .ref (ad g 8)), (1, .ref (ad g 14)), (2, .int i3113)] [] I3114 J R (fun r I' J' R' => R' = R ∧ FC g [8] I I' ∧ FC g [] J J' ∧ FQ g [] I I' ∧ r = none ∧ (∀ q, q < 4 → I' (ad g 8) q = I (ad g 14) q)) := by
    intro mz
    induction mz with
    | zero =>
      intro i3113 I3114 fI3115 fQ3116 hvlp3117 hmlp3117
      exact absurd hmlp3117 (Nat.not_lt_zero _)
    | succ mz ihlp3117 =>
      intro i3113 I3114 fI3115 fQ3116 hvlp3117 hmlp3117
      obtain ⟨k, ik, ik4, iA⟩ := hvlp3117
      refine WP_iload_n dX11_copy_2 rfl ?_
      refine WP_aload_n dX11_copy_3 rfl ?_
      refine WP_alen dX11_copy_4 (ly_is hy 8 13 rfl) (by decide) ?_
      rw [(ly_n hy 8 4 rfl)]
      obtain ⟨v3118, hv3118, ev3118⟩ : ∃ v : Int32, v.toInt = 4 ∧ nI 4 = v := ⟨_, nI_toInt (by decide), rfl⟩
      rw [ev3118]; clear ev3118
      refine WQ_icmp_ge 20 dX11_copy_5 rfl (fun c3118 => ?_) (fun c3118 => ?_)
      · exact WP_vret dX11_copy_20 rfl ⟨rfl, fI3115, fJ0, fQ3116, rfl, by
          intro q9 hq9
          exact iA q9 (by omega)⟩
      · refine WP_aload_n dX11_copy_8 rfl ?_
        refine WP_iload_n dX11_copy_9 rfl ?_
        refine WP_aload_n dX11_copy_10 rfl ?_
        refine WP_iload_n dX11_copy_11 rfl ?_
        have fB := fI3115
        refine WE_ia dX11_copy_12 (ly_is hy 14 13 rfl) (ly_n hy 14 4 rfl) (by omega) (by omega) (fun v3120 ev3120 => ?_)
        refine WE_is dX11_copy_13 (ly_is hy 8 13 rfl) (ly_n hy 8 4 rfl) (by omega) (by omega) (fun I3121 eI3121 => ?_)
        have e3122 : I3121 (ad g 14) i3113.toInt.toNat = v3120 := by rw [eI3121, pp_ne _ _ (Or.inl (ly_ne hy (by decide) (by decide) (by decide)))]; exact ev3120
        have fI3123 : FC g [8] I I3121 := by rw [eI3121]; exact FC_pp fI3115 (by decide)
        have fQ3124 : FQ g [] I I3121 := by rw [eI3121]; exact FQ_ppn (ly_ne hy (by decide) (by decide) (by decide)) fQ3116
        refine WP_iinc (ls' := [(0, _), (1, _), (2, _)]) dX11_copy_14 rfl (by decide) rfl ?_
        have hv3125 : (i3113 + Int32.ofInt (1)).toInt = i3113.toInt + (1) := ia_n rfl (by omega) (by omega)
        generalize i3113 + Int32.ofInt (1) = v3125 at hv3125 ⊢
        refine WP_goto 2 dX11_copy_17 rfl ?_
        refine WP_sub (fc rfl (fc rfl (fc rfl fn))) (ihlp3117 v3125 I3121 fI3123 fQ3124 ?_ ?_)
        · refine ⟨k + 1, by omega, by omega, fun q hq => ?_⟩
          rw [eI3121, show i3113.toInt.toNat = k by omega, pp_at]
          split
          · rename_i e9
            rw [e9, ← ev3120, show i3113.toInt.toNat = k by omega, FC_at hy fB 14 (by decide) (by decide)]
          · exact iA q (by omega)
        · omega
  refine WP_sub (fc rfl (fc rfl (fc rfl fn))) (lp3117 _ v3112 I fI0 fQ0 ?_ (Nat.lt_succ_self _))
  · exact ⟨0, by omega, by omega, fun q h => absurd h (Nat.not_lt_zero _)⟩
set_option maxHeartbeats 4000000 in
set_option maxRecDepth 100000 in
theorem em_copy9 {g : GG} {I : pI} {J : pJ} {R : pR} (hy : Ly g) (hr : Rf g R)    : SP g mX11_copy [.ref (ad g 9), .ref (ad g 15)] I J R (fun r I' J' R' => R' = R ∧ FC g [9] I I' ∧ FC g [] J J' ∧ FQ g [] I I' ∧ r = none ∧ (∀ q, q < 4 → I' (ad g 9) q = I (ad g 15) q)) := by
  refine SP_of ⟨by decide, rfl⟩ (Nat.le_of_ble_eq_true rfl) ?_
  have fI0 : FC g [9] I I := FC_rf
  have fJ0 : FC g [] J J := FC_rf
  have fQ0 : FQ g [] I I := FQ_rf
  refine WQ_iconst (0) (0) dX11_copy_0 rfl rfl (fun v3126 hv3126 => ?_)
  refine WP_istore_n (ls' := [(0, _), (1, _), (2, _)]) dX11_copy_1 (by decide) rfl ?_
  have lp3131 : ∀ (mz : Nat) (i3127 : Int32) (I3128 : pI), FC g [9] I I3128 → FQ g [] I I3128 → (∃ k : Nat, i3127.toInt = (k : Int) ∧ k ≤ 4 ∧ ∀ q, q < k → I3128 (ad g 9) q = I (ad g 15) q) → (5 - i3127.toInt.toNat) < mz → WP g mX11_copy 2 [(0, .ref (ad g 9)), (1, .ref (ad g 15)), (2, .int i3127)] [] I3128 J R (fun r I' J' R' => R' = R ∧ FC g [9] I I' ∧ FC g [] J J' ∧ FQ g [] I I' ∧ r = none ∧ (∀ q, q < 4 → I' (ad g 9) q = I (ad g 15) q)) := by
    intro mz
    induction mz with
    | zero =>
      intro i3127 I3128 fI3129 fQ3130 hvlp3131 hmlp3131
      exact absurd hmlp3131 (Nat.not_lt_zero _)
    | succ mz ihlp3131 =>
      intro i3127 I3128 fI3129 fQ3130 hvlp3131 hmlp3131
      obtain ⟨k, ik, ik4, iA⟩ := hvlp3131
      refine WP_iload_n dX11_copy_2 rfl ?_
      refine WP_aload_n dX11_copy_3 rfl ?_
      refine WP_alen dX11_copy_4 (ly_is hy 9 13 rfl) (by decide) ?_
      rw [(ly_n hy 9 4 rfl)]
      obtain ⟨v3132, hv3132, ev3132⟩ : ∃ v : Int32, v.toInt = 4 ∧ nI 4 = v := ⟨_, nI_toInt (by decide), rfl⟩
      rw [ev3132]; clear ev3132
      refine WQ_icmp_ge 20 dX11_copy_5 rfl (fun c3132 => ?_) (fun c3132 => ?_)
      · exact WP_vret dX11_copy_20 rfl ⟨rfl, fI3129, fJ0, fQ3130, rfl, by
          intro q9 hq9
          exact iA q9 (by omega)⟩
      · refine WP_aload_n dX11_copy_8 rfl ?_
        refine WP_iload_n dX11_copy_9 rfl ?_
        refine WP_aload_n dX11_copy_10 rfl ?_
        refine WP_iload_n dX11_copy_11 rfl ?_
        have fB := fI3129
        refine WE_ia dX11_copy_12 (ly_is hy 15 13 rfl) (ly_n hy 15 4 rfl) (by omega) (by omega) (fun v3134 ev3134 => ?_)
        refine WE_is dX11_copy_13 (ly_is hy 9 13 rfl) (ly_n hy 9 4 rfl) (by omega) (by omega) (fun I3135 eI3135 => ?_)
        have e3136 : I3135 (ad g 15) i3127.toInt.toNat = v3134 := by rw [eI3135, pp_ne _ _ (Or.inl (ly_ne hy (by decide) (by decide) (by decide)))]; exact ev3134
        have fI3137 : FC g [9] I I3135 := by rw [eI3135]; exact FC_pp fI3129 (by decide)
        have fQ3138 : FQ g [] I I3135 := by rw [eI3135]; exact FQ_ppn (ly_ne hy (by decide) (by decide) (by decide)) fQ3130
        refine WP_iinc (ls' := [(0, _), (1, _), (2, _)]) dX11_copy_14 rfl (by decide) rfl ?_
        have hv3139 : (i3127 + Int32.ofInt (1)).toInt = i3127.toInt + (1) := ia_n rfl (by omega) (by omega)
        generalize i3127 + Int32.ofInt (1) = v3139 at hv3139 ⊢
        refine WP_goto 2 dX11_copy_17 rfl ?_
        refine WP_sub (fc rfl (fc rfl (fc rfl fn))) (ihlp3131 v3139 I3135 fI3137 fQ3138 ?_ ?_)
        · refine ⟨k + 1, by omega, by omega, fun q hq => ?_⟩
          rw [eI3135, show i3127.toInt.toNat = k by omega, pp_at]
          split
          · rename_i e9
            rw [e9, ← ev3134, show i3127.toInt.toNat = k by omega, FC_at hy fB 15 (by decide) (by decide)]
          · exact iA q (by omega)
        · omega
  refine WP_sub (fc rfl (fc rfl (fc rfl fn))) (lp3131 _ v3126 I fI0 fQ0 ?_ (Nat.lt_succ_self _))
  · exact ⟨0, by omega, by omega, fun q h => absurd h (Nat.not_lt_zero _)⟩
set_option maxHeartbeats 4000000 in
set_option maxRecDepth 100000 in
theorem em_copy10 {g : GG} {I : pI} {J : pJ} {R : pR} (hy : Ly g) (hr : Rf g R)    : SP g mX11_copy [.ref (ad g 10), .ref (ad g 16)] I J R (fun r I' J' R' => R' = R ∧ FC g [10] I I' ∧ FC g [] J J' ∧ FQ g [] I I' ∧ r = none ∧ (∀ q, q < 4 → I' (ad g 10) q = I (ad g 16) q)) := by
  refine SP_of ⟨by decide, rfl⟩ (Nat.le_of_ble_eq_true rfl) ?_
  have fI0 : FC g [10] I I := FC_rf
  have fJ0 : FC g [] J J := FC_rf
  have fQ0 : FQ g [] I I := FQ_rf
  refine WQ_iconst (0) (0) dX11_copy_0 rfl rfl (fun v3140 hv3140 => ?_)
  refine WP_istore_n (ls' := [(0, _), (1, _), (2, _)]) dX11_copy_1 (by decide) rfl ?_
  have lp3145 : ∀ (mz : Nat) (i3141 : Int32) (I3142 : pI), FC g [10] I I3142 → FQ g [] I I3142 → (∃ k : Nat, i3141.toInt = (k : Int) ∧ k ≤ 4 ∧ ∀ q, q < k → I3142 (ad g 10) q = I (ad g 16) q) → (5 - i3141.toInt.toNat) < mz → WP g mX11_copy 2 [(0, .ref (ad g 10)), (1, .ref (ad g 16)), (2, .int i3141)] [] I3142 J R (fun r I' J' R' => R' = R ∧ FC g [10] I I' ∧ FC g [] J J' ∧ FQ g [] I I' ∧ r = none ∧ (∀ q, q < 4 → I' (ad g 10) q = I (ad g 16) q)) := by
    intro mz
    induction mz with
    | zero =>
      intro i3141 I3142 fI3143 fQ3144 hvlp3145 hmlp3145
      exact absurd hmlp3145 (Nat.not_lt_zero _)
    | succ mz ihlp3145 =>
      intro i3141 I3142 fI3143 fQ3144 hvlp3145 hmlp3145
      obtain ⟨k, ik, ik4, iA⟩ := hvlp3145
      refine WP_iload_n dX11_copy_2 rfl ?_
      refine WP_aload_n dX11_copy_3 rfl ?_
      refine WP_alen dX11_copy_4 (ly_is hy 10 13 rfl) (by decide) ?_
      rw [(ly_n hy 10 4 rfl)]
      obtain ⟨v3146, hv3146, ev3146⟩ : ∃ v : Int32, v.toInt = 4 ∧ nI 4 = v := ⟨_, nI_toInt (by decide), rfl⟩
      rw [ev3146]; clear ev3146
      refine WQ_icmp_ge 20 dX11_copy_5 rfl (fun c3146 => ?_) (fun c3146 => ?_)
      · exact WP_vret dX11_copy_20 rfl ⟨rfl, fI3143, fJ0, fQ3144, rfl, by
          intro q9 hq9
          exact iA q9 (by omega)⟩
      · refine WP_aload_n dX11_copy_8 rfl ?_
        refine WP_iload_n dX11_copy_9 rfl ?_
        refine WP_aload_n dX11_copy_10 rfl ?_
        refine WP_iload_n dX11_copy_11 rfl ?_
        have fB := fI3143
        refine WE_ia dX11_copy_12 (ly_is hy 16 13 rfl) (ly_n hy 16 4 rfl) (by omega) (by omega) (fun v3148 ev3148 => ?_)
        refine WE_is dX11_copy_13 (ly_is hy 10 13 rfl) (ly_n hy 10 4 rfl) (by omega) (by omega) (fun I3149 eI3149 => ?_)
        have e3150 : I3149 (ad g 16) i3141.toInt.toNat = v3148 := by rw [eI3149, pp_ne _ _ (Or.inl (ly_ne hy (by decide) (by decide) (by decide)))]; exact ev3148
        have fI3151 : FC g [10] I I3149 := by rw [eI3149]; exact FC_pp fI3143 (by decide)
        have fQ3152 : FQ g [] I I3149 := by rw [eI3149]; exact FQ_ppn (ly_ne hy (by decide) (by decide) (by decide)) fQ3144
        refine WP_iinc (ls' := [(0, _), (1, _), (2, _)]) dX11_copy_14 rfl (by decide) rfl ?_
        have hv3153 : (i3141 + Int32.ofInt (1)).toInt = i3141.toInt + (1) := ia_n rfl (by omega) (by omega)
        generalize i3141 + Int32.ofInt (1) = v3153 at hv3153 ⊢
        refine WP_goto 2 dX11_copy_17 rfl ?_
        refine WP_sub (fc rfl (fc rfl (fc rfl fn))) (ihlp3145 v3153 I3149 fI3151 fQ3152 ?_ ?_)
        · refine ⟨k + 1, by omega, by omega, fun q hq => ?_⟩
          rw [eI3149, show i3141.toInt.toNat = k by omega, pp_at]
          split
          · rename_i e9
            rw [e9, ← ev3148, show i3141.toInt.toNat = k by omega, FC_at hy fB 16 (by decide) (by decide)]
          · exact iA q (by omega)
        · omega
  refine WP_sub (fc rfl (fc rfl (fc rfl fn))) (lp3145 _ v3140 I fI0 fQ0 ?_ (Nat.lt_succ_self _))
  · exact ⟨0, by omega, by omega, fun q h => absurd h (Nat.not_lt_zero _)⟩
set_option maxHeartbeats 4000000 in
set_option maxRecDepth 100000 in
theorem em_copy11 {g : GG} {I : pI} {J : pJ} {R : pR} (hy : Ly g) (hr : Rf g R)    : SP g mX11_copy [.ref (ad g 11), .ref (ad g 17)] I J R (fun r I' J' R' => R' = R ∧ FC g [11] I I' ∧ FC g [] J J' ∧ FQ g [] I I' ∧ r = none ∧ (∀ q, q < 4 → I' (ad g 11) q = I (ad g 17) q)) := by
  refine SP_of ⟨by decide, rfl⟩ (Nat.le_of_ble_eq_true rfl) ?_
  have fI0 : FC g [11] I I := FC_rf
  have fJ0 : FC g [] J J := FC_rf
  have fQ0 : FQ g [] I I := FQ_rf
  refine WQ_iconst (0) (0) dX11_copy_0 rfl rfl (fun v3154 hv3154 => ?_)
  refine WP_istore_n (ls' := [(0, _), (1, _), (2, _)]) dX11_copy_1 (by decide) rfl ?_
  have lp3159 : ∀ (mz : Nat) (i3155 : Int32) (I3156 : pI), FC g [11] I I3156 → FQ g [] I I3156 → (∃ k : Nat, i3155.toInt = (k : Int) ∧ k ≤ 4 ∧ ∀ q, q < k → I3156 (ad g 11) q = I (ad g 17) q) → (5 - i3155.toInt.toNat) < mz → WP g mX11_copy 2 [(0, .ref (ad g 11)), (1, .ref (ad g 17)), (2, .int i3155)] [] I3156 J R (fun r I' J' R' => R' = R ∧ FC g [11] I I' ∧ FC g [] J J' ∧ FQ g [] I I' ∧ r = none ∧ (∀ q, q < 4 → I' (ad g 11) q = I (ad g 17) q)) := by
    intro mz
    induction mz with
    | zero =>
      intro i3155 I3156 fI3157 fQ3158 hvlp3159 hmlp3159
      exact absurd hmlp3159 (Nat.not_lt_zero _)
    | succ mz ihlp3159 =>
      intro i3155 I3156 fI3157 fQ3158 hvlp3159 hmlp3159
      obtain ⟨k, ik, ik4, iA⟩ := hvlp3159
      refine WP_iload_n dX11_copy_2 rfl ?_
      refine WP_aload_n dX11_copy_3 rfl ?_
      refine WP_alen dX11_copy_4 (ly_is hy 11 13 rfl) (by decide) ?_
      rw [(ly_n hy 11 4 rfl)]
      obtain ⟨v3160, hv3160, ev3160⟩ : ∃ v : Int32, v.toInt = 4 ∧ nI 4 = v := ⟨_, nI_toInt (by decide), rfl⟩
      rw [ev3160]; clear ev3160
      refine WQ_icmp_ge 20 dX11_copy_5 rfl (fun c3160 => ?_) (fun c3160 => ?_)
      · exact WP_vret dX11_copy_20 rfl ⟨rfl, fI3157, fJ0, fQ3158, rfl, by
          intro q9 hq9
          exact iA q9 (by omega)⟩
      · refine WP_aload_n dX11_copy_8 rfl ?_
        refine WP_iload_n dX11_copy_9 rfl ?_
        refine WP_aload_n dX11_copy_10 rfl ?_
        refine WP_iload_n dX11_copy_11 rfl ?_
        have fB := fI3157
        refine WE_ia dX11_copy_12 (ly_is hy 17 13 rfl) (ly_n hy 17 4 rfl) (by omega) (by omega) (fun v3162 ev3162 => ?_)
        refine WE_is dX11_copy_13 (ly_is hy 11 13 rfl) (ly_n hy 11 4 rfl) (by omega) (by omega) (fun I3163 eI3163 => ?_)
        have e3164 : I3163 (ad g 17) i3155.toInt.toNat = v3162 := by rw [eI3163, pp_ne _ _ (Or.inl (ly_ne hy (by decide) (by decide) (by decide)))]; exact ev3162
        have fI3165 : FC g [11] I I3163 := by rw [eI3163]; exact FC_pp fI3157 (by decide)
        have fQ3166 : FQ g [] I I3163 := by rw [eI3163]; exact FQ_ppn (ly_ne hy (by decide) (by decide) (by decide)) fQ3158
        refine WP_iinc (ls' := [(0, _), (1, _), (2, _)]) dX11_copy_14 rfl (by decide) rfl ?_
        have hv3167 : (i3155 + Int32.ofInt (1)).toInt = i3155.toInt + (1) := ia_n rfl (by omega) (by omega)
        generalize i3155 + Int32.ofInt (1) = v3167 at hv3167 ⊢
        refine WP_goto 2 dX11_copy_17 rfl ?_
        refine WP_sub (fc rfl (fc rfl (fc rfl fn))) (ihlp3159 v3167 I3163 fI3165 fQ3166 ?_ ?_)
        · refine ⟨k + 1, by omega, by omega, fun q hq => ?_⟩
          rw [eI3163, show i3155.toInt.toNat = k by omega, pp_at]
          split
          · rename_i e9
            rw [e9, ← ev3162, show i3155.toInt.toNat = k by omega, FC_at hy fB 17 (by decide) (by decide)]
          · exact iA q (by omega)
        · omega
  refine WP_sub (fc rfl (fc rfl (fc rfl fn))) (lp3159 _ v3154 I fI0 fQ0 ?_ (Nat.lt_succ_self _))
  · exact ⟨0, by omega, by omega, fun q h => absurd h (Nat.not_lt_zero _)⟩
set_option maxHeartbeats 4000000 in
set_option maxRecDepth 100000 in
theorem em_copy12 {g : GG} {I : pI} {J : pJ} {R : pR} (hy : Ly g) (hr : Rf g R)    : SP g mX11_copy [.ref (ad g 12), .ref (ad g 18)] I J R (fun r I' J' R' => R' = R ∧ FC g [12] I I' ∧ FC g [] J J' ∧ FQ g [] I I' ∧ r = none ∧ (∀ q, q < 3 → I' (ad g 12) q = I (ad g 18) q)) := by
  refine SP_of ⟨by decide, rfl⟩ (Nat.le_of_ble_eq_true rfl) ?_
  have fI0 : FC g [12] I I := FC_rf
  have fJ0 : FC g [] J J := FC_rf
  have fQ0 : FQ g [] I I := FQ_rf
  refine WQ_iconst (0) (0) dX11_copy_0 rfl rfl (fun v3168 hv3168 => ?_)
  refine WP_istore_n (ls' := [(0, _), (1, _), (2, _)]) dX11_copy_1 (by decide) rfl ?_
  have lp3173 : ∀ (mz : Nat) (i3169 : Int32) (I3170 : pI), FC g [12] I I3170 → FQ g [] I I3170 → (∃ k : Nat, i3169.toInt = (k : Int) ∧ k ≤ 3 ∧ ∀ q, q < k → I3170 (ad g 12) q = I (ad g 18) q) → (4 - i3169.toInt.toNat) < mz → WP g mX11_copy 2 [(0, .ref (ad g 12)), (1, .ref (ad g 18)), (2, .int i3169)] [] I3170 J R (fun r I' J' R' => R' = R ∧ FC g [12] I I' ∧ FC g [] J J' ∧ FQ g [] I I' ∧ r = none ∧ (∀ q, q < 3 → I' (ad g 12) q = I (ad g 18) q)) := by
    intro mz
    induction mz with
    | zero =>
      intro i3169 I3170 fI3171 fQ3172 hvlp3173 hmlp3173
      exact absurd hmlp3173 (Nat.not_lt_zero _)
    | succ mz ihlp3173 =>
      intro i3169 I3170 fI3171 fQ3172 hvlp3173 hmlp3173
      obtain ⟨k, ik, ik4, iA⟩ := hvlp3173
      refine WP_iload_n dX11_copy_2 rfl ?_
      refine WP_aload_n dX11_copy_3 rfl ?_
      refine WP_alen dX11_copy_4 (ly_is hy 12 13 rfl) (by decide) ?_
      rw [(ly_n hy 12 3 rfl)]
      obtain ⟨v3174, hv3174, ev3174⟩ : ∃ v : Int32, v.toInt = 3 ∧ nI 3 = v := ⟨_, nI_toInt (by decide), rfl⟩
      rw [ev3174]; clear ev3174
      refine WQ_icmp_ge 20 dX11_copy_5 rfl (fun c3174 => ?_) (fun c3174 => ?_)
      · exact WP_vret dX11_copy_20 rfl ⟨rfl, fI3171, fJ0, fQ3172, rfl, by
          intro q9 hq9
          exact iA q9 (by omega)⟩
      · refine WP_aload_n dX11_copy_8 rfl ?_
        refine WP_iload_n dX11_copy_9 rfl ?_
        refine WP_aload_n dX11_copy_10 rfl ?_
        refine WP_iload_n dX11_copy_11 rfl ?_
        have fB := fI3171
        refine WE_ia dX11_copy_12 (ly_is hy 18 13 rfl) (ly_n hy 18 3 rfl) (by omega) (by omega) (fun v3176 ev3176 => ?_)
        refine WE_is dX11_copy_13 (ly_is hy 12 13 rfl) (ly_n hy 12 3 rfl) (by omega) (by omega) (fun I3177 eI3177 => ?_)
        have e3178 : I3177 (ad g 18) i3169.toInt.toNat = v3176 := by rw [eI3177, pp_ne _ _ (Or.inl (ly_ne hy (by decide) (by decide) (by decide)))]; exact ev3176
        have fI3179 : FC g [12] I I3177 := by rw [eI3177]; exact FC_pp fI3171 (by decide)
        have fQ3180 : FQ g [] I I3177 := by rw [eI3177]; exact FQ_ppn (ly_ne hy (by decide) (by decide) (by decide)) fQ3172
        refine WP_iinc (ls' := [(0, _), (1, _), (2, _)]) dX11_copy_14 rfl (by decide) rfl ?_
        have hv3181 : (i3169 + Int32.ofInt (1)).toInt = i3169.toInt + (1) := ia_n rfl (by omega) (by omega)
        generalize i3169 + Int32.ofInt (1) = v3181 at hv3181 ⊢
        refine WP_goto 2 dX11_copy_17 rfl ?_
        refine WP_sub (fc rfl (fc rfl (fc rfl fn))) (ihlp3173 v3181 I3177 fI3179 fQ3180 ?_ ?_)
        · refine ⟨k + 1, by omega, by omega, fun q hq => ?_⟩
          rw [eI3177, show i3169.toInt.toNat = k by omega, pp_at]
          split
          · rename_i e9
            rw [e9, ← ev3176, show i3169.toInt.toNat = k by omega, FC_at hy fB 18 (by decide) (by decide)]
          · exact iA q (by omega)
        · omega
  refine WP_sub (fc rfl (fc rfl (fc rfl fn))) (lp3173 _ v3168 I fI0 fQ0 ?_ (Nat.lt_succ_self _))
  · exact ⟨0, by omega, by omega, fun q h => absurd h (Nat.not_lt_zero _)⟩
set_option maxHeartbeats 4000000 in
set_option maxRecDepth 100000 in
theorem em_copy13 {g : GG} {I : pI} {J : pJ} {R : pR} (hy : Ly g) (hr : Rf g R)    : SP g mX11_copy [.ref (ad g 13), .ref (ad g 19)] I J R (fun r I' J' R' => R' = R ∧ FC g [13] I I' ∧ FC g [] J J' ∧ FQ g [] I I' ∧ r = none ∧ (∀ q, q < 3 → I' (ad g 13) q = I (ad g 19) q)) := by
  refine SP_of ⟨by decide, rfl⟩ (Nat.le_of_ble_eq_true rfl) ?_
  have fI0 : FC g [13] I I := FC_rf
  have fJ0 : FC g [] J J := FC_rf
  have fQ0 : FQ g [] I I := FQ_rf
  refine WQ_iconst (0) (0) dX11_copy_0 rfl rfl (fun v3182 hv3182 => ?_)
  refine WP_istore_n (ls' := [(0, _), (1, _), (2, _)]) dX11_copy_1 (by decide) rfl ?_
  have lp3187 : ∀ (mz : Nat) (i3183 : Int32) (I3184 : pI), FC g [13] I I3184 → FQ g [] I I3184 → (∃ k : Nat, i3183.toInt = (k : Int) ∧ k ≤ 3 ∧ ∀ q, q < k → I3184 (ad g 13) q = I (ad g 19) q) → (4 - i3183.toInt.toNat) < mz → WP g mX11_copy 2 [(0, .ref (ad g 13)), (1, .ref (ad g 19)), (2, .int i3183)] [] I3184 J R (fun r I' J' R' => R' = R ∧ FC g [13] I I' ∧ FC g [] J J' ∧ FQ g [] I I' ∧ r = none ∧ (∀ q, q < 3 → I' (ad g 13) q = I (ad g 19) q)) := by
    intro mz
    induction mz with
    | zero =>
      intro i3183 I3184 fI3185 fQ3186 hvlp3187 hmlp3187
      exact absurd hmlp3187 (Nat.not_lt_zero _)
    | succ mz ihlp3187 =>
      intro i3183 I3184 fI3185 fQ3186 hvlp3187 hmlp3187
      obtain ⟨k, ik, ik4, iA⟩ := hvlp3187
      refine WP_iload_n dX11_copy_2 rfl ?_
      refine WP_aload_n dX11_copy_3 rfl ?_
      refine WP_alen dX11_copy_4 (ly_is hy 13 13 rfl) (by decide) ?_
      rw [(ly_n hy 13 3 rfl)]
      obtain ⟨v3188, hv3188, ev3188⟩ : ∃ v : Int32, v.toInt = 3 ∧ nI 3 = v := ⟨_, nI_toInt (by decide), rfl⟩
      rw [ev3188]; clear ev3188
      refine WQ_icmp_ge 20 dX11_copy_5 rfl (fun c3188 => ?_) (fun c3188 => ?_)
      · exact WP_vret dX11_copy_20 rfl ⟨rfl, fI3185, fJ0, fQ3186, rfl, by
          intro q9 hq9
          exact iA q9 (by omega)⟩
      · refine WP_aload_n dX11_copy_8 rfl ?_
        refine WP_iload_n dX11_copy_9 rfl ?_
        refine WP_aload_n dX11_copy_10 rfl ?_
        refine WP_iload_n dX11_copy_11 rfl ?_
        have fB := fI3185
        refine WE_ia dX11_copy_12 (ly_is hy 19 13 rfl) (ly_n hy 19 3 rfl) (by omega) (by omega) (fun v3190 ev3190 => ?_)
        refine WE_is dX11_copy_13 (ly_is hy 13 13 rfl) (ly_n hy 13 3 rfl) (by omega) (by omega) (fun I3191 eI3191 => ?_)
        have e3192 : I3191 (ad g 19) i3183.toInt.toNat = v3190 := by rw [eI3191, pp_ne _ _ (Or.inl (ly_ne hy (by decide) (by decide) (by decide)))]; exact ev3190
        have fI3193 : FC g [13] I I3191 := by rw [eI3191]; exact FC_pp fI3185 (by decide)
        have fQ3194 : FQ g [] I I3191 := by rw [eI3191]; exact FQ_ppn (ly_ne hy (by decide) (by decide) (by decide)) fQ3186
        refine WP_iinc (ls' := [(0, _), (1, _), (2, _)]) dX11_copy_14 rfl (by decide) rfl ?_
        have hv3195 : (i3183 + Int32.ofInt (1)).toInt = i3183.toInt + (1) := ia_n rfl (by omega) (by omega)
        generalize i3183 + Int32.ofInt (1) = v3195 at hv3195 ⊢
        refine WP_goto 2 dX11_copy_17 rfl ?_
        refine WP_sub (fc rfl (fc rfl (fc rfl fn))) (ihlp3187 v3195 I3191 fI3193 fQ3194 ?_ ?_)
        · refine ⟨k + 1, by omega, by omega, fun q hq => ?_⟩
          rw [eI3191, show i3183.toInt.toNat = k by omega, pp_at]
          split
          · rename_i e9
            rw [e9, ← ev3190, show i3183.toInt.toNat = k by omega, FC_at hy fB 19 (by decide) (by decide)]
          · exact iA q (by omega)
        · omega
  refine WP_sub (fc rfl (fc rfl (fc rfl fn))) (lp3187 _ v3182 I fI0 fQ0 ?_ (Nat.lt_succ_self _))
  · exact ⟨0, by omega, by omega, fun q h => absurd h (Nat.not_lt_zero _)⟩
set_option maxHeartbeats 4000000 in
set_option maxRecDepth 100000 in
theorem em_copy20 {g : GG} {I : pI} {J : pJ} {R : pR} (hy : Ly g) (hr : Rf g R)    : SP g mX11_copy [.ref (ad g 20), .ref (ad g 27)] I J R (fun r I' J' R' => R' = R ∧ FC g [20] I I' ∧ FC g [] J J' ∧ FQ g [] I I' ∧ r = none ∧ (∀ q, q < 28 → I' (ad g 20) q = I (ad g 27) q)) := by
  refine SP_of ⟨by decide, rfl⟩ (Nat.le_of_ble_eq_true rfl) ?_
  have fI0 : FC g [20] I I := FC_rf
  have fJ0 : FC g [] J J := FC_rf
  have fQ0 : FQ g [] I I := FQ_rf
  refine WQ_iconst (0) (0) dX11_copy_0 rfl rfl (fun v3196 hv3196 => ?_)
  refine WP_istore_n (ls' := [(0, _), (1, _), (2, _)]) dX11_copy_1 (by decide) rfl ?_
  have lp3201 : ∀ (mz : Nat) (i3197 : Int32) (I3198 : pI), FC g [20] I I3198 → FQ g [] I I3198 → (∃ k : Nat, i3197.toInt = (k : Int) ∧ k ≤ 28 ∧ ∀ q, q < k → I3198 (ad g 20) q = I (ad g 27) q) → (29 - i3197.toInt.toNat) < mz → WP g mX11_copy 2 [(0, .ref (ad g 20)), (1, .ref (ad g 27)), (2, .int i3197)] [] I3198 J R (fun r I' J' R' => R' = R ∧ FC g [20] I I' ∧ FC g [] J J' ∧ FQ g [] I I' ∧ r = none ∧ (∀ q, q < 28 → I' (ad g 20) q = I (ad g 27) q)) := by
    intro mz
    induction mz with
    | zero =>
      intro i3197 I3198 fI3199 fQ3200 hvlp3201 hmlp3201
      exact absurd hmlp3201 (Nat.not_lt_zero _)
    | succ mz ihlp3201 =>
      intro i3197 I3198 fI3199 fQ3200 hvlp3201 hmlp3201
      obtain ⟨k, ik, ik4, iA⟩ := hvlp3201
      refine WP_iload_n dX11_copy_2 rfl ?_
      refine WP_aload_n dX11_copy_3 rfl ?_
      refine WP_alen dX11_copy_4 (ly_is hy 20 13 rfl) (by decide) ?_
      rw [(ly_n hy 20 28 rfl)]
      obtain ⟨v3202, hv3202, ev3202⟩ : ∃ v : Int32, v.toInt = 28 ∧ nI 28 = v := ⟨_, nI_toInt (by decide), rfl⟩
      rw [ev3202]; clear ev3202
      refine WQ_icmp_ge 20 dX11_copy_5 rfl (fun c3202 => ?_) (fun c3202 => ?_)
      · exact WP_vret dX11_copy_20 rfl ⟨rfl, fI3199, fJ0, fQ3200, rfl, by
          intro q9 hq9
          exact iA q9 (by omega)⟩
      · refine WP_aload_n dX11_copy_8 rfl ?_
        refine WP_iload_n dX11_copy_9 rfl ?_
        refine WP_aload_n dX11_copy_10 rfl ?_
        refine WP_iload_n dX11_copy_11 rfl ?_
        have fB := fI3199
        refine WE_ia dX11_copy_12 (ly_is hy 27 13 rfl) (ly_n hy 27 28 rfl) (by omega) (by omega) (fun v3204 ev3204 => ?_)
        refine WE_is dX11_copy_13 (ly_is hy 20 13 rfl) (ly_n hy 20 28 rfl) (by omega) (by omega) (fun I3205 eI3205 => ?_)
        have e3206 : I3205 (ad g 27) i3197.toInt.toNat = v3204 := by rw [eI3205, pp_ne _ _ (Or.inl (ly_ne hy (by decide) (by decide) (by decide)))]; exact ev3204
        have fI3207 : FC g [20] I I3205 := by rw [eI3205]; exact FC_pp fI3199 (by decide)
        have fQ3208 : FQ g [] I I3205 := by rw [eI3205]; exact FQ_ppn (ly_ne hy (by decide) (by decide) (by decide)) fQ3200
        refine WP_iinc (ls' := [(0, _), (1, _), (2, _)]) dX11_copy_14 rfl (by decide) rfl ?_
        have hv3209 : (i3197 + Int32.ofInt (1)).toInt = i3197.toInt + (1) := ia_n rfl (by omega) (by omega)
        generalize i3197 + Int32.ofInt (1) = v3209 at hv3209 ⊢
        refine WP_goto 2 dX11_copy_17 rfl ?_
        refine WP_sub (fc rfl (fc rfl (fc rfl fn))) (ihlp3201 v3209 I3205 fI3207 fQ3208 ?_ ?_)
        · refine ⟨k + 1, by omega, by omega, fun q hq => ?_⟩
          rw [eI3205, show i3197.toInt.toNat = k by omega, pp_at]
          split
          · rename_i e9
            rw [e9, ← ev3204, show i3197.toInt.toNat = k by omega, FC_at hy fB 27 (by decide) (by decide)]
          · exact iA q (by omega)
        · omega
  refine WP_sub (fc rfl (fc rfl (fc rfl fn))) (lp3201 _ v3196 I fI0 fQ0 ?_ (Nat.lt_succ_self _))
  · exact ⟨0, by omega, by omega, fun q h => absurd h (Nat.not_lt_zero _)⟩
set_option maxHeartbeats 4000000 in
set_option maxRecDepth 100000 in
theorem em_copy21 {g : GG} {I : pI} {J : pJ} {R : pR} (hy : Ly g) (hr : Rf g R)    : SP g mX11_copy [.ref (ad g 21), .ref (ad g 28)] I J R (fun r I' J' R' => R' = R ∧ FC g [21] I I' ∧ FC g [] J J' ∧ FQ g [] I I' ∧ r = none ∧ (∀ q, q < 21 → I' (ad g 21) q = I (ad g 28) q)) := by
  refine SP_of ⟨by decide, rfl⟩ (Nat.le_of_ble_eq_true rfl) ?_
  have fI0 : FC g [21] I I := FC_rf
  have fJ0 : FC g [] J J := FC_rf
  have fQ0 : FQ g [] I I := FQ_rf
  refine WQ_iconst (0) (0) dX11_copy_0 rfl rfl (fun v3210 hv3210 => ?_)
  refine WP_istore_n (ls' := [(0, _), (1, _), (2, _)]) dX11_copy_1 (by decide) rfl ?_
  have lp3215 : ∀ (mz : Nat) (i3211 : Int32) (I3212 : pI), FC g [21] I I3212 → FQ g [] I I3212 → (∃ k : Nat, i3211.toInt = (k : Int) ∧ k ≤ 21 ∧ ∀ q, q < k → I3212 (ad g 21) q = I (ad g 28) q) → (22 - i3211.toInt.toNat) < mz → WP g mX11_copy 2 [(0, .ref (ad g 21)), (1, .ref (ad g 28)), (2, .int i3211)] [] I3212 J R (fun r I' J' R' => R' = R ∧ FC g [21] I I' ∧ FC g [] J J' ∧ FQ g [] I I' ∧ r = none ∧ (∀ q, q < 21 → I' (ad g 21) q = I (ad g 28) q)) := by
    intro mz
    induction mz with
    | zero =>
      intro i3211 I3212 fI3213 fQ3214 hvlp3215 hmlp3215
      exact absurd hmlp3215 (Nat.not_lt_zero _)
    | succ mz ihlp3215 =>
      intro i3211 I3212 fI3213 fQ3214 hvlp3215 hmlp3215
      obtain ⟨k, ik, ik4, iA⟩ := hvlp3215
      refine WP_iload_n dX11_copy_2 rfl ?_
      refine WP_aload_n dX11_copy_3 rfl ?_
      refine WP_alen dX11_copy_4 (ly_is hy 21 13 rfl) (by decide) ?_
      rw [(ly_n hy 21 21 rfl)]
      obtain ⟨v3216, hv3216, ev3216⟩ : ∃ v : Int32, v.toInt = 21 ∧ nI 21 = v := ⟨_, nI_toInt (by decide), rfl⟩
      rw [ev3216]; clear ev3216
      refine WQ_icmp_ge 20 dX11_copy_5 rfl (fun c3216 => ?_) (fun c3216 => ?_)
      · exact WP_vret dX11_copy_20 rfl ⟨rfl, fI3213, fJ0, fQ3214, rfl, by
          intro q9 hq9
          exact iA q9 (by omega)⟩
      · refine WP_aload_n dX11_copy_8 rfl ?_
        refine WP_iload_n dX11_copy_9 rfl ?_
        refine WP_aload_n dX11_copy_10 rfl ?_
        refine WP_iload_n dX11_copy_11 rfl ?_
        have fB := fI3213
        refine WE_ia dX11_copy_12 (ly_is hy 28 13 rfl) (ly_n hy 28 21 rfl) (by omega) (by omega) (fun v3218 ev3218 => ?_)
        refine WE_is dX11_copy_13 (ly_is hy 21 13 rfl) (ly_n hy 21 21 rfl) (by omega) (by omega) (fun I3219 eI3219 => ?_)
        have e3220 : I3219 (ad g 28) i3211.toInt.toNat = v3218 := by rw [eI3219, pp_ne _ _ (Or.inl (ly_ne hy (by decide) (by decide) (by decide)))]; exact ev3218
        have fI3221 : FC g [21] I I3219 := by rw [eI3219]; exact FC_pp fI3213 (by decide)
        have fQ3222 : FQ g [] I I3219 := by rw [eI3219]; exact FQ_ppn (ly_ne hy (by decide) (by decide) (by decide)) fQ3214
        refine WP_iinc (ls' := [(0, _), (1, _), (2, _)]) dX11_copy_14 rfl (by decide) rfl ?_
        have hv3223 : (i3211 + Int32.ofInt (1)).toInt = i3211.toInt + (1) := ia_n rfl (by omega) (by omega)
        generalize i3211 + Int32.ofInt (1) = v3223 at hv3223 ⊢
        refine WP_goto 2 dX11_copy_17 rfl ?_
        refine WP_sub (fc rfl (fc rfl (fc rfl fn))) (ihlp3215 v3223 I3219 fI3221 fQ3222 ?_ ?_)
        · refine ⟨k + 1, by omega, by omega, fun q hq => ?_⟩
          rw [eI3219, show i3211.toInt.toNat = k by omega, pp_at]
          split
          · rename_i e9
            rw [e9, ← ev3218, show i3211.toInt.toNat = k by omega, FC_at hy fB 28 (by decide) (by decide)]
          · exact iA q (by omega)
        · omega
  refine WP_sub (fc rfl (fc rfl (fc rfl fn))) (lp3215 _ v3210 I fI0 fQ0 ?_ (Nat.lt_succ_self _))
  · exact ⟨0, by omega, by omega, fun q h => absurd h (Nat.not_lt_zero _)⟩
set_option maxHeartbeats 4000000 in
set_option maxRecDepth 100000 in
theorem em_copy22 {g : GG} {I : pI} {J : pJ} {R : pR} (hy : Ly g) (hr : Rf g R)    : SP g mX11_copy [.ref (ad g 22), .ref (ad g 28)] I J R (fun r I' J' R' => R' = R ∧ FC g [22] I I' ∧ FC g [] J J' ∧ FQ g [] I I' ∧ r = none ∧ (∀ q, q < 21 → I' (ad g 22) q = I (ad g 28) q)) := by
  refine SP_of ⟨by decide, rfl⟩ (Nat.le_of_ble_eq_true rfl) ?_
  have fI0 : FC g [22] I I := FC_rf
  have fJ0 : FC g [] J J := FC_rf
  have fQ0 : FQ g [] I I := FQ_rf
  refine WQ_iconst (0) (0) dX11_copy_0 rfl rfl (fun v3224 hv3224 => ?_)
  refine WP_istore_n (ls' := [(0, _), (1, _), (2, _)]) dX11_copy_1 (by decide) rfl ?_
  have lp3229 : ∀ (mz : Nat) (i3225 : Int32) (I3226 : pI), FC g [22] I I3226 → FQ g [] I I3226 → (∃ k : Nat, i3225.toInt = (k : Int) ∧ k ≤ 21 ∧ ∀ q, q < k → I3226 (ad g 22) q = I (ad g 28) q) → (22 - i3225.toInt.toNat) < mz → WP g mX11_copy 2 [(0, .ref (ad g 22)), (1, .ref (ad g 28)), (2, .int i3225)] [] I3226 J R (fun r I' J' R' => R' = R ∧ FC g [22] I I' ∧ FC g [] J J' ∧ FQ g [] I I' ∧ r = none ∧ (∀ q, q < 21 → I' (ad g 22) q = I (ad g 28) q)) := by
    intro mz
    induction mz with
    | zero =>
      intro i3225 I3226 fI3227 fQ3228 hvlp3229 hmlp3229
      exact absurd hmlp3229 (Nat.not_lt_zero _)
    | succ mz ihlp3229 =>
      intro i3225 I3226 fI3227 fQ3228 hvlp3229 hmlp3229
      obtain ⟨k, ik, ik4, iA⟩ := hvlp3229
      refine WP_iload_n dX11_copy_2 rfl ?_
      refine WP_aload_n dX11_copy_3 rfl ?_
      refine WP_alen dX11_copy_4 (ly_is hy 22 13 rfl) (by decide) ?_
      rw [(ly_n hy 22 21 rfl)]
      obtain ⟨v3230, hv3230, ev3230⟩ : ∃ v : Int32, v.toInt = 21 ∧ nI 21 = v := ⟨_, nI_toInt (by decide), rfl⟩
      rw [ev3230]; clear ev3230
      refine WQ_icmp_ge 20 dX11_copy_5 rfl (fun c3230 => ?_) (fun c3230 => ?_)
      · exact WP_vret dX11_copy_20 rfl ⟨rfl, fI3227, fJ0, fQ3228, rfl, by
          intro q9 hq9
          exact iA q9 (by omega)⟩
      · refine WP_aload_n dX11_copy_8 rfl ?_
        refine WP_iload_n dX11_copy_9 rfl ?_
        refine WP_aload_n dX11_copy_10 rfl ?_
        refine WP_iload_n dX11_copy_11 rfl ?_
        have fB := fI3227
        refine WE_ia dX11_copy_12 (ly_is hy 28 13 rfl) (ly_n hy 28 21 rfl) (by omega) (by omega) (fun v3232 ev3232 => ?_)
        refine WE_is dX11_copy_13 (ly_is hy 22 13 rfl) (ly_n hy 22 21 rfl) (by omega) (by omega) (fun I3233 eI3233 => ?_)
        have e3234 : I3233 (ad g 28) i3225.toInt.toNat = v3232 := by rw [eI3233, pp_ne _ _ (Or.inl (ly_ne hy (by decide) (by decide) (by decide)))]; exact ev3232
        have fI3235 : FC g [22] I I3233 := by rw [eI3233]; exact FC_pp fI3227 (by decide)
        have fQ3236 : FQ g [] I I3233 := by rw [eI3233]; exact FQ_ppn (ly_ne hy (by decide) (by decide) (by decide)) fQ3228
        refine WP_iinc (ls' := [(0, _), (1, _), (2, _)]) dX11_copy_14 rfl (by decide) rfl ?_
        have hv3237 : (i3225 + Int32.ofInt (1)).toInt = i3225.toInt + (1) := ia_n rfl (by omega) (by omega)
        generalize i3225 + Int32.ofInt (1) = v3237 at hv3237 ⊢
        refine WP_goto 2 dX11_copy_17 rfl ?_
        refine WP_sub (fc rfl (fc rfl (fc rfl fn))) (ihlp3229 v3237 I3233 fI3235 fQ3236 ?_ ?_)
        · refine ⟨k + 1, by omega, by omega, fun q hq => ?_⟩
          rw [eI3233, show i3225.toInt.toNat = k by omega, pp_at]
          split
          · rename_i e9
            rw [e9, ← ev3232, show i3225.toInt.toNat = k by omega, FC_at hy fB 28 (by decide) (by decide)]
          · exact iA q (by omega)
        · omega
  refine WP_sub (fc rfl (fc rfl (fc rfl fn))) (lp3229 _ v3224 I fI0 fQ0 ?_ (Nat.lt_succ_self _))
  · exact ⟨0, by omega, by omega, fun q h => absurd h (Nat.not_lt_zero _)⟩
set_option maxHeartbeats 4000000 in
set_option maxRecDepth 100000 in
theorem em_copy23 {g : GG} {I : pI} {J : pJ} {R : pR} (hy : Ly g) (hr : Rf g R)    : SP g mX11_copy [.ref (ad g 23), .ref (ad g 29)] I J R (fun r I' J' R' => R' = R ∧ FC g [23] I I' ∧ FC g [] J J' ∧ FQ g [] I I' ∧ r = none ∧ (∀ q, q < 21 → I' (ad g 23) q = I (ad g 29) q)) := by
  refine SP_of ⟨by decide, rfl⟩ (Nat.le_of_ble_eq_true rfl) ?_
  have fI0 : FC g [23] I I := FC_rf
  have fJ0 : FC g [] J J := FC_rf
  have fQ0 : FQ g [] I I := FQ_rf
  refine WQ_iconst (0) (0) dX11_copy_0 rfl rfl (fun v3238 hv3238 => ?_)
  refine WP_istore_n (ls' := [(0, _), (1, _), (2, _)]) dX11_copy_1 (by decide) rfl ?_
  have lp3243 : ∀ (mz : Nat) (i3239 : Int32) (I3240 : pI), FC g [23] I I3240 → FQ g [] I I3240 → (∃ k : Nat, i3239.toInt = (k : Int) ∧ k ≤ 21 ∧ ∀ q, q < k → I3240 (ad g 23) q = I (ad g 29) q) → (22 - i3239.toInt.toNat) < mz → WP g mX11_copy 2 [(0, .ref (ad g 23)), (1, .ref (ad g 29)), (2, .int i3239)] [] I3240 J R (fun r I' J' R' => R' = R ∧ FC g [23] I I' ∧ FC g [] J J' ∧ FQ g [] I I' ∧ r = none ∧ (∀ q, q < 21 → I' (ad g 23) q = I (ad g 29) q)) := by
    intro mz
    induction mz with
    | zero =>
      intro i3239 I3240 fI3241 fQ3242 hvlp3243 hmlp3243
      exact absurd hmlp3243 (Nat.not_lt_zero _)
    | succ mz ihlp3243 =>
      intro i3239 I3240 fI3241 fQ3242 hvlp3243 hmlp3243
      obtain ⟨k, ik, ik4, iA⟩ := hvlp3243
      refine WP_iload_n dX11_copy_2 rfl ?_
      refine WP_aload_n dX11_copy_3 rfl ?_
      refine WP_alen dX11_copy_4 (ly_is hy 23 13 rfl) (by decide) ?_
      rw [(ly_n hy 23 21 rfl)]
      obtain ⟨v3244, hv3244, ev3244⟩ : ∃ v : Int32, v.toInt = 21 ∧ nI 21 = v := ⟨_, nI_toInt (by decide), rfl⟩
      rw [ev3244]; clear ev3244
      refine WQ_icmp_ge 20 dX11_copy_5 rfl (fun c3244 => ?_) (fun c3244 => ?_)
      · exact WP_vret dX11_copy_20 rfl ⟨rfl, fI3241, fJ0, fQ3242, rfl, by
          intro q9 hq9
          exact iA q9 (by omega)⟩
      · refine WP_aload_n dX11_copy_8 rfl ?_
        refine WP_iload_n dX11_copy_9 rfl ?_
        refine WP_aload_n dX11_copy_10 rfl ?_
        refine WP_iload_n dX11_copy_11 rfl ?_
        have fB := fI3241
        refine WE_ia dX11_copy_12 (ly_is hy 29 13 rfl) (ly_n hy 29 21 rfl) (by omega) (by omega) (fun v3246 ev3246 => ?_)
        refine WE_is dX11_copy_13 (ly_is hy 23 13 rfl) (ly_n hy 23 21 rfl) (by omega) (by omega) (fun I3247 eI3247 => ?_)
        have e3248 : I3247 (ad g 29) i3239.toInt.toNat = v3246 := by rw [eI3247, pp_ne _ _ (Or.inl (ly_ne hy (by decide) (by decide) (by decide)))]; exact ev3246
        have fI3249 : FC g [23] I I3247 := by rw [eI3247]; exact FC_pp fI3241 (by decide)
        have fQ3250 : FQ g [] I I3247 := by rw [eI3247]; exact FQ_ppn (ly_ne hy (by decide) (by decide) (by decide)) fQ3242
        refine WP_iinc (ls' := [(0, _), (1, _), (2, _)]) dX11_copy_14 rfl (by decide) rfl ?_
        have hv3251 : (i3239 + Int32.ofInt (1)).toInt = i3239.toInt + (1) := ia_n rfl (by omega) (by omega)
        generalize i3239 + Int32.ofInt (1) = v3251 at hv3251 ⊢
        refine WP_goto 2 dX11_copy_17 rfl ?_
        refine WP_sub (fc rfl (fc rfl (fc rfl fn))) (ihlp3243 v3251 I3247 fI3249 fQ3250 ?_ ?_)
        · refine ⟨k + 1, by omega, by omega, fun q hq => ?_⟩
          rw [eI3247, show i3239.toInt.toNat = k by omega, pp_at]
          split
          · rename_i e9
            rw [e9, ← ev3246, show i3239.toInt.toNat = k by omega, FC_at hy fB 29 (by decide) (by decide)]
          · exact iA q (by omega)
        · omega
  refine WP_sub (fc rfl (fc rfl (fc rfl fn))) (lp3243 _ v3238 I fI0 fQ0 ?_ (Nat.lt_succ_self _))
  · exact ⟨0, by omega, by omega, fun q h => absurd h (Nat.not_lt_zero _)⟩
set_option maxHeartbeats 4000000 in
set_option maxRecDepth 100000 in
theorem em_copy24 {g : GG} {I : pI} {J : pJ} {R : pR} (hy : Ly g) (hr : Rf g R)    : SP g mX11_copy [.ref (ad g 24), .ref (ad g 30)] I J R (fun r I' J' R' => R' = R ∧ FC g [24] I I' ∧ FC g [] J J' ∧ FQ g [] I I' ∧ r = none ∧ (∀ q, q < 28 → I' (ad g 24) q = I (ad g 30) q)) := by
  refine SP_of ⟨by decide, rfl⟩ (Nat.le_of_ble_eq_true rfl) ?_
  have fI0 : FC g [24] I I := FC_rf
  have fJ0 : FC g [] J J := FC_rf
  have fQ0 : FQ g [] I I := FQ_rf
  refine WQ_iconst (0) (0) dX11_copy_0 rfl rfl (fun v3252 hv3252 => ?_)
  refine WP_istore_n (ls' := [(0, _), (1, _), (2, _)]) dX11_copy_1 (by decide) rfl ?_
  have lp3257 : ∀ (mz : Nat) (i3253 : Int32) (I3254 : pI), FC g [24] I I3254 → FQ g [] I I3254 → (∃ k : Nat, i3253.toInt = (k : Int) ∧ k ≤ 28 ∧ ∀ q, q < k → I3254 (ad g 24) q = I (ad g 30) q) → (29 - i3253.toInt.toNat) < mz → WP g mX11_copy 2 [(0, .ref (ad g 24)), (1, .ref (ad g 30)), (2, .int i3253)] [] I3254 J R (fun r I' J' R' => R' = R ∧ FC g [24] I I' ∧ FC g [] J J' ∧ FQ g [] I I' ∧ r = none ∧ (∀ q, q < 28 → I' (ad g 24) q = I (ad g 30) q)) := by
    intro mz
    induction mz with
    | zero =>
      intro i3253 I3254 fI3255 fQ3256 hvlp3257 hmlp3257
      exact absurd hmlp3257 (Nat.not_lt_zero _)
    | succ mz ihlp3257 =>
      intro i3253 I3254 fI3255 fQ3256 hvlp3257 hmlp3257
      obtain ⟨k, ik, ik4, iA⟩ := hvlp3257
      refine WP_iload_n dX11_copy_2 rfl ?_
      refine WP_aload_n dX11_copy_3 rfl ?_
      refine WP_alen dX11_copy_4 (ly_is hy 24 13 rfl) (by decide) ?_
      rw [(ly_n hy 24 28 rfl)]
      obtain ⟨v3258, hv3258, ev3258⟩ : ∃ v : Int32, v.toInt = 28 ∧ nI 28 = v := ⟨_, nI_toInt (by decide), rfl⟩
      rw [ev3258]; clear ev3258
      refine WQ_icmp_ge 20 dX11_copy_5 rfl (fun c3258 => ?_) (fun c3258 => ?_)
      · exact WP_vret dX11_copy_20 rfl ⟨rfl, fI3255, fJ0, fQ3256, rfl, by
          intro q9 hq9
          exact iA q9 (by omega)⟩
      · refine WP_aload_n dX11_copy_8 rfl ?_
        refine WP_iload_n dX11_copy_9 rfl ?_
        refine WP_aload_n dX11_copy_10 rfl ?_
        refine WP_iload_n dX11_copy_11 rfl ?_
        have fB := fI3255
        refine WE_ia dX11_copy_12 (ly_is hy 30 13 rfl) (ly_n hy 30 28 rfl) (by omega) (by omega) (fun v3260 ev3260 => ?_)
        refine WE_is dX11_copy_13 (ly_is hy 24 13 rfl) (ly_n hy 24 28 rfl) (by omega) (by omega) (fun I3261 eI3261 => ?_)
        have e3262 : I3261 (ad g 30) i3253.toInt.toNat = v3260 := by rw [eI3261, pp_ne _ _ (Or.inl (ly_ne hy (by decide) (by decide) (by decide)))]; exact ev3260
        have fI3263 : FC g [24] I I3261 := by rw [eI3261]; exact FC_pp fI3255 (by decide)
        have fQ3264 : FQ g [] I I3261 := by rw [eI3261]; exact FQ_ppn (ly_ne hy (by decide) (by decide) (by decide)) fQ3256
        refine WP_iinc (ls' := [(0, _), (1, _), (2, _)]) dX11_copy_14 rfl (by decide) rfl ?_
        have hv3265 : (i3253 + Int32.ofInt (1)).toInt = i3253.toInt + (1) := ia_n rfl (by omega) (by omega)
        generalize i3253 + Int32.ofInt (1) = v3265 at hv3265 ⊢
        refine WP_goto 2 dX11_copy_17 rfl ?_
        refine WP_sub (fc rfl (fc rfl (fc rfl fn))) (ihlp3257 v3265 I3261 fI3263 fQ3264 ?_ ?_)
        · refine ⟨k + 1, by omega, by omega, fun q hq => ?_⟩
          rw [eI3261, show i3253.toInt.toNat = k by omega, pp_at]
          split
          · rename_i e9
            rw [e9, ← ev3260, show i3253.toInt.toNat = k by omega, FC_at hy fB 30 (by decide) (by decide)]
          · exact iA q (by omega)
        · omega
  refine WP_sub (fc rfl (fc rfl (fc rfl fn))) (lp3257 _ v3252 I fI0 fQ0 ?_ (Nat.lt_succ_self _))
  · exact ⟨0, by omega, by omega, fun q h => absurd h (Nat.not_lt_zero _)⟩
set_option maxHeartbeats 4000000 in
set_option maxRecDepth 100000 in
theorem em_copy25 {g : GG} {I : pI} {J : pJ} {R : pR} (hy : Ly g) (hr : Rf g R)    : SP g mX11_copy [.ref (ad g 25), .ref (ad g 31)] I J R (fun r I' J' R' => R' = R ∧ FC g [25] I I' ∧ FC g [] J J' ∧ FQ g [] I I' ∧ r = none ∧ (∀ q, q < 28 → I' (ad g 25) q = I (ad g 31) q)) := by
  refine SP_of ⟨by decide, rfl⟩ (Nat.le_of_ble_eq_true rfl) ?_
  have fI0 : FC g [25] I I := FC_rf
  have fJ0 : FC g [] J J := FC_rf
  have fQ0 : FQ g [] I I := FQ_rf
  refine WQ_iconst (0) (0) dX11_copy_0 rfl rfl (fun v3266 hv3266 => ?_)
  refine WP_istore_n (ls' := [(0, _), (1, _), (2, _)]) dX11_copy_1 (by decide) rfl ?_
  have lp3271 : ∀ (mz : Nat) (i3267 : Int32) (I3268 : pI), FC g [25] I I3268 → FQ g [] I I3268 → (∃ k : Nat, i3267.toInt = (k : Int) ∧ k ≤ 28 ∧ ∀ q, q < k → I3268 (ad g 25) q = I (ad g 31) q) → (29 - i3267.toInt.toNat) < mz → WP g mX11_copy 2 [(0, .ref (ad g 25)), (1, .ref (ad g 31)), (2, .int i3267)] [] I3268 J R (fun r I' J' R' => R' = R ∧ FC g [25] I I' ∧ FC g [] J J' ∧ FQ g [] I I' ∧ r = none ∧ (∀ q, q < 28 → I' (ad g 25) q = I (ad g 31) q)) := by
    intro mz
    induction mz with
    | zero =>
      intro i3267 I3268 fI3269 fQ3270 hvlp3271 hmlp3271
      exact absurd hmlp3271 (Nat.not_lt_zero _)
    | succ mz ihlp3271 =>
      intro i3267 I3268 fI3269 fQ3270 hvlp3271 hmlp3271
      obtain ⟨k, ik, ik4, iA⟩ := hvlp3271
      refine WP_iload_n dX11_copy_2 rfl ?_
      refine WP_aload_n dX11_copy_3 rfl ?_
      refine WP_alen dX11_copy_4 (ly_is hy 25 13 rfl) (by decide) ?_
      rw [(ly_n hy 25 28 rfl)]
      obtain ⟨v3272, hv3272, ev3272⟩ : ∃ v : Int32, v.toInt = 28 ∧ nI 28 = v := ⟨_, nI_toInt (by decide), rfl⟩
      rw [ev3272]; clear ev3272
      refine WQ_icmp_ge 20 dX11_copy_5 rfl (fun c3272 => ?_) (fun c3272 => ?_)
      · exact WP_vret dX11_copy_20 rfl ⟨rfl, fI3269, fJ0, fQ3270, rfl, by
          intro q9 hq9
          exact iA q9 (by omega)⟩
      · refine WP_aload_n dX11_copy_8 rfl ?_
        refine WP_iload_n dX11_copy_9 rfl ?_
        refine WP_aload_n dX11_copy_10 rfl ?_
        refine WP_iload_n dX11_copy_11 rfl ?_
        have fB := fI3269
        refine WE_ia dX11_copy_12 (ly_is hy 31 13 rfl) (ly_n hy 31 28 rfl) (by omega) (by omega) (fun v3274 ev3274 => ?_)
        refine WE_is dX11_copy_13 (ly_is hy 25 13 rfl) (ly_n hy 25 28 rfl) (by omega) (by omega) (fun I3275 eI3275 => ?_)
        have e3276 : I3275 (ad g 31) i3267.toInt.toNat = v3274 := by rw [eI3275, pp_ne _ _ (Or.inl (ly_ne hy (by decide) (by decide) (by decide)))]; exact ev3274
        have fI3277 : FC g [25] I I3275 := by rw [eI3275]; exact FC_pp fI3269 (by decide)
        have fQ3278 : FQ g [] I I3275 := by rw [eI3275]; exact FQ_ppn (ly_ne hy (by decide) (by decide) (by decide)) fQ3270
        refine WP_iinc (ls' := [(0, _), (1, _), (2, _)]) dX11_copy_14 rfl (by decide) rfl ?_
        have hv3279 : (i3267 + Int32.ofInt (1)).toInt = i3267.toInt + (1) := ia_n rfl (by omega) (by omega)
        generalize i3267 + Int32.ofInt (1) = v3279 at hv3279 ⊢
        refine WP_goto 2 dX11_copy_17 rfl ?_
        refine WP_sub (fc rfl (fc rfl (fc rfl fn))) (ihlp3271 v3279 I3275 fI3277 fQ3278 ?_ ?_)
        · refine ⟨k + 1, by omega, by omega, fun q hq => ?_⟩
          rw [eI3275, show i3267.toInt.toNat = k by omega, pp_at]
          split
          · rename_i e9
            rw [e9, ← ev3274, show i3267.toInt.toNat = k by omega, FC_at hy fB 31 (by decide) (by decide)]
          · exact iA q (by omega)
        · omega
  refine WP_sub (fc rfl (fc rfl (fc rfl fn))) (lp3271 _ v3266 I fI0 fQ0 ?_ (Nat.lt_succ_self _))
  · exact ⟨0, by omega, by omega, fun q h => absurd h (Nat.not_lt_zero _)⟩
set_option maxHeartbeats 4000000 in
set_option maxRecDepth 100000 in
theorem em_copy26 {g : GG} {I : pI} {J : pJ} {R : pR} (hy : Ly g) (hr : Rf g R)    : SP g mX11_copy [.ref (ad g 26), .ref (ad g 32)] I J R (fun r I' J' R' => R' = R ∧ FC g [26] I I' ∧ FC g [] J J' ∧ FQ g [] I I' ∧ r = none ∧ (∀ q, q < 28 → I' (ad g 26) q = I (ad g 32) q)) := by
  refine SP_of ⟨by decide, rfl⟩ (Nat.le_of_ble_eq_true rfl) ?_
  have fI0 : FC g [26] I I := FC_rf
  have fJ0 : FC g [] J J := FC_rf
  have fQ0 : FQ g [] I I := FQ_rf
  refine WQ_iconst (0) (0) dX11_copy_0 rfl rfl (fun v3280 hv3280 => ?_)
  refine WP_istore_n (ls' := [(0, _), (1, _), (2, _)]) dX11_copy_1 (by decide) rfl ?_
  have lp3285 : ∀ (mz : Nat) (i3281 : Int32) (I3282 : pI), FC g [26] I I3282 → FQ g [] I I3282 → (∃ k : Nat, i3281.toInt = (k : Int) ∧ k ≤ 28 ∧ ∀ q, q < k → I3282 (ad g 26) q = I (ad g 32) q) → (29 - i3281.toInt.toNat) < mz → WP g mX11_copy 2 [(0, .ref (ad g 26)), (1, .ref (ad g 32)), (2, .int i3281)] [] I3282 J R (fun r I' J' R' => R' = R ∧ FC g [26] I I' ∧ FC g [] J J' ∧ FQ g [] I I' ∧ r = none ∧ (∀ q, q < 28 → I' (ad g 26) q = I (ad g 32) q)) := by
    intro mz
    induction mz with
    | zero =>
      intro i3281 I3282 fI3283 fQ3284 hvlp3285 hmlp3285
      exact absurd hmlp3285 (Nat.not_lt_zero _)
    | succ mz ihlp3285 =>
      intro i3281 I3282 fI3283 fQ3284 hvlp3285 hmlp3285
      obtain ⟨k, ik, ik4, iA⟩ := hvlp3285
      refine WP_iload_n dX11_copy_2 rfl ?_
      refine WP_aload_n dX11_copy_3 rfl ?_
      refine WP_alen dX11_copy_4 (ly_is hy 26 13 rfl) (by decide) ?_
      rw [(ly_n hy 26 28 rfl)]
      obtain ⟨v3286, hv3286, ev3286⟩ : ∃ v : Int32, v.toInt = 28 ∧ nI 28 = v := ⟨_, nI_toInt (by decide), rfl⟩
      rw [ev3286]; clear ev3286
      refine WQ_icmp_ge 20 dX11_copy_5 rfl (fun c3286 => ?_) (fun c3286 => ?_)
      · exact WP_vret dX11_copy_20 rfl ⟨rfl, fI3283, fJ0, fQ3284, rfl, by
          intro q9 hq9
          exact iA q9 (by omega)⟩
      · refine WP_aload_n dX11_copy_8 rfl ?_
        refine WP_iload_n dX11_copy_9 rfl ?_
        refine WP_aload_n dX11_copy_10 rfl ?_
        refine WP_iload_n dX11_copy_11 rfl ?_
        have fB := fI3283
        refine WE_ia dX11_copy_12 (ly_is hy 32 13 rfl) (ly_n hy 32 28 rfl) (by omega) (by omega) (fun v3288 ev3288 => ?_)
        refine WE_is dX11_copy_13 (ly_is hy 26 13 rfl) (ly_n hy 26 28 rfl) (by omega) (by omega) (fun I3289 eI3289 => ?_)
        have e3290 : I3289 (ad g 32) i3281.toInt.toNat = v3288 := by rw [eI3289, pp_ne _ _ (Or.inl (ly_ne hy (by decide) (by decide) (by decide)))]; exact ev3288
        have fI3291 : FC g [26] I I3289 := by rw [eI3289]; exact FC_pp fI3283 (by decide)
        have fQ3292 : FQ g [] I I3289 := by rw [eI3289]; exact FQ_ppn (ly_ne hy (by decide) (by decide) (by decide)) fQ3284
        refine WP_iinc (ls' := [(0, _), (1, _), (2, _)]) dX11_copy_14 rfl (by decide) rfl ?_
        have hv3293 : (i3281 + Int32.ofInt (1)).toInt = i3281.toInt + (1) := ia_n rfl (by omega) (by omega)
        generalize i3281 + Int32.ofInt (1) = v3293 at hv3293 ⊢
        refine WP_goto 2 dX11_copy_17 rfl ?_
        refine WP_sub (fc rfl (fc rfl (fc rfl fn))) (ihlp3285 v3293 I3289 fI3291 fQ3292 ?_ ?_)
        · refine ⟨k + 1, by omega, by omega, fun q hq => ?_⟩
          rw [eI3289, show i3281.toInt.toNat = k by omega, pp_at]
          split
          · rename_i e9
            rw [e9, ← ev3288, show i3281.toInt.toNat = k by omega, FC_at hy fB 32 (by decide) (by decide)]
          · exact iA q (by omega)
        · omega
  refine WP_sub (fc rfl (fc rfl (fc rfl fn))) (lp3285 _ v3280 I fI0 fQ0 ?_ (Nat.lt_succ_self _))
  · exact ⟨0, by omega, by omega, fun q h => absurd h (Nat.not_lt_zero _)⟩
set_option maxHeartbeats 4000000 in
set_option maxRecDepth 100000 in
theorem em_begin38 {g : GG} {I : pI} {J : pJ} {R : pR} (hy : Ly g) (hr : Rf g R) {mm : Int}  (hs : (I (ad g 0) 10).toInt = mm) (hm : 0 ≤ mm ∧ mm ≤ 4) : SP g mX11_begin [.ref (ad g 0), .ref (ad g 38)] I J R (fun r I' J' R' => R' = R ∧ FC g [38] I I' ∧ FC g [] J J' ∧ FQ g [] I I' ∧ r = none ∧ ((∀ q : Nat, q < 35 → (q < 28 ∨ 32 ≤ q) → (I' (ad g 38) q).toInt = if (q : Int) < mm then (I (ad g 10) q).toInt else 0) ∧ (∀ q, 28 ≤ q → q < 32 → I' (ad g 38) q = I (ad g 38) q))) := by
  refine SP_of ⟨by decide, rfl⟩ (Nat.le_of_ble_eq_true rfl) ?_
  have fI0 : FC g [38] I I := FC_rf
  have fJ0 : FC g [] J J := FC_rf
  have fQ0 : FQ g [] I I := FQ_rf
  have hs0 := hs
  obtain ⟨w3294, ew3294⟩ : ∃ w : Int32, I (ad g 0) 10 = w := ⟨_, rfl⟩
  try simp only [ew3294] at hs
  refine WQ_iconst (0) (0) dX11_begin_0 rfl rfl (fun v3295 hv3295 => ?_)
  refine WP_istore_n (ls' := [(0, _), (1, _), (2, _)]) dX11_begin_1 (by decide) rfl ?_
  have lp3300 : ∀ (mz : Nat) (i3296 : Int32) (I3297 : pI), FC g [38] I I3297 → FQ g [] I I3297 → (∃ k : Nat, i3296.toInt = (k : Int) ∧ k ≤ 35 ∧ (∀ q, q < k → (q < 28 ∨ 32 ≤ q) → (I3297 (ad g 38) q).toInt = 0) ∧ (∀ q, 28 ≤ q → q < 32 → I3297 (ad g 38) q = I (ad g 38) q)) → (36 - i3296.toInt.toNat) < mz → WP g mX11_begin 2 [(0, .ref (ad g 0)), (1, .ref (ad g 38)), (2, .int i3296)] [] I3297 J R (fun r I' J' R' => R' = R ∧ FC g [38] I I' ∧ FC g [] J J' ∧ FQ g [] I I' ∧ r = none ∧ ((∀ q : Nat, q < 35 → (q < 28 ∨ 32 ≤ q) → (I' (ad g 38) q).toInt = if (q : Int) < mm then (I (ad g 10) q).toInt else 0) ∧ (∀ q, 28 ≤ q → q < 32 → I' (ad g 38) q = I (ad g 38) q))) := by
    intro mz
    induction mz with
    | zero =>
      intro i3296 I3297 fI3298 fQ3299 hvlp3300 hmlp3300
      exact absurd hmlp3300 (Nat.not_lt_zero _)
    | succ mz ihlp3300 =>
      intro i3296 I3297 fI3298 fQ3299 hvlp3300 hmlp3300
      obtain ⟨w3301, ew3301⟩ : ∃ w : Int32, I3297 (ad g 0) 10 = w := ⟨_, rfl⟩
      try simp only [ew3301, ew3294] at hvlp3300 hmlp3300
      obtain ⟨k, ik, ik4, iA, iB⟩ := hvlp3300
      have hs2 := hs0
      rw [← FC_at hy fI3298 0 (by decide) (by decide), ew3301] at hs2
      refine WP_iload_n dX11_begin_2 rfl ?_
      refine WQ_bipush (35) (35) dX11_begin_3 rfl rfl (fun v3302 hv3302 => ?_)
      refine WQ_icmp_ge 30 dX11_begin_5 rfl (fun c3302 => ?_) (fun c3302 => ?_)
      · refine WQ_iconst (0) (0) dX11_begin_30 rfl rfl (fun v3304 hv3304 => ?_)
        refine WP_istore_n (ls' := [(0, _), (1, _), (2, _)]) dX11_begin_31 (by decide) rfl ?_
        have lp3309 : ∀ (mz : Nat) (i3305 : Int32) (I3306 : pI), FC g [38] I I3306 → FQ g [] I I3306 → (∃ k : Nat, i3305.toInt = (k : Int) ∧ (k : Int) ≤ mm ∧ (∀ q, q < 35 → (q < 28 ∨ 32 ≤ q) → (I3306 (ad g 38) q).toInt = if q < k then (I (ad g 10) q).toInt else 0) ∧ (∀ q, 28 ≤ q → q < 32 → I3306 (ad g 38) q = I (ad g 38) q)) → (5 - i3305.toInt.toNat) < mz → WP g mX11_begin 32 [(0, .ref (ad g 0)), (1, .ref (ad g 38)), (2, .int i3305)] [] I3306 J R (fun r I' J' R' => R' = R ∧ FC g [38] I I' ∧ FC g [] J J' ∧ FQ g [] I I' ∧ r = none ∧ ((∀ q : Nat, q < 35 → (q < 28 ∨ 32 ≤ q) → (I' (ad g 38) q).toInt = if (q : Int) < mm then (I (ad g 10) q).toInt else 0) ∧ (∀ q, 28 ≤ q → q < 32 → I' (ad g 38) q = I (ad g 38) q))) := by
          intro mz
          induction mz with
          | zero =>
            intro i3305 I3306 fI3307 fQ3308 hvlp3309 hmlp3309
            exact absurd hmlp3309 (Nat.not_lt_zero _)
          | succ mz ihlp3309 =>
            intro i3305 I3306 fI3307 fQ3308 hvlp3309 hmlp3309
            obtain ⟨w3310, ew3310⟩ : ∃ w : Int32, I3306 (ad g 0) 10 = w := ⟨_, rfl⟩
            try simp only [ew3310, ew3294] at hvlp3309 hmlp3309
            obtain ⟨k, ik, ik4, jA, jB⟩ := hvlp3309
            have hs2 := hs0
            rw [← FC_at hy fI3307 0 (by decide) (by decide), ew3310] at hs2
            refine WP_iload_n dX11_begin_32 rfl ?_
            refine WP_aload_n dX11_begin_33 rfl ?_
            refine WQ_getim dX11_begin_34 fX11_329 rfl (ly_is hy 0 11 rfl) ew3310 ?_
            refine WQ_icmp_ge 57 dX11_begin_37 rfl (fun c3310 => ?_) (fun c3310 => ?_)
            · exact WP_vret dX11_begin_57 rfl ⟨rfl, fI3307, fJ0, fQ3308, rfl, by
                try simp only [ew3310, ew3294]
                refine ⟨fun q hq h9 => ?_, jB⟩
                rw [jA q hq h9]
                by_cases e8 : q < k
                · rw [if_pos e8, if_pos (by omega)]
                · rw [if_neg e8, if_neg (by omega)]⟩
            · refine WP_aload_n dX11_begin_40 rfl ?_
              refine WQ_iconst (0) (0) dX11_begin_41 rfl rfl (fun v3312 hv3312 => ?_)
              refine WP_iload_n dX11_begin_42 rfl ?_
              refine WQ_iadd dX11_begin_43 (by omega) (by omega) (fun v3313 hv3313 => ?_)
              refine WP_aload_n dX11_begin_44 rfl ?_
              refine WP_getr dX11_begin_45 fX11_241 rfl (ly_is hy 0 11 rfl) (rf hr 0 28 10 (by decide)) ?_
              refine WP_iload_n dX11_begin_48 rfl ?_
              have fB := fI3307
              refine WE_ia dX11_begin_49 (ly_is hy 10 13 rfl) (ly_n hy 10 4 rfl) (by omega) (by omega) (fun v3314 ev3314 => ?_)
              refine WE_is dX11_begin_50 (ly_is hy 38 13 rfl) (ly_n hy 38 35 rfl) (by omega) (by omega) (fun I3315 eI3315 => ?_)
              have e3316 : I3315 (ad g 0) 10 = w3310 := by rw [eI3315, pp_ne _ _ (Or.inl (ly_ne hy (by decide) (by decide) (by decide)))]; exact ew3310
              have e3317 : I3315 (ad g 10) i3305.toInt.toNat = v3314 := by rw [eI3315, pp_ne _ _ (Or.inl (ly_ne hy (by decide) (by decide) (by decide)))]; exact ev3314
              have fI3318 : FC g [38] I I3315 := by rw [eI3315]; exact FC_pp fI3307 (by decide)
              have fQ3319 : FQ g [] I I3315 := by rw [eI3315]; exact FQ_ppn (ly_ne hy (by decide) (by decide) (by decide)) fQ3308
              refine WP_iinc (ls' := [(0, _), (1, _), (2, _)]) dX11_begin_51 rfl (by decide) rfl ?_
              have hv3320 : (i3305 + Int32.ofInt (1)).toInt = i3305.toInt + (1) := ia_n rfl (by omega) (by omega)
              generalize i3305 + Int32.ofInt (1) = v3320 at hv3320 ⊢
              refine WP_goto 32 dX11_begin_54 rfl ?_
              refine WP_sub (fc rfl (fc rfl (fc rfl fn))) (ihlp3309 v3320 I3315 fI3318 fQ3319 ?_ ?_)
              · try simp only [e3316, ew3294]
                refine ⟨k + 1, by omega, by omega, fun q hq h9 => ?_, fun q h8 h9 => ?_⟩
                · rw [eI3315, show v3313.toInt.toNat = k by omega, pp_at]
                  split
                  · rename_i e9
                    rw [e9, if_pos (by omega), ← ev3314, show i3305.toInt.toNat = k by omega, FC_at hy fB 10 (by decide) (by decide)]
                  · rename_i e9
                    rw [jA q hq h9]
                    by_cases e8 : q < k
                    · rw [if_pos e8, if_pos (by omega)]
                    · rw [if_neg e8, if_neg (by omega)]
                · rw [eI3315, show v3313.toInt.toNat = k by omega, pp_at, if_neg (by omega)]; exact jB q h8 h9
              · try simp only [e3316, ew3294]
                omega
        refine WP_sub (fc rfl (fc rfl (fc rfl fn))) (lp3309 _ v3304 I3297 fI3298 fQ3299 ?_ (Nat.lt_succ_self _))
        · try simp only [ew3301, ew3294]
          refine ⟨0, by omega, by omega, fun q hq h9 => ?_, iB⟩
          rw [if_neg (Nat.not_lt_zero _)]
          exact iA q (by omega) h9
      · refine WP_iload_n dX11_begin_8 rfl ?_
        refine WQ_bipush (28) (28) dX11_begin_9 rfl rfl (fun v3321 hv3321 => ?_)
        refine WQ_icmp_lt 20 dX11_begin_11 rfl (fun c3321 => ?_) (fun c3321 => ?_)
        · refine WP_aload_n dX11_begin_20 rfl ?_
          refine WP_iload_n dX11_begin_21 rfl ?_
          refine WQ_iconst (0) (0) dX11_begin_22 rfl rfl (fun v3323 hv3323 => ?_)
          refine WE_is dX11_begin_23 (ly_is hy 38 13 rfl) (ly_n hy 38 35 rfl) (by omega) (by omega) (fun I3324 eI3324 => ?_)
          have e3325 : I3324 (ad g 0) 10 = w3301 := by rw [eI3324, pp_ne _ _ (Or.inl (ly_ne hy (by decide) (by decide) (by decide)))]; exact ew3301
          have fI3326 : FC g [38] I I3324 := by rw [eI3324]; exact FC_pp fI3298 (by decide)
          have fQ3327 : FQ g [] I I3324 := by rw [eI3324]; exact FQ_ppn (ly_ne hy (by decide) (by decide) (by decide)) fQ3299
          refine WP_iinc (ls' := [(0, _), (1, _), (2, _)]) dX11_begin_24 rfl (by decide) rfl ?_
          have hv3328 : (i3296 + Int32.ofInt (1)).toInt = i3296.toInt + (1) := ia_n rfl (by omega) (by omega)
          generalize i3296 + Int32.ofInt (1) = v3328 at hv3328 ⊢
          refine WP_goto 2 dX11_begin_27 rfl ?_
          refine WP_sub (fc rfl (fc rfl (fc rfl fn))) (ihlp3300 v3328 I3324 fI3326 fQ3327 ?_ ?_)
          · try simp only [e3325, ew3294]
            refine ⟨k + 1, by omega, by omega, fun q hq h9 => ?_, fun q h8 h9 => ?_⟩
            · rw [eI3324, show i3296.toInt.toNat = k by omega, pp_at]
              split
              · omega
              · exact iA q (by omega) h9
            · rw [eI3324, show i3296.toInt.toNat = k by omega, pp_at, if_neg (by omega)]; exact iB q h8 h9
          · try simp only [e3325, ew3294]
            omega
        · refine WP_iload_n dX11_begin_14 rfl ?_
          refine WQ_bipush (32) (32) dX11_begin_15 rfl rfl (fun v3329 hv3329 => ?_)
          refine WQ_icmp_lt 24 dX11_begin_17 rfl (fun c3329 => ?_) (fun c3329 => ?_)
          · refine WP_iinc (ls' := [(0, _), (1, _), (2, _)]) dX11_begin_24 rfl (by decide) rfl ?_
            have hv3331 : (i3296 + Int32.ofInt (1)).toInt = i3296.toInt + (1) := ia_n rfl (by omega) (by omega)
            generalize i3296 + Int32.ofInt (1) = v3331 at hv3331 ⊢
            refine WP_goto 2 dX11_begin_27 rfl ?_
            refine WP_sub (fc rfl (fc rfl (fc rfl fn))) (ihlp3300 v3331 I3297 fI3298 fQ3299 ?_ ?_)
            · try simp only [ew3301, ew3294]
              refine ⟨k + 1, by omega, by omega, fun q hq h9 => iA q (by omega) h9, iB⟩
            · try simp only [ew3301, ew3294]
              omega
          · refine WP_aload_n dX11_begin_20 rfl ?_
            refine WP_iload_n dX11_begin_21 rfl ?_
            refine WQ_iconst (0) (0) dX11_begin_22 rfl rfl (fun v3332 hv3332 => ?_)
            refine WE_is dX11_begin_23 (ly_is hy 38 13 rfl) (ly_n hy 38 35 rfl) (by omega) (by omega) (fun I3333 eI3333 => ?_)
            have e3334 : I3333 (ad g 0) 10 = w3301 := by rw [eI3333, pp_ne _ _ (Or.inl (ly_ne hy (by decide) (by decide) (by decide)))]; exact ew3301
            have fI3335 : FC g [38] I I3333 := by rw [eI3333]; exact FC_pp fI3298 (by decide)
            have fQ3336 : FQ g [] I I3333 := by rw [eI3333]; exact FQ_ppn (ly_ne hy (by decide) (by decide) (by decide)) fQ3299
            refine WP_iinc (ls' := [(0, _), (1, _), (2, _)]) dX11_begin_24 rfl (by decide) rfl ?_
            have hv3337 : (i3296 + Int32.ofInt (1)).toInt = i3296.toInt + (1) := ia_n rfl (by omega) (by omega)
            generalize i3296 + Int32.ofInt (1) = v3337 at hv3337 ⊢
            refine WP_goto 2 dX11_begin_27 rfl ?_
            refine WP_sub (fc rfl (fc rfl (fc rfl fn))) (ihlp3300 v3337 I3333 fI3335 fQ3336 ?_ ?_)
            · try simp only [e3334, ew3294]
              refine ⟨k + 1, by omega, by omega, fun q hq h9 => ?_, fun q h8 h9 => ?_⟩
              · rw [eI3333, show i3296.toInt.toNat = k by omega, pp_at]
                split
                · omega
                · exact iA q (by omega) h9
              · rw [eI3333, show i3296.toInt.toNat = k by omega, pp_at, if_neg (by omega)]; exact iB q h8 h9
            · try simp only [e3334, ew3294]
              omega
  refine WP_sub (fc rfl (fc rfl (fc rfl fn))) (lp3300 _ v3295 I fI0 fQ0 ?_ (Nat.lt_succ_self _))
  · try simp only [ew3294]
    exact ⟨0, by omega, by omega, fun q h => absurd h (Nat.not_lt_zero _), by simp⟩
set_option maxHeartbeats 4000000 in
set_option maxRecDepth 100000 in
theorem em_forgetWeeks {g : GG} {I : pI} {J : pJ} {R : pR} (hy : Ly g) (hr : Rf g R)    : SP g mX11_forgetWeeks [.ref (ad g 0)] I J R (fun r I' J' R' => R' = R ∧ FC g [37] I I' ∧ FC g [] J J' ∧ FQ g [] I I' ∧ r = none ∧ (∀ q, q < 28 → (I' (ad g 37) q).toInt = 0)) := by
  refine SP_of ⟨by decide, rfl⟩ (Nat.le_of_ble_eq_true rfl) ?_
  have fI0 : FC g [37] I I := FC_rf
  have fJ0 : FC g [] J J := FC_rf
  have fQ0 : FQ g [] I I := FQ_rf
  refine WQ_iconst (0) (0) dX11_forgetWeeks_0 rfl rfl (fun v3382 hv3382 => ?_)
  refine WP_istore_n (ls' := [(0, _), (1, _)]) dX11_forgetWeeks_1 (by decide) rfl ?_
  have lp3387 : ∀ (mz : Nat) (i3383 : Int32) (I3384 : pI), FC g [37] I I3384 → FQ g [] I I3384 → (∃ k : Nat, i3383.toInt = (k : Int) ∧ k ≤ 28 ∧ ∀ q, q < k → (I3384 (ad g 37) q).toInt = 0) → (29 - i3383.toInt.toNat) < mz → WP g mX11_forgetWeeks 2 [(0, .ref (ad g 0)), (1, .int i3383)] [] I3384 J R (fun r I' J' R' => R' = R ∧ FC g [37] I I' ∧ FC g [] J J' ∧ FQ g [] I I' ∧ r = none ∧ (∀ q, q < 28 → (I' (ad g 37) q).toInt = 0)) := by
    intro mz
    induction mz with
    | zero =>
      intro i3383 I3384 fI3385 fQ3386 hvlp3387 hmlp3387
      exact absurd hmlp3387 (Nat.not_lt_zero _)
    | succ mz ihlp3387 =>
      intro i3383 I3384 fI3385 fQ3386 hvlp3387 hmlp3387
      obtain ⟨k, ik, ik4, iA⟩ := hvlp3387
      refine WP_iload_n dX11_forgetWeeks_2 rfl ?_
      refine WQ_bipush (28) (28) dX11_forgetWeeks_3 rfl rfl (fun v3388 hv3388 => ?_)
      refine WQ_icmp_ge 21 dX11_forgetWeeks_5 rfl (fun c3388 => ?_) (fun c3388 => ?_)
      · exact WP_vret dX11_forgetWeeks_21 rfl ⟨rfl, fI3385, fJ0, fQ3386, rfl, by
          intro q9 hq9
          exact iA q9 (by omega)⟩
      · refine WP_aload_n dX11_forgetWeeks_8 rfl ?_
        refine WP_getr dX11_forgetWeeks_9 fX11_279 rfl (ly_is hy 0 11 rfl) (rf hr 0 58 37 (by decide)) ?_
        refine WP_iload_n dX11_forgetWeeks_12 rfl ?_
        refine WQ_iconst (0) (0) dX11_forgetWeeks_13 rfl rfl (fun v3390 hv3390 => ?_)
        refine WE_zs dX11_forgetWeeks_14 (ly_is hy 37 15 rfl) (ly_n hy 37 28 rfl) (by omega) (by omega) (fun I3391 eI3391 => ?_)
        have fI3392 : FC g [37] I I3391 := by rw [eI3391]; exact FC_pp fI3385 (by decide)
        have fQ3393 : FQ g [] I I3391 := by rw [eI3391]; exact FQ_ppn (ly_ne hy (by decide) (by decide) (by decide)) fQ3386
        refine WP_iinc (ls' := [(0, _), (1, _)]) dX11_forgetWeeks_15 rfl (by decide) rfl ?_
        have hv3394 : (i3383 + Int32.ofInt (1)).toInt = i3383.toInt + (1) := ia_n rfl (by omega) (by omega)
        generalize i3383 + Int32.ofInt (1) = v3394 at hv3394 ⊢
        refine WP_goto 2 dX11_forgetWeeks_18 rfl ?_
        refine WP_sub (fc rfl (fc rfl fn)) (ihlp3387 v3394 I3391 fI3392 fQ3393 ?_ ?_)
        · refine ⟨k + 1, by omega, by omega, fun q hq => ?_⟩
          rw [eI3391, show i3383.toInt.toNat = k by omega, pp_at]
          split
          · exact narz (by omega)
          · exact iA q (by omega)
        · omega
  refine WP_sub (fc rfl (fc rfl fn)) (lp3387 _ v3382 I fI0 fQ0 ?_ (Nat.lt_succ_self _))
  · exact ⟨0, by omega, by omega, fun q h => absurd h (Nat.not_lt_zero _)⟩
set_option maxHeartbeats 4000000 in
set_option maxRecDepth 100000 in
theorem em_town {g : GG} {I : pI} {J : pJ} {R : pR} (hy : Ly g) (hr : Rf g R) {aK aV : Nat → Nat} {fo : Option Nat} (hz : HZ g aK aV fo) {B : Nat → Int} {n : Nat} (j : Nat → Nat → Int)  (h1 : (I (ad g 0) 1).toInt = (n : Int)) (hbt : ∀ q, q < 900 → (I (ad g 1) q).toInt = B q) (hn : n ≤ 900) (hB : ∀ q, -128 ≤ B q ∧ B q ≤ 127) : SP g mX11_town [.ref (ad g 0)] I J R (fun r I' J' R' => R' = R ∧ FC g [0, 6, 7, 8, 9, 10, 11, 12, 13, 14, 15, 16, 17, 18, 19, 20, 21, 22, 23, 24, 25, 26, 27, 28, 29, 30, 31, 32, 33, 34, 37, 38, 44, 46, 47] I I' ∧ FC g [0, 2, 3, 4, 5] J J' ∧ FQ g [1, 2, 3, 4, 5, 6, 7, 8, 9, 10, 11, 12, 13, 14, 15, 16, 17, 18, 19, 51, 68] I I' ∧ ∃ v : Int32, r = some (.int v) ∧ ((v.toInt = -1 ∧ ERR g (town B n j) I' ∧ FC g [0, 7, 14, 15, 16, 17, 18, 19, 27, 28, 29, 30, 31, 32, 33, 34] I I' ∧ FC g [4, 5] J J' ∧ FQ g [1, 2, 3, 4, 5, 6, 7, 8, 9, 15, 16, 17, 18, 19, 51] I I') ∨ (∃ S2 : TwS, town B n j = .ok S2 ∧ v.toInt = S2.1 0 0 ∧ RTT g S2 I' J' ∧ STM g S2 I' J'))) := by
  refine SP_of ⟨by decide, rfl⟩ (Nat.le_of_ble_eq_true rfl) ?_
  have fI0 : FC g [0, 6, 7, 8, 9, 10, 11, 12, 13, 14, 15, 16, 17, 18, 19, 20, 21, 22, 23, 24, 25, 26, 27, 28, 29, 30, 31, 32, 33, 34, 37, 38, 44, 46, 47] I I := FC_rf
  have fJ0 : FC g [0, 2, 3, 4, 5] J J := FC_rf
  have fQ0 : FQ g [1, 2, 3, 4, 5, 6, 7, 8, 9, 10, 11, 12, 13, 14, 15, 16, 17, 18, 19, 51, 68] I I := FQ_rf
  obtain ⟨w3395, ew3395⟩ : ∃ w : Int32, I (ad g 0) 1 = w := ⟨_, rfl⟩
  obtain ⟨w3396, ew3396⟩ : ∃ w : Int32, I (ad g 0) 8 = w := ⟨_, rfl⟩
  obtain ⟨w3397, ew3397⟩ : ∃ w : Int32, I (ad g 0) 9 = w := ⟨_, rfl⟩
  obtain ⟨w3398, ew3398⟩ : ∃ w : Int32, I (ad g 0) 10 = w := ⟨_, rfl⟩
  obtain ⟨w3399, ew3399⟩ : ∃ w : Int32, I (ad g 0) 11 = w := ⟨_, rfl⟩
  obtain ⟨w3400, ew3400⟩ : ∃ w : Int32, I (ad g 0) 13 = w := ⟨_, rfl⟩
  obtain ⟨w3401, ew3401⟩ : ∃ w : Int32, I (ad g 0) 14 = w := ⟨_, rfl⟩
  obtain ⟨w3402, ew3402⟩ : ∃ w : Int32, I (ad g 0) 15 = w := ⟨_, rfl⟩
  obtain ⟨w3403, ew3403⟩ : ∃ w : Int32, I (ad g 0) 16 = w := ⟨_, rfl⟩
  obtain ⟨w3404, ew3404⟩ : ∃ w : Int32, I (ad g 0) 17 = w := ⟨_, rfl⟩
  obtain ⟨w3405, ew3405⟩ : ∃ w : Int32, I (ad g 0) 18 = w := ⟨_, rfl⟩
  obtain ⟨w3406, ew3406⟩ : ∃ w : Int32, I (ad g 0) 19 = w := ⟨_, rfl⟩
  refine WP_aload_n dX11_town_0 rfl ?_
  refine WP_callV0 (k := 11) dX11_town_1 ⟨⟨⟨by decide, by decide⟩, zX11_open⟩, lX11_323, by decide, rfl, vX11_open.1, vX11_open.2⟩ (ly_is hy 0 11 rfl) (em_open hy hr   h1 hbt hn hB) (Nat.le_of_ble_eq_true rfl) ?_
  intro r I3408 J3409 Ra hq
  obtain ⟨ec, g3410, g3411, g3412, er, p3407⟩ := hq
  rw [ec, er]
  clear ec er Ra r
  have e3413 : I3408 (ad g 0) 10 = w3398 := by rw [g3412 10 (by decide)]; exact ew3398
  have e3414 : I3408 (ad g 0) 11 = w3399 := by rw [g3412 11 (by decide)]; exact ew3399
  have e3415 : I3408 (ad g 0) 13 = w3400 := by rw [g3412 13 (by decide)]; exact ew3400
  have e3416 : I3408 (ad g 0) 14 = w3401 := by rw [g3412 14 (by decide)]; exact ew3401
  have e3417 : I3408 (ad g 0) 15 = w3402 := by rw [g3412 15 (by decide)]; exact ew3402
  have e3418 : I3408 (ad g 0) 16 = w3403 := by rw [g3412 16 (by decide)]; exact ew3403
  have e3419 : I3408 (ad g 0) 17 = w3404 := by rw [g3412 17 (by decide)]; exact ew3404
  have e3420 : I3408 (ad g 0) 18 = w3405 := by rw [g3412 18 (by decide)]; exact ew3405
  have e3421 : I3408 (ad g 0) 19 = w3406 := by rw [g3412 19 (by decide)]; exact ew3406
  have fI3422 : FC g [0, 6, 7, 8, 9, 10, 11, 12, 13, 14, 15, 16, 17, 18, 19, 20, 21, 22, 23, 24, 25, 26, 27, 28, 29, 30, 31, 32, 33, 34, 37, 38, 44, 46, 47] I I3408 := FC_tr fI0 (FC_mono g3410 (by decide))
  have fJ3423 : FC g [0, 2, 3, 4, 5] J J3409 := FC_tr fJ0 (FC_mono g3411 (by decide))
  have fQ3424 : FQ g [1, 2, 3, 4, 5, 6, 7, 8, 9, 10, 11, 12, 13, 14, 15, 16, 17, 18, 19, 51, 68] I I3408 := FQ_tr fQ0 (FQ_mono g3412 (by decide))
  obtain ⟨w3425, ew3425⟩ : ∃ w : Int32, I3408 (ad g 0) 1 = w := ⟨_, rfl⟩
  obtain ⟨w3426, ew3426⟩ : ∃ w : Int32, I3408 (ad g 0) 8 = w := ⟨_, rfl⟩
  obtain ⟨w3427, ew3427⟩ : ∃ w : Int32, I3408 (ad g 0) 9 = w := ⟨_, rfl⟩
  try simp only [ew3425, ew3426, ew3427, e3413, e3414, e3415, e3416, e3417, e3418, e3419, e3420, e3421, ew3395, ew3396, ew3397, ew3398, ew3399, ew3400, ew3401, ew3402, ew3403, ew3404, ew3405, ew3406] at p3407
  obtain ⟨hT1, hC1, ht1, hf8, hf9⟩ := p3407
  refine WP_aload_n dX11_town_4 rfl ?_
  refine WP_callV0 (k := 11) dX11_town_5 ⟨⟨⟨by decide, by decide⟩, zX11_readTown⟩, lX11_326, by decide, rfl, vX11_readTown.1, vX11_readTown.2⟩ (ly_is hy 0 11 rfl) (em_readTown hy hr hz   j hT1 hC1 hn hB (Nat.zero_le _) rfl) (Nat.le_of_ble_eq_true rfl) ?_
  intro r I3430 J3431 Ra hq
  obtain ⟨ec, g3432, g3433, g3434, v3429, er, p3428⟩ := hq
  rw [ec, er]
  clear ec er Ra r
  have e3435 : I3430 (ad g 0) 10 = w3398 := by rw [g3434 10 (by decide)]; exact e3413
  have e3436 : I3430 (ad g 0) 11 = w3399 := by rw [g3434 11 (by decide)]; exact e3414
  have e3437 : I3430 (ad g 0) 13 = w3400 := by rw [g3434 13 (by decide)]; exact e3415
  have e3438 : I3430 (ad g 0) 14 = w3401 := by rw [g3434 14 (by decide)]; exact e3416
  have e3439 : I3430 (ad g 0) 1 = w3425 := by rw [g3434 1 (by decide)]; exact ew3425
  have fI3440 : FC g [0, 6, 7, 8, 9, 10, 11, 12, 13, 14, 15, 16, 17, 18, 19, 20, 21, 22, 23, 24, 25, 26, 27, 28, 29, 30, 31, 32, 33, 34, 37, 38, 44, 46, 47] I I3430 := FC_tr fI3422 (FC_mono g3432 (by decide))
  have fJ3441 : FC g [0, 2, 3, 4, 5] J J3431 := FC_tr fJ3423 (FC_mono g3433 (by decide))
  have fQ3442 : FQ g [1, 2, 3, 4, 5, 6, 7, 8, 9, 10, 11, 12, 13, 14, 15, 16, 17, 18, 19, 51, 68] I I3430 := FQ_tr fQ3424 (FQ_mono g3434 (by decide))
  obtain ⟨w3443, ew3443⟩ : ∃ w : Int32, I3430 (ad g 0) 8 = w := ⟨_, rfl⟩
  obtain ⟨w3444, ew3444⟩ : ∃ w : Int32, I3430 (ad g 0) 9 = w := ⟨_, rfl⟩
  obtain ⟨w3445, ew3445⟩ : ∃ w : Int32, I3430 (ad g 0) 15 = w := ⟨_, rfl⟩
  obtain ⟨w3446, ew3446⟩ : ∃ w : Int32, I3430 (ad g 0) 16 = w := ⟨_, rfl⟩
  obtain ⟨w3447, ew3447⟩ : ∃ w : Int32, I3430 (ad g 0) 17 = w := ⟨_, rfl⟩
  obtain ⟨w3448, ew3448⟩ : ∃ w : Int32, I3430 (ad g 0) 18 = w := ⟨_, rfl⟩
  obtain ⟨w3449, ew3449⟩ : ∃ w : Int32, I3430 (ad g 0) 19 = w := ⟨_, rfl⟩
  try simp only [e3439, ew3443, ew3444, e3435, e3436, e3437, e3438, ew3445, ew3446, ew3447, ew3448, ew3449, ew3395, ew3396, ew3397, ew3398, ew3399, ew3400, ew3401, ew3402, ew3403, ew3404, ew3405, ew3406] at p3428
  refine WQ_if_ne 13 dX11_town_8 rfl (fun c3449 => ?_) (fun c3449 => ?_)
  · obtain ⟨S2, hok, hR, hPI, hPJ, hSB, h19, hNF⟩ := (Or.resolve_left p3428 (by rintro ⟨z, -⟩; omega)).2
    have hg := town_all hok
    have hR1 := hR.1
    simp only [ew3445, ew3446, ew3447, ew3448] at hR1
    have h19b := h19
    try simp only [ew3449] at h19b
    have hbb := hSB
    unfold SBn at hbb
    obtain ⟨hb1, hb2, hb3, hb6⟩ := hbb
    have hst : S2.2 36 0 = true → S2.1 0 4 ≠ -1 := fun z => by have z2 := hPJ z; omega
    have hst2 := hPI.2.2.2.2.2.2.2.2.2
    refine WP_aload_n dX11_town_13 rfl ?_
    refine WP_aload_n dX11_town_14 rfl ?_
    refine WQ_getim dX11_town_15 fX11_88 rfl (ly_is hy 0 11 rfl) ew3445 ?_
    refine WQ_puti dX11_town_18 fX11_329 rfl rfl (ly_is hy 0 11 rfl) (fun I3451 eI3451 => ?_)
    have e3452 : I3451 (ad g 0) 11 = w3399 := by rw [eI3451, pp_ne _ _ (Or.inr (by decide))]; exact e3436
    have e3453 : I3451 (ad g 0) 13 = w3400 := by rw [eI3451, pp_ne _ _ (Or.inr (by decide))]; exact e3437
    have e3454 : I3451 (ad g 0) 14 = w3401 := by rw [eI3451, pp_ne _ _ (Or.inr (by decide))]; exact e3438
    have e3455 : I3451 (ad g 0) 1 = w3425 := by rw [eI3451, pp_ne _ _ (Or.inr (by decide))]; exact e3439
    have e3456 : I3451 (ad g 0) 8 = w3443 := by rw [eI3451, pp_ne _ _ (Or.inr (by decide))]; exact ew3443
    have e3457 : I3451 (ad g 0) 9 = w3444 := by rw [eI3451, pp_ne _ _ (Or.inr (by decide))]; exact ew3444
    have e3458 : I3451 (ad g 0) 15 = w3445 := by rw [eI3451, pp_ne _ _ (Or.inr (by decide))]; exact ew3445
    have e3459 : I3451 (ad g 0) 16 = w3446 := by rw [eI3451, pp_ne _ _ (Or.inr (by decide))]; exact ew3446
    have e3460 : I3451 (ad g 0) 17 = w3447 := by rw [eI3451, pp_ne _ _ (Or.inr (by decide))]; exact ew3447
    have e3461 : I3451 (ad g 0) 18 = w3448 := by rw [eI3451, pp_ne _ _ (Or.inr (by decide))]; exact ew3448
    have e3462 : I3451 (ad g 0) 19 = w3449 := by rw [eI3451, pp_ne _ _ (Or.inr (by decide))]; exact ew3449
    have e3463 : I3451 (ad g 0) 10 = w3445 := by rw [eI3451, pp_self]
    have fI3464 : FC g [0, 6, 7, 8, 9, 10, 11, 12, 13, 14, 15, 16, 17, 18, 19, 20, 21, 22, 23, 24, 25, 26, 27, 28, 29, 30, 31, 32, 33, 34, 37, 38, 44, 46, 47] I I3451 := by rw [eI3451]; exact FC_pp fI3440 (by decide)
    have fQ3465 : FQ g [1, 2, 3, 4, 5, 6, 7, 8, 9, 10, 11, 12, 13, 14, 15, 16, 17, 18, 19, 51, 68] I I3451 := by rw [eI3451]; exact FQ_pp0 fQ3442 (by decide)
    refine WP_aload_n dX11_town_21 rfl ?_
    refine WP_aload_n dX11_town_22 rfl ?_
    refine WQ_getim dX11_town_23 fX11_126 rfl (ly_is hy 0 11 rfl) e3459 ?_
    refine WQ_puti dX11_town_26 fX11_332 rfl rfl (ly_is hy 0 11 rfl) (fun I3466 eI3466 => ?_)
    have e3467 : I3466 (ad g 0) 13 = w3400 := by rw [eI3466, pp_ne _ _ (Or.inr (by decide))]; exact e3453
    have e3468 : I3466 (ad g 0) 14 = w3401 := by rw [eI3466, pp_ne _ _ (Or.inr (by decide))]; exact e3454
    have e3469 : I3466 (ad g 0) 1 = w3425 := by rw [eI3466, pp_ne _ _ (Or.inr (by decide))]; exact e3455
    have e3470 : I3466 (ad g 0) 8 = w3443 := by rw [eI3466, pp_ne _ _ (Or.inr (by decide))]; exact e3456
    have e3471 : I3466 (ad g 0) 9 = w3444 := by rw [eI3466, pp_ne _ _ (Or.inr (by decide))]; exact e3457
    have e3472 : I3466 (ad g 0) 15 = w3445 := by rw [eI3466, pp_ne _ _ (Or.inr (by decide))]; exact e3458
    have e3473 : I3466 (ad g 0) 16 = w3446 := by rw [eI3466, pp_ne _ _ (Or.inr (by decide))]; exact e3459
    have e3474 : I3466 (ad g 0) 17 = w3447 := by rw [eI3466, pp_ne _ _ (Or.inr (by decide))]; exact e3460
    have e3475 : I3466 (ad g 0) 18 = w3448 := by rw [eI3466, pp_ne _ _ (Or.inr (by decide))]; exact e3461
    have e3476 : I3466 (ad g 0) 19 = w3449 := by rw [eI3466, pp_ne _ _ (Or.inr (by decide))]; exact e3462
    have e3477 : I3466 (ad g 0) 10 = w3445 := by rw [eI3466, pp_ne _ _ (Or.inr (by decide))]; exact e3463
    have e3478 : I3466 (ad g 0) 11 = w3446 := by rw [eI3466, pp_self]
    have fI3479 : FC g [0, 6, 7, 8, 9, 10, 11, 12, 13, 14, 15, 16, 17, 18, 19, 20, 21, 22, 23, 24, 25, 26, 27, 28, 29, 30, 31, 32, 33, 34, 37, 38, 44, 46, 47] I I3466 := by rw [eI3466]; exact FC_pp fI3464 (by decide)
    have fQ3480 : FQ g [1, 2, 3, 4, 5, 6, 7, 8, 9, 10, 11, 12, 13, 14, 15, 16, 17, 18, 19, 51, 68] I I3466 := by rw [eI3466]; exact FQ_pp0 fQ3465 (by decide)
    refine WP_aload_n dX11_town_29 rfl ?_
    refine WP_aload_n dX11_town_30 rfl ?_
    refine WQ_getim dX11_town_31 fX11_158 rfl (ly_is hy 0 11 rfl) e3474 ?_
    refine WQ_puti dX11_town_34 fX11_221 rfl rfl (ly_is hy 0 11 rfl) (fun I3481 eI3481 => ?_)
    have e3482 : I3481 (ad g 0) 14 = w3401 := by rw [eI3481, pp_ne _ _ (Or.inr (by decide))]; exact e3468
    have e3483 : I3481 (ad g 0) 1 = w3425 := by rw [eI3481, pp_ne _ _ (Or.inr (by decide))]; exact e3469
    have e3484 : I3481 (ad g 0) 8 = w3443 := by rw [eI3481, pp_ne _ _ (Or.inr (by decide))]; exact e3470
    have e3485 : I3481 (ad g 0) 9 = w3444 := by rw [eI3481, pp_ne _ _ (Or.inr (by decide))]; exact e3471
    have e3486 : I3481 (ad g 0) 15 = w3445 := by rw [eI3481, pp_ne _ _ (Or.inr (by decide))]; exact e3472
    have e3487 : I3481 (ad g 0) 16 = w3446 := by rw [eI3481, pp_ne _ _ (Or.inr (by decide))]; exact e3473
    have e3488 : I3481 (ad g 0) 17 = w3447 := by rw [eI3481, pp_ne _ _ (Or.inr (by decide))]; exact e3474
    have e3489 : I3481 (ad g 0) 18 = w3448 := by rw [eI3481, pp_ne _ _ (Or.inr (by decide))]; exact e3475
    have e3490 : I3481 (ad g 0) 19 = w3449 := by rw [eI3481, pp_ne _ _ (Or.inr (by decide))]; exact e3476
    have e3491 : I3481 (ad g 0) 10 = w3445 := by rw [eI3481, pp_ne _ _ (Or.inr (by decide))]; exact e3477
    have e3492 : I3481 (ad g 0) 11 = w3446 := by rw [eI3481, pp_ne _ _ (Or.inr (by decide))]; exact e3478
    have e3493 : I3481 (ad g 0) 13 = w3447 := by rw [eI3481, pp_self]
    have fI3494 : FC g [0, 6, 7, 8, 9, 10, 11, 12, 13, 14, 15, 16, 17, 18, 19, 20, 21, 22, 23, 24, 25, 26, 27, 28, 29, 30, 31, 32, 33, 34, 37, 38, 44, 46, 47] I I3481 := by rw [eI3481]; exact FC_pp fI3479 (by decide)
    have fQ3495 : FQ g [1, 2, 3, 4, 5, 6, 7, 8, 9, 10, 11, 12, 13, 14, 15, 16, 17, 18, 19, 51, 68] I I3481 := by rw [eI3481]; exact FQ_pp0 fQ3480 (by decide)
    have jn3499 : ∀ (I3496 : pI), FC g [0, 6, 7, 8, 9, 10, 11, 12, 13, 14, 15, 16, 17, 18, 19, 20, 21, 22, 23, 24, 25, 26, 27, 28, 29, 30, 31, 32, 33, 34, 37, 38, 44, 46, 47] I I3496 → FQ g [1, 2, 3, 4, 5, 6, 7, 8, 9, 10, 11, 12, 13, 14, 15, 16, 17, 18, 19, 51, 68] I I3496 → (FC g [0] I3430 I3496 ∧ (I3496 (ad g 0) 10).toInt = S2.1 0 1 ∧ (I3496 (ad g 0) 11).toInt = S2.1 0 2 ∧ (I3496 (ad g 0) 13).toInt = S2.1 0 3 ∧ (I3496 (ad g 0) 14).toInt = S2.1 0 4 ∧ (I3496 (ad g 0) 19).toInt = S2.1 0 0) → WP g mX11_town 68 [(0, .ref (ad g 0))] [] I3496 J3431 R (fun r I' J' R' => R' = R ∧ FC g [0, 6, 7, 8, 9, 10, 11, 12, 13, 14, 15, 16, 17, 18, 19, 20, 21, 22, 23, 24, 25, 26, 27, 28, 29, 30, 31, 32, 33, 34, 37, 38, 44, 46, 47] I I' ∧ FC g [0, 2, 3, 4, 5] J J' ∧ FQ g [1, 2, 3, 4, 5, 6, 7, 8, 9, 10, 11, 12, 13, 14, 15, 16, 17, 18, 19, 51, 68] I I' ∧ ∃ v : Int32, r = some (.int v) ∧ ((v.toInt = -1 ∧ ERR g (town B n j) I' ∧ FC g [0, 7, 14, 15, 16, 17, 18, 19, 27, 28, 29, 30, 31, 32, 33, 34] I I' ∧ FC g [4, 5] J J' ∧ FQ g [1, 2, 3, 4, 5, 6, 7, 8, 9, 15, 16, 17, 18, 19, 51] I I') ∨ (∃ S2 : TwS, town B n j = .ok S2 ∧ v.toInt = S2.1 0 0 ∧ RTT g S2 I' J' ∧ STM g S2 I' J'))) := by
      intro I3496 fI3497 fQ3498 hvjn3499
      obtain ⟨w3500, ew3500⟩ : ∃ w : Int32, I3496 (ad g 0) 10 = w := ⟨_, rfl⟩
      obtain ⟨w3501, ew3501⟩ : ∃ w : Int32, I3496 (ad g 0) 11 = w := ⟨_, rfl⟩
      obtain ⟨w3502, ew3502⟩ : ∃ w : Int32, I3496 (ad g 0) 13 = w := ⟨_, rfl⟩
      obtain ⟨w3503, ew3503⟩ : ∃ w : Int32, I3496 (ad g 0) 14 = w := ⟨_, rfl⟩
      obtain ⟨w3504, ew3504⟩ : ∃ w : Int32, I3496 (ad g 0) 19 = w := ⟨_, rfl⟩
      try simp only [ew3500, ew3501, ew3502, ew3503, ew3504] at hvjn3499
      obtain ⟨jF1, j10, j11, j13, j14, j19⟩ := hvjn3499
      refine WP_aload_n dX11_town_68 rfl ?_
      refine WP_aload_n dX11_town_69 rfl ?_
      refine WQ_getim dX11_town_70 fX11_207 rfl (ly_is hy 0 11 rfl) ew3504 ?_
      refine WQ_puti dX11_town_73 fX11_335 rfl rfl (ly_is hy 0 11 rfl) (fun I3505 eI3505 => ?_)
      have e3506 : I3505 (ad g 0) 10 = w3500 := by rw [eI3505, pp_ne _ _ (Or.inr (by decide))]; exact ew3500
      have e3507 : I3505 (ad g 0) 11 = w3501 := by rw [eI3505, pp_ne _ _ (Or.inr (by decide))]; exact ew3501
      have e3508 : I3505 (ad g 0) 13 = w3502 := by rw [eI3505, pp_ne _ _ (Or.inr (by decide))]; exact ew3502
      have e3509 : I3505 (ad g 0) 14 = w3503 := by rw [eI3505, pp_ne _ _ (Or.inr (by decide))]; exact ew3503
      have e3510 : I3505 (ad g 0) 19 = w3504 := by rw [eI3505, pp_ne _ _ (Or.inr (by decide))]; exact ew3504
      have e3511 : I3505 (ad g 0) 12 = w3504 := by rw [eI3505, pp_self]
      have fI3512 : FC g [0, 6, 7, 8, 9, 10, 11, 12, 13, 14, 15, 16, 17, 18, 19, 20, 21, 22, 23, 24, 25, 26, 27, 28, 29, 30, 31, 32, 33, 34, 37, 38, 44, 46, 47] I I3505 := by rw [eI3505]; exact FC_pp fI3497 (by decide)
      have fQ3513 : FQ g [1, 2, 3, 4, 5, 6, 7, 8, 9, 10, 11, 12, 13, 14, 15, 16, 17, 18, 19, 51, 68] I I3505 := by rw [eI3505]; exact FQ_pp0 fQ3498 (by decide)
      refine WQ_iconst (0) (0) dX11_town_76 rfl rfl (fun v3514 hv3514 => ?_)
      refine WP_istore_n (ls' := [(0, _), (1, _)]) dX11_town_77 (by decide) rfl ?_
      have lp3518 : ∀ (mz : Nat) (i3515 : Int32) (J3516 : pJ), FC g [0, 2, 3, 4, 5] J J3516 → (∃ k : Nat, i3515.toInt = (k : Int) ∧ (k : Int) ≤ S2.1 0 1 ∧ (∀ q, q < k → J3516 (ad g 2) q = J3431 (ad g 4) q) ∧ FC g [2] J3431 J3516) → (5 - i3515.toInt.toNat) < mz → WP g mX11_town 78 [(0, .ref (ad g 0)), (1, .int i3515)] [] I3505 J3516 R (fun r I' J' R' => R' = R ∧ FC g [0, 6, 7, 8, 9, 10, 11, 12, 13, 14, 15, 16, 17, 18, 19, 20, 21, 22, 23, 24, 25, 26, 27, 28, 29, 30, 31, 32, 33, 34, 37, 38, 44, 46, 47] I I' ∧ FC g [0, 2, 3, 4, 5] J J' ∧ FQ g [1, 2, 3, 4, 5, 6, 7, 8, 9, 10, 11, 12, 13, 14, 15, 16, 17, 18, 19, 51, 68] I I' ∧ ∃ v : Int32, r = some (.int v) ∧ ((v.toInt = -1 ∧ ERR g (town B n j) I' ∧ FC g [0, 7, 14, 15, 16, 17, 18, 19, 27, 28, 29, 30, 31, 32, 33, 34] I I' ∧ FC g [4, 5] J J' ∧ FQ g [1, 2, 3, 4, 5, 6, 7, 8, 9, 15, 16, 17, 18, 19, 51] I I') ∨ (∃ S2 : TwS, town B n j = .ok S2 ∧ v.toInt = S2.1 0 0 ∧ RTT g S2 I' J' ∧ STM g S2 I' J'))) := by
        intro mz
        induction mz with
        | zero =>
          intro i3515 J3516 fJ3517 hvlp3518 hmlp3518
          exact absurd hmlp3518 (Nat.not_lt_zero _)
        | succ mz ihlp3518 =>
          intro i3515 J3516 fJ3517 hvlp3518 hmlp3518
          try simp only [e3506, e3507, e3508, e3509, e3510] at hvlp3518 hmlp3518
          obtain ⟨k, ik, ik4, jA, jF⟩ := hvlp3518
          refine WP_iload_n dX11_town_78 rfl ?_
          refine WP_aload_n dX11_town_79 rfl ?_
          refine WQ_getim dX11_town_80 fX11_329 rfl (ly_is hy 0 11 rfl) e3506 ?_
          refine WQ_icmp_ge 104 dX11_town_83 rfl (fun c3518 => ?_) (fun c3518 => ?_)
          · refine WQ_iconst (0) (0) dX11_town_104 rfl rfl (fun v3520 hv3520 => ?_)
            refine WP_istore_n (ls' := [(0, _), (1, _)]) dX11_town_105 (by decide) rfl ?_
            have k78 : (k : Int) = S2.1 0 1 := by omega
            have lp3524 : ∀ (mz : Nat) (i3521 : Int32) (J3522 : pJ), FC g [0, 2, 3, 4, 5] J J3522 → (∃ k : Nat, i3521.toInt = (k : Int) ∧ (k : Int) ≤ S2.1 0 2 ∧ (∀ q, q < k → J3522 (ad g 3) q = J3431 (ad g 5) q) ∧ FC g [2, 3] J3431 J3522 ∧ FC g [3] J3516 J3522) → (4 - i3521.toInt.toNat) < mz → WP g mX11_town 106 [(0, .ref (ad g 0)), (1, .int i3521)] [] I3505 J3522 R (fun r I' J' R' => R' = R ∧ FC g [0, 6, 7, 8, 9, 10, 11, 12, 13, 14, 15, 16, 17, 18, 19, 20, 21, 22, 23, 24, 25, 26, 27, 28, 29, 30, 31, 32, 33, 34, 37, 38, 44, 46, 47] I I' ∧ FC g [0, 2, 3, 4, 5] J J' ∧ FQ g [1, 2, 3, 4, 5, 6, 7, 8, 9, 10, 11, 12, 13, 14, 15, 16, 17, 18, 19, 51, 68] I I' ∧ ∃ v : Int32, r = some (.int v) ∧ ((v.toInt = -1 ∧ ERR g (town B n j) I' ∧ FC g [0, 7, 14, 15, 16, 17, 18, 19, 27, 28, 29, 30, 31, 32, 33, 34] I I' ∧ FC g [4, 5] J J' ∧ FQ g [1, 2, 3, 4, 5, 6, 7, 8, 9, 15, 16, 17, 18, 19, 51] I I') ∨ (∃ S2 : TwS, town B n j = .ok S2 ∧ v.toInt = S2.1 0 0 ∧ RTT g S2 I' J' ∧ STM g S2 I' J'))) := by
              intro mz
              induction mz with
              | zero =>
                intro i3521 J3522 fJ3523 hvlp3524 hmlp3524
                exact absurd hmlp3524 (Nat.not_lt_zero _)
              | succ mz ihlp3524 =>
                intro i3521 J3522 fJ3523 hvlp3524 hmlp3524
                try simp only [e3506, e3507, e3508, e3509, e3510] at hvlp3524 hmlp3524
                obtain ⟨k2, ik2, ik42, kA, kF, kG⟩ := hvlp3524
                refine WP_iload_n dX11_town_106 rfl ?_
                refine WP_aload_n dX11_town_107 rfl ?_
                refine WQ_getim dX11_town_108 fX11_332 rfl (ly_is hy 0 11 rfl) e3507 ?_
                refine WQ_icmp_ge 132 dX11_town_111 rfl (fun c3524 => ?_) (fun c3524 => ?_)
                · refine WP_aload_n dX11_town_132 rfl ?_
                  refine WP_getr dX11_town_133 fX11_233 rfl (ly_is hy 0 11 rfl) (rf hr 0 24 6 (by decide)) ?_
                  refine WP_aload_n dX11_town_136 rfl ?_
                  refine WP_getr dX11_town_137 fX11_84 rfl (ly_is hy 0 11 rfl) (rf hr 0 25 7 (by decide)) ?_
                  refine WP_callS2 dX11_town_140 ⟨⟨⟨by decide, by decide⟩, zX11_copy⟩, lX11_338, tX11_copy⟩ (em_copy6 hy hr   ) (Nat.le_of_ble_eq_true rfl) ?_
                  intro r I3527 J3528 Ra hq
                  obtain ⟨ec, g3529, g3530, g3531, er, p3526⟩ := hq
                  rw [ec, er]
                  clear ec er Ra r
                  have e3532 : I3527 (ad g 0) 10 = w3500 := by rw [FC_at hy g3529 0 (by decide) (by decide)]; exact e3506
                  have e3533 : I3527 (ad g 0) 11 = w3501 := by rw [FC_at hy g3529 0 (by decide) (by decide)]; exact e3507
                  have e3534 : I3527 (ad g 0) 13 = w3502 := by rw [FC_at hy g3529 0 (by decide) (by decide)]; exact e3508
                  have e3535 : I3527 (ad g 0) 14 = w3503 := by rw [FC_at hy g3529 0 (by decide) (by decide)]; exact e3509
                  have e3536 : I3527 (ad g 0) 19 = w3504 := by rw [FC_at hy g3529 0 (by decide) (by decide)]; exact e3510
                  have e3537 : I3527 (ad g 0) 12 = w3504 := by rw [FC_at hy g3529 0 (by decide) (by decide)]; exact e3511
                  have fI3538 : FC g [0, 6, 7, 8, 9, 10, 11, 12, 13, 14, 15, 16, 17, 18, 19, 20, 21, 22, 23, 24, 25, 26, 27, 28, 29, 30, 31, 32, 33, 34, 37, 38, 44, 46, 47] I I3527 := FC_tr fI3512 (FC_mono g3529 (by decide))
                  have fJ3539 : FC g [0, 2, 3, 4, 5] J J3528 := FC_tr fJ3523 (FC_mono g3530 (by decide))
                  have fQ3540 : FQ g [1, 2, 3, 4, 5, 6, 7, 8, 9, 10, 11, 12, 13, 14, 15, 16, 17, 18, 19, 51, 68] I I3527 := FQ_tr fQ3513 (FQ_mono g3531 (by decide))
                  try simp only [e3532, e3533, e3534, e3535, e3536] at p3526
                  have d6 : ∀ q, q < 7 → I3527 (ad g 6) q = I3430 (ad g 7) q := fun q hq => by rw [p3526 q hq, eI3505, pp_off _ _ (ly_ne hy (by decide) (by decide) (by decide)), FC_at hy jF1 7 (by decide) (by decide)]
                  refine WP_aload_n dX11_town_143 rfl ?_
                  refine WP_getr dX11_town_144 fX11_235 rfl (ly_is hy 0 11 rfl) (rf hr 0 26 8 (by decide)) ?_
                  refine WP_aload_n dX11_town_147 rfl ?_
                  refine WP_getr dX11_town_148 fX11_99 rfl (ly_is hy 0 11 rfl) (rf hr 0 32 14 (by decide)) ?_
                  refine WP_callS2 dX11_town_151 ⟨⟨⟨by decide, by decide⟩, zX11_copy⟩, lX11_338, tX11_copy⟩ (em_copy8 hy hr   ) (Nat.le_of_ble_eq_true rfl) ?_
                  intro r I3542 J3543 Ra hq
                  obtain ⟨ec, g3544, g3545, g3546, er, p3541⟩ := hq
                  rw [ec, er]
                  clear ec er Ra r
                  have e3547 : I3542 (ad g 0) 10 = w3500 := by rw [FC_at hy g3544 0 (by decide) (by decide)]; exact e3532
                  have e3548 : I3542 (ad g 0) 11 = w3501 := by rw [FC_at hy g3544 0 (by decide) (by decide)]; exact e3533
                  have e3549 : I3542 (ad g 0) 13 = w3502 := by rw [FC_at hy g3544 0 (by decide) (by decide)]; exact e3534
                  have e3550 : I3542 (ad g 0) 14 = w3503 := by rw [FC_at hy g3544 0 (by decide) (by decide)]; exact e3535
                  have e3551 : I3542 (ad g 0) 19 = w3504 := by rw [FC_at hy g3544 0 (by decide) (by decide)]; exact e3536
                  have e3552 : I3542 (ad g 0) 12 = w3504 := by rw [FC_at hy g3544 0 (by decide) (by decide)]; exact e3537
                  have fI3553 : FC g [0, 6, 7, 8, 9, 10, 11, 12, 13, 14, 15, 16, 17, 18, 19, 20, 21, 22, 23, 24, 25, 26, 27, 28, 29, 30, 31, 32, 33, 34, 37, 38, 44, 46, 47] I I3542 := FC_tr fI3538 (FC_mono g3544 (by decide))
                  have fJ3554 : FC g [0, 2, 3, 4, 5] J J3543 := FC_tr fJ3539 (FC_mono g3545 (by decide))
                  have fQ3555 : FQ g [1, 2, 3, 4, 5, 6, 7, 8, 9, 10, 11, 12, 13, 14, 15, 16, 17, 18, 19, 51, 68] I I3542 := FQ_tr fQ3540 (FQ_mono g3546 (by decide))
                  try simp only [e3547, e3548, e3549, e3550, e3551] at p3541
                  have d8 : ∀ q, q < 4 → I3542 (ad g 8) q = I3430 (ad g 14) q := fun q hq => by rw [p3541 q hq, FC_at hy g3529 14 (by decide) (by decide), eI3505, pp_off _ _ (ly_ne hy (by decide) (by decide) (by decide)), FC_at hy jF1 14 (by decide) (by decide)]
                  refine WP_aload_n dX11_town_154 rfl ?_
                  refine WP_getr dX11_town_155 fX11_238 rfl (ly_is hy 0 11 rfl) (rf hr 0 27 9 (by decide)) ?_
                  refine WP_aload_n dX11_town_158 rfl ?_
                  refine WP_getr dX11_town_159 fX11_102 rfl (ly_is hy 0 11 rfl) (rf hr 0 33 15 (by decide)) ?_
                  refine WP_callS2 dX11_town_162 ⟨⟨⟨by decide, by decide⟩, zX11_copy⟩, lX11_338, tX11_copy⟩ (em_copy9 hy hr   ) (Nat.le_of_ble_eq_true rfl) ?_
                  intro r I3557 J3558 Ra hq
                  obtain ⟨ec, g3559, g3560, g3561, er, p3556⟩ := hq
                  rw [ec, er]
                  clear ec er Ra r
                  have e3562 : I3557 (ad g 0) 10 = w3500 := by rw [FC_at hy g3559 0 (by decide) (by decide)]; exact e3547
                  have e3563 : I3557 (ad g 0) 11 = w3501 := by rw [FC_at hy g3559 0 (by decide) (by decide)]; exact e3548
                  have e3564 : I3557 (ad g 0) 13 = w3502 := by rw [FC_at hy g3559 0 (by decide) (by decide)]; exact e3549
                  have e3565 : I3557 (ad g 0) 14 = w3503 := by rw [FC_at hy g3559 0 (by decide) (by decide)]; exact e3550
                  have e3566 : I3557 (ad g 0) 19 = w3504 := by rw [FC_at hy g3559 0 (by decide) (by decide)]; exact e3551
                  have e3567 : I3557 (ad g 0) 12 = w3504 := by rw [FC_at hy g3559 0 (by decide) (by decide)]; exact e3552
                  have fI3568 : FC g [0, 6, 7, 8, 9, 10, 11, 12, 13, 14, 15, 16, 17, 18, 19, 20, 21, 22, 23, 24, 25, 26, 27, 28, 29, 30, 31, 32, 33, 34, 37, 38, 44, 46, 47] I I3557 := FC_tr fI3553 (FC_mono g3559 (by decide))
                  have fJ3569 : FC g [0, 2, 3, 4, 5] J J3558 := FC_tr fJ3554 (FC_mono g3560 (by decide))
                  have fQ3570 : FQ g [1, 2, 3, 4, 5, 6, 7, 8, 9, 10, 11, 12, 13, 14, 15, 16, 17, 18, 19, 51, 68] I I3557 := FQ_tr fQ3555 (FQ_mono g3561 (by decide))
                  try simp only [e3562, e3563, e3564, e3565, e3566] at p3556
                  have d9 : ∀ q, q < 4 → I3557 (ad g 9) q = I3430 (ad g 15) q := fun q hq => by rw [p3556 q hq, FC_at hy g3544 15 (by decide) (by decide), FC_at hy g3529 15 (by decide) (by decide), eI3505, pp_off _ _ (ly_ne hy (by decide) (by decide) (by decide)), FC_at hy jF1 15 (by decide) (by decide)]
                  refine WP_aload_n dX11_town_165 rfl ?_
                  refine WP_getr dX11_town_166 fX11_241 rfl (ly_is hy 0 11 rfl) (rf hr 0 28 10 (by decide)) ?_
                  refine WP_aload_n dX11_town_169 rfl ?_
                  refine WP_getr dX11_town_170 fX11_105 rfl (ly_is hy 0 11 rfl) (rf hr 0 34 16 (by decide)) ?_
                  refine WP_callS2 dX11_town_173 ⟨⟨⟨by decide, by decide⟩, zX11_copy⟩, lX11_338, tX11_copy⟩ (em_copy10 hy hr   ) (Nat.le_of_ble_eq_true rfl) ?_
                  intro r I3572 J3573 Ra hq
                  obtain ⟨ec, g3574, g3575, g3576, er, p3571⟩ := hq
                  rw [ec, er]
                  clear ec er Ra r
                  have e3577 : I3572 (ad g 0) 10 = w3500 := by rw [FC_at hy g3574 0 (by decide) (by decide)]; exact e3562
                  have e3578 : I3572 (ad g 0) 11 = w3501 := by rw [FC_at hy g3574 0 (by decide) (by decide)]; exact e3563
                  have e3579 : I3572 (ad g 0) 13 = w3502 := by rw [FC_at hy g3574 0 (by decide) (by decide)]; exact e3564
                  have e3580 : I3572 (ad g 0) 14 = w3503 := by rw [FC_at hy g3574 0 (by decide) (by decide)]; exact e3565
                  have e3581 : I3572 (ad g 0) 19 = w3504 := by rw [FC_at hy g3574 0 (by decide) (by decide)]; exact e3566
                  have e3582 : I3572 (ad g 0) 12 = w3504 := by rw [FC_at hy g3574 0 (by decide) (by decide)]; exact e3567
                  have fI3583 : FC g [0, 6, 7, 8, 9, 10, 11, 12, 13, 14, 15, 16, 17, 18, 19, 20, 21, 22, 23, 24, 25, 26, 27, 28, 29, 30, 31, 32, 33, 34, 37, 38, 44, 46, 47] I I3572 := FC_tr fI3568 (FC_mono g3574 (by decide))
                  have fJ3584 : FC g [0, 2, 3, 4, 5] J J3573 := FC_tr fJ3569 (FC_mono g3575 (by decide))
                  have fQ3585 : FQ g [1, 2, 3, 4, 5, 6, 7, 8, 9, 10, 11, 12, 13, 14, 15, 16, 17, 18, 19, 51, 68] I I3572 := FQ_tr fQ3570 (FQ_mono g3576 (by decide))
                  try simp only [e3577, e3578, e3579, e3580, e3581] at p3571
                  have d10 : ∀ q, q < 4 → I3572 (ad g 10) q = I3430 (ad g 16) q := fun q hq => by rw [p3571 q hq, FC_at hy g3559 16 (by decide) (by decide), FC_at hy g3544 16 (by decide) (by decide), FC_at hy g3529 16 (by decide) (by decide), eI3505, pp_off _ _ (ly_ne hy (by decide) (by decide) (by decide)), FC_at hy jF1 16 (by decide) (by decide)]
                  refine WP_aload_n dX11_town_176 rfl ?_
                  refine WP_getr dX11_town_177 fX11_244 rfl (ly_is hy 0 11 rfl) (rf hr 0 29 11 (by decide)) ?_
                  refine WP_aload_n dX11_town_180 rfl ?_
                  refine WP_getr dX11_town_181 fX11_108 rfl (ly_is hy 0 11 rfl) (rf hr 0 35 17 (by decide)) ?_
                  refine WP_callS2 dX11_town_184 ⟨⟨⟨by decide, by decide⟩, zX11_copy⟩, lX11_338, tX11_copy⟩ (em_copy11 hy hr   ) (Nat.le_of_ble_eq_true rfl) ?_
                  intro r I3587 J3588 Ra hq
                  obtain ⟨ec, g3589, g3590, g3591, er, p3586⟩ := hq
                  rw [ec, er]
                  clear ec er Ra r
                  have e3592 : I3587 (ad g 0) 10 = w3500 := by rw [FC_at hy g3589 0 (by decide) (by decide)]; exact e3577
                  have e3593 : I3587 (ad g 0) 11 = w3501 := by rw [FC_at hy g3589 0 (by decide) (by decide)]; exact e3578
                  have e3594 : I3587 (ad g 0) 13 = w3502 := by rw [FC_at hy g3589 0 (by decide) (by decide)]; exact e3579
                  have e3595 : I3587 (ad g 0) 14 = w3503 := by rw [FC_at hy g3589 0 (by decide) (by decide)]; exact e3580
                  have e3596 : I3587 (ad g 0) 19 = w3504 := by rw [FC_at hy g3589 0 (by decide) (by decide)]; exact e3581
                  have e3597 : I3587 (ad g 0) 12 = w3504 := by rw [FC_at hy g3589 0 (by decide) (by decide)]; exact e3582
                  have fI3598 : FC g [0, 6, 7, 8, 9, 10, 11, 12, 13, 14, 15, 16, 17, 18, 19, 20, 21, 22, 23, 24, 25, 26, 27, 28, 29, 30, 31, 32, 33, 34, 37, 38, 44, 46, 47] I I3587 := FC_tr fI3583 (FC_mono g3589 (by decide))
                  have fJ3599 : FC g [0, 2, 3, 4, 5] J J3588 := FC_tr fJ3584 (FC_mono g3590 (by decide))
                  have fQ3600 : FQ g [1, 2, 3, 4, 5, 6, 7, 8, 9, 10, 11, 12, 13, 14, 15, 16, 17, 18, 19, 51, 68] I I3587 := FQ_tr fQ3585 (FQ_mono g3591 (by decide))
                  try simp only [e3592, e3593, e3594, e3595, e3596] at p3586
                  have d11 : ∀ q, q < 4 → I3587 (ad g 11) q = I3430 (ad g 17) q := fun q hq => by rw [p3586 q hq, FC_at hy g3574 17 (by decide) (by decide), FC_at hy g3559 17 (by decide) (by decide), FC_at hy g3544 17 (by decide) (by decide), FC_at hy g3529 17 (by decide) (by decide), eI3505, pp_off _ _ (ly_ne hy (by decide) (by decide) (by decide)), FC_at hy jF1 17 (by decide) (by decide)]
                  refine WP_aload_n dX11_town_187 rfl ?_
                  refine WP_getr dX11_town_188 fX11_246 rfl (ly_is hy 0 11 rfl) (rf hr 0 30 12 (by decide)) ?_
                  refine WP_aload_n dX11_town_191 rfl ?_
                  refine WP_getr dX11_town_192 fX11_132 rfl (ly_is hy 0 11 rfl) (rf hr 0 36 18 (by decide)) ?_
                  refine WP_callS2 dX11_town_195 ⟨⟨⟨by decide, by decide⟩, zX11_copy⟩, lX11_338, tX11_copy⟩ (em_copy12 hy hr   ) (Nat.le_of_ble_eq_true rfl) ?_
                  intro r I3602 J3603 Ra hq
                  obtain ⟨ec, g3604, g3605, g3606, er, p3601⟩ := hq
                  rw [ec, er]
                  clear ec er Ra r
                  have e3607 : I3602 (ad g 0) 10 = w3500 := by rw [FC_at hy g3604 0 (by decide) (by decide)]; exact e3592
                  have e3608 : I3602 (ad g 0) 11 = w3501 := by rw [FC_at hy g3604 0 (by decide) (by decide)]; exact e3593
                  have e3609 : I3602 (ad g 0) 13 = w3502 := by rw [FC_at hy g3604 0 (by decide) (by decide)]; exact e3594
                  have e3610 : I3602 (ad g 0) 14 = w3503 := by rw [FC_at hy g3604 0 (by decide) (by decide)]; exact e3595
                  have e3611 : I3602 (ad g 0) 19 = w3504 := by rw [FC_at hy g3604 0 (by decide) (by decide)]; exact e3596
                  have e3612 : I3602 (ad g 0) 12 = w3504 := by rw [FC_at hy g3604 0 (by decide) (by decide)]; exact e3597
                  have fI3613 : FC g [0, 6, 7, 8, 9, 10, 11, 12, 13, 14, 15, 16, 17, 18, 19, 20, 21, 22, 23, 24, 25, 26, 27, 28, 29, 30, 31, 32, 33, 34, 37, 38, 44, 46, 47] I I3602 := FC_tr fI3598 (FC_mono g3604 (by decide))
                  have fJ3614 : FC g [0, 2, 3, 4, 5] J J3603 := FC_tr fJ3599 (FC_mono g3605 (by decide))
                  have fQ3615 : FQ g [1, 2, 3, 4, 5, 6, 7, 8, 9, 10, 11, 12, 13, 14, 15, 16, 17, 18, 19, 51, 68] I I3602 := FQ_tr fQ3600 (FQ_mono g3606 (by decide))
                  try simp only [e3607, e3608, e3609, e3610, e3611] at p3601
                  have d12 : ∀ q, q < 3 → I3602 (ad g 12) q = I3430 (ad g 18) q := fun q hq => by rw [p3601 q hq, FC_at hy g3589 18 (by decide) (by decide), FC_at hy g3574 18 (by decide) (by decide), FC_at hy g3559 18 (by decide) (by decide), FC_at hy g3544 18 (by decide) (by decide), FC_at hy g3529 18 (by decide) (by decide), eI3505, pp_off _ _ (ly_ne hy (by decide) (by decide) (by decide)), FC_at hy jF1 18 (by decide) (by decide)]
                  refine WP_aload_n dX11_town_198 rfl ?_
                  refine WP_getr dX11_town_199 fX11_249 rfl (ly_is hy 0 11 rfl) (rf hr 0 31 13 (by decide)) ?_
                  refine WP_aload_n dX11_town_202 rfl ?_
                  refine WP_getr dX11_town_203 fX11_135 rfl (ly_is hy 0 11 rfl) (rf hr 0 37 19 (by decide)) ?_
                  refine WP_callS2 dX11_town_206 ⟨⟨⟨by decide, by decide⟩, zX11_copy⟩, lX11_338, tX11_copy⟩ (em_copy13 hy hr   ) (Nat.le_of_ble_eq_true rfl) ?_
                  intro r I3617 J3618 Ra hq
                  obtain ⟨ec, g3619, g3620, g3621, er, p3616⟩ := hq
                  rw [ec, er]
                  clear ec er Ra r
                  have e3622 : I3617 (ad g 0) 10 = w3500 := by rw [FC_at hy g3619 0 (by decide) (by decide)]; exact e3607
                  have e3623 : I3617 (ad g 0) 11 = w3501 := by rw [FC_at hy g3619 0 (by decide) (by decide)]; exact e3608
                  have e3624 : I3617 (ad g 0) 13 = w3502 := by rw [FC_at hy g3619 0 (by decide) (by decide)]; exact e3609
                  have e3625 : I3617 (ad g 0) 14 = w3503 := by rw [FC_at hy g3619 0 (by decide) (by decide)]; exact e3610
                  have e3626 : I3617 (ad g 0) 19 = w3504 := by rw [FC_at hy g3619 0 (by decide) (by decide)]; exact e3611
                  have e3627 : I3617 (ad g 0) 12 = w3504 := by rw [FC_at hy g3619 0 (by decide) (by decide)]; exact e3612
                  have fI3628 : FC g [0, 6, 7, 8, 9, 10, 11, 12, 13, 14, 15, 16, 17, 18, 19, 20, 21, 22, 23, 24, 25, 26, 27, 28, 29, 30, 31, 32, 33, 34, 37, 38, 44, 46, 47] I I3617 := FC_tr fI3613 (FC_mono g3619 (by decide))
                  have fJ3629 : FC g [0, 2, 3, 4, 5] J J3618 := FC_tr fJ3614 (FC_mono g3620 (by decide))
                  have fQ3630 : FQ g [1, 2, 3, 4, 5, 6, 7, 8, 9, 10, 11, 12, 13, 14, 15, 16, 17, 18, 19, 51, 68] I I3617 := FQ_tr fQ3615 (FQ_mono g3621 (by decide))
                  try simp only [e3622, e3623, e3624, e3625, e3626] at p3616
                  have d13 : ∀ q, q < 3 → I3617 (ad g 13) q = I3430 (ad g 19) q := fun q hq => by rw [p3616 q hq, FC_at hy g3604 19 (by decide) (by decide), FC_at hy g3589 19 (by decide) (by decide), FC_at hy g3574 19 (by decide) (by decide), FC_at hy g3559 19 (by decide) (by decide), FC_at hy g3544 19 (by decide) (by decide), FC_at hy g3529 19 (by decide) (by decide), eI3505, pp_off _ _ (ly_ne hy (by decide) (by decide) (by decide)), FC_at hy jF1 19 (by decide) (by decide)]
                  refine WP_aload_n dX11_town_209 rfl ?_
                  refine WP_getr dX11_town_210 fX11_252 rfl (ly_is hy 0 11 rfl) (rf hr 0 38 20 (by decide)) ?_
                  refine WP_aload_n dX11_town_213 rfl ?_
                  refine WP_getr dX11_town_214 fX11_114 rfl (ly_is hy 0 11 rfl) (rf hr 0 45 27 (by decide)) ?_
                  refine WP_callS2 dX11_town_217 ⟨⟨⟨by decide, by decide⟩, zX11_copy⟩, lX11_338, tX11_copy⟩ (em_copy20 hy hr   ) (Nat.le_of_ble_eq_true rfl) ?_
                  intro r I3632 J3633 Ra hq
                  obtain ⟨ec, g3634, g3635, g3636, er, p3631⟩ := hq
                  rw [ec, er]
                  clear ec er Ra r
                  have e3637 : I3632 (ad g 0) 10 = w3500 := by rw [FC_at hy g3634 0 (by decide) (by decide)]; exact e3622
                  have e3638 : I3632 (ad g 0) 11 = w3501 := by rw [FC_at hy g3634 0 (by decide) (by decide)]; exact e3623
                  have e3639 : I3632 (ad g 0) 13 = w3502 := by rw [FC_at hy g3634 0 (by decide) (by decide)]; exact e3624
                  have e3640 : I3632 (ad g 0) 14 = w3503 := by rw [FC_at hy g3634 0 (by decide) (by decide)]; exact e3625
                  have e3641 : I3632 (ad g 0) 19 = w3504 := by rw [FC_at hy g3634 0 (by decide) (by decide)]; exact e3626
                  have e3642 : I3632 (ad g 0) 12 = w3504 := by rw [FC_at hy g3634 0 (by decide) (by decide)]; exact e3627
                  have fI3643 : FC g [0, 6, 7, 8, 9, 10, 11, 12, 13, 14, 15, 16, 17, 18, 19, 20, 21, 22, 23, 24, 25, 26, 27, 28, 29, 30, 31, 32, 33, 34, 37, 38, 44, 46, 47] I I3632 := FC_tr fI3628 (FC_mono g3634 (by decide))
                  have fJ3644 : FC g [0, 2, 3, 4, 5] J J3633 := FC_tr fJ3629 (FC_mono g3635 (by decide))
                  have fQ3645 : FQ g [1, 2, 3, 4, 5, 6, 7, 8, 9, 10, 11, 12, 13, 14, 15, 16, 17, 18, 19, 51, 68] I I3632 := FQ_tr fQ3630 (FQ_mono g3636 (by decide))
                  try simp only [e3637, e3638, e3639, e3640, e3641] at p3631
                  have d20 : ∀ q, q < 28 → I3632 (ad g 20) q = I3430 (ad g 27) q := fun q hq => by rw [p3631 q hq, FC_at hy g3619 27 (by decide) (by decide), FC_at hy g3604 27 (by decide) (by decide), FC_at hy g3589 27 (by decide) (by decide), FC_at hy g3574 27 (by decide) (by decide), FC_at hy g3559 27 (by decide) (by decide), FC_at hy g3544 27 (by decide) (by decide), FC_at hy g3529 27 (by decide) (by decide), eI3505, pp_off _ _ (ly_ne hy (by decide) (by decide) (by decide)), FC_at hy jF1 27 (by decide) (by decide)]
                  refine WP_aload_n dX11_town_220 rfl ?_
                  refine WP_getr dX11_town_221 fX11_254 rfl (ly_is hy 0 11 rfl) (rf hr 0 39 21 (by decide)) ?_
                  refine WP_aload_n dX11_town_224 rfl ?_
                  refine WP_getr dX11_town_225 fX11_141 rfl (ly_is hy 0 11 rfl) (rf hr 0 46 28 (by decide)) ?_
                  refine WP_callS2 dX11_town_228 ⟨⟨⟨by decide, by decide⟩, zX11_copy⟩, lX11_338, tX11_copy⟩ (em_copy21 hy hr   ) (Nat.le_of_ble_eq_true rfl) ?_
                  intro r I3647 J3648 Ra hq
                  obtain ⟨ec, g3649, g3650, g3651, er, p3646⟩ := hq
                  rw [ec, er]
                  clear ec er Ra r
                  have e3652 : I3647 (ad g 0) 10 = w3500 := by rw [FC_at hy g3649 0 (by decide) (by decide)]; exact e3637
                  have e3653 : I3647 (ad g 0) 11 = w3501 := by rw [FC_at hy g3649 0 (by decide) (by decide)]; exact e3638
                  have e3654 : I3647 (ad g 0) 13 = w3502 := by rw [FC_at hy g3649 0 (by decide) (by decide)]; exact e3639
                  have e3655 : I3647 (ad g 0) 14 = w3503 := by rw [FC_at hy g3649 0 (by decide) (by decide)]; exact e3640
                  have e3656 : I3647 (ad g 0) 19 = w3504 := by rw [FC_at hy g3649 0 (by decide) (by decide)]; exact e3641
                  have e3657 : I3647 (ad g 0) 12 = w3504 := by rw [FC_at hy g3649 0 (by decide) (by decide)]; exact e3642
                  have fI3658 : FC g [0, 6, 7, 8, 9, 10, 11, 12, 13, 14, 15, 16, 17, 18, 19, 20, 21, 22, 23, 24, 25, 26, 27, 28, 29, 30, 31, 32, 33, 34, 37, 38, 44, 46, 47] I I3647 := FC_tr fI3643 (FC_mono g3649 (by decide))
                  have fJ3659 : FC g [0, 2, 3, 4, 5] J J3648 := FC_tr fJ3644 (FC_mono g3650 (by decide))
                  have fQ3660 : FQ g [1, 2, 3, 4, 5, 6, 7, 8, 9, 10, 11, 12, 13, 14, 15, 16, 17, 18, 19, 51, 68] I I3647 := FQ_tr fQ3645 (FQ_mono g3651 (by decide))
                  try simp only [e3652, e3653, e3654, e3655, e3656] at p3646
                  have d21 : ∀ q, q < 21 → I3647 (ad g 21) q = I3430 (ad g 28) q := fun q hq => by rw [p3646 q hq, FC_at hy g3634 28 (by decide) (by decide), FC_at hy g3619 28 (by decide) (by decide), FC_at hy g3604 28 (by decide) (by decide), FC_at hy g3589 28 (by decide) (by decide), FC_at hy g3574 28 (by decide) (by decide), FC_at hy g3559 28 (by decide) (by decide), FC_at hy g3544 28 (by decide) (by decide), FC_at hy g3529 28 (by decide) (by decide), eI3505, pp_off _ _ (ly_ne hy (by decide) (by decide) (by decide)), FC_at hy jF1 28 (by decide) (by decide)]
                  refine WP_aload_n dX11_town_231 rfl ?_
                  refine WP_getr dX11_town_232 fX11_257 rfl (ly_is hy 0 11 rfl) (rf hr 0 40 22 (by decide)) ?_
                  refine WP_aload_n dX11_town_235 rfl ?_
                  refine WP_getr dX11_town_236 fX11_141 rfl (ly_is hy 0 11 rfl) (rf hr 0 46 28 (by decide)) ?_
                  refine WP_callS2 dX11_town_239 ⟨⟨⟨by decide, by decide⟩, zX11_copy⟩, lX11_338, tX11_copy⟩ (em_copy22 hy hr   ) (Nat.le_of_ble_eq_true rfl) ?_
                  intro r I3662 J3663 Ra hq
                  obtain ⟨ec, g3664, g3665, g3666, er, p3661⟩ := hq
                  rw [ec, er]
                  clear ec er Ra r
                  have e3667 : I3662 (ad g 0) 10 = w3500 := by rw [FC_at hy g3664 0 (by decide) (by decide)]; exact e3652
                  have e3668 : I3662 (ad g 0) 11 = w3501 := by rw [FC_at hy g3664 0 (by decide) (by decide)]; exact e3653
                  have e3669 : I3662 (ad g 0) 13 = w3502 := by rw [FC_at hy g3664 0 (by decide) (by decide)]; exact e3654
                  have e3670 : I3662 (ad g 0) 14 = w3503 := by rw [FC_at hy g3664 0 (by decide) (by decide)]; exact e3655
                  have e3671 : I3662 (ad g 0) 19 = w3504 := by rw [FC_at hy g3664 0 (by decide) (by decide)]; exact e3656
                  have e3672 : I3662 (ad g 0) 12 = w3504 := by rw [FC_at hy g3664 0 (by decide) (by decide)]; exact e3657
                  have fI3673 : FC g [0, 6, 7, 8, 9, 10, 11, 12, 13, 14, 15, 16, 17, 18, 19, 20, 21, 22, 23, 24, 25, 26, 27, 28, 29, 30, 31, 32, 33, 34, 37, 38, 44, 46, 47] I I3662 := FC_tr fI3658 (FC_mono g3664 (by decide))
                  have fJ3674 : FC g [0, 2, 3, 4, 5] J J3663 := FC_tr fJ3659 (FC_mono g3665 (by decide))
                  have fQ3675 : FQ g [1, 2, 3, 4, 5, 6, 7, 8, 9, 10, 11, 12, 13, 14, 15, 16, 17, 18, 19, 51, 68] I I3662 := FQ_tr fQ3660 (FQ_mono g3666 (by decide))
                  try simp only [e3667, e3668, e3669, e3670, e3671] at p3661
                  have d22 : ∀ q, q < 21 → I3662 (ad g 22) q = I3430 (ad g 28) q := fun q hq => by rw [p3661 q hq, FC_at hy g3649 28 (by decide) (by decide), FC_at hy g3634 28 (by decide) (by decide), FC_at hy g3619 28 (by decide) (by decide), FC_at hy g3604 28 (by decide) (by decide), FC_at hy g3589 28 (by decide) (by decide), FC_at hy g3574 28 (by decide) (by decide), FC_at hy g3559 28 (by decide) (by decide), FC_at hy g3544 28 (by decide) (by decide), FC_at hy g3529 28 (by decide) (by decide), eI3505, pp_off _ _ (ly_ne hy (by decide) (by decide) (by decide)), FC_at hy jF1 28 (by decide) (by decide)]
                  refine WP_aload_n dX11_town_242 rfl ?_
                  refine WP_getr dX11_town_243 fX11_259 rfl (ly_is hy 0 11 rfl) (rf hr 0 41 23 (by decide)) ?_
                  refine WP_aload_n dX11_town_246 rfl ?_
                  refine WP_getr dX11_town_247 fX11_144 rfl (ly_is hy 0 11 rfl) (rf hr 0 47 29 (by decide)) ?_
                  refine WP_callS2 dX11_town_250 ⟨⟨⟨by decide, by decide⟩, zX11_copy⟩, lX11_338, tX11_copy⟩ (em_copy23 hy hr   ) (Nat.le_of_ble_eq_true rfl) ?_
                  intro r I3677 J3678 Ra hq
                  obtain ⟨ec, g3679, g3680, g3681, er, p3676⟩ := hq
                  rw [ec, er]
                  clear ec er Ra r
                  have e3682 : I3677 (ad g 0) 10 = w3500 := by rw [FC_at hy g3679 0 (by decide) (by decide)]; exact e3667
                  have e3683 : I3677 (ad g 0) 11 = w3501 := by rw [FC_at hy g3679 0 (by decide) (by decide)]; exact e3668
                  have e3684 : I3677 (ad g 0) 13 = w3502 := by rw [FC_at hy g3679 0 (by decide) (by decide)]; exact e3669
                  have e3685 : I3677 (ad g 0) 14 = w3503 := by rw [FC_at hy g3679 0 (by decide) (by decide)]; exact e3670
                  have e3686 : I3677 (ad g 0) 19 = w3504 := by rw [FC_at hy g3679 0 (by decide) (by decide)]; exact e3671
                  have e3687 : I3677 (ad g 0) 12 = w3504 := by rw [FC_at hy g3679 0 (by decide) (by decide)]; exact e3672
                  have fI3688 : FC g [0, 6, 7, 8, 9, 10, 11, 12, 13, 14, 15, 16, 17, 18, 19, 20, 21, 22, 23, 24, 25, 26, 27, 28, 29, 30, 31, 32, 33, 34, 37, 38, 44, 46, 47] I I3677 := FC_tr fI3673 (FC_mono g3679 (by decide))
                  have fJ3689 : FC g [0, 2, 3, 4, 5] J J3678 := FC_tr fJ3674 (FC_mono g3680 (by decide))
                  have fQ3690 : FQ g [1, 2, 3, 4, 5, 6, 7, 8, 9, 10, 11, 12, 13, 14, 15, 16, 17, 18, 19, 51, 68] I I3677 := FQ_tr fQ3675 (FQ_mono g3681 (by decide))
                  try simp only [e3682, e3683, e3684, e3685, e3686] at p3676
                  have d23 : ∀ q, q < 21 → I3677 (ad g 23) q = I3430 (ad g 29) q := fun q hq => by rw [p3676 q hq, FC_at hy g3664 29 (by decide) (by decide), FC_at hy g3649 29 (by decide) (by decide), FC_at hy g3634 29 (by decide) (by decide), FC_at hy g3619 29 (by decide) (by decide), FC_at hy g3604 29 (by decide) (by decide), FC_at hy g3589 29 (by decide) (by decide), FC_at hy g3574 29 (by decide) (by decide), FC_at hy g3559 29 (by decide) (by decide), FC_at hy g3544 29 (by decide) (by decide), FC_at hy g3529 29 (by decide) (by decide), eI3505, pp_off _ _ (ly_ne hy (by decide) (by decide) (by decide)), FC_at hy jF1 29 (by decide) (by decide)]
                  refine WP_aload_n dX11_town_253 rfl ?_
                  refine WP_getr dX11_town_254 fX11_261 rfl (ly_is hy 0 11 rfl) (rf hr 0 42 24 (by decide)) ?_
                  refine WP_aload_n dX11_town_257 rfl ?_
                  refine WP_getr dX11_town_258 fX11_117 rfl (ly_is hy 0 11 rfl) (rf hr 0 48 30 (by decide)) ?_
                  refine WP_callS2 dX11_town_261 ⟨⟨⟨by decide, by decide⟩, zX11_copy⟩, lX11_338, tX11_copy⟩ (em_copy24 hy hr   ) (Nat.le_of_ble_eq_true rfl) ?_
                  intro r I3692 J3693 Ra hq
                  obtain ⟨ec, g3694, g3695, g3696, er, p3691⟩ := hq
                  rw [ec, er]
                  clear ec er Ra r
                  have e3697 : I3692 (ad g 0) 10 = w3500 := by rw [FC_at hy g3694 0 (by decide) (by decide)]; exact e3682
                  have e3698 : I3692 (ad g 0) 11 = w3501 := by rw [FC_at hy g3694 0 (by decide) (by decide)]; exact e3683
                  have e3699 : I3692 (ad g 0) 13 = w3502 := by rw [FC_at hy g3694 0 (by decide) (by decide)]; exact e3684
                  have e3700 : I3692 (ad g 0) 14 = w3503 := by rw [FC_at hy g3694 0 (by decide) (by decide)]; exact e3685
                  have e3701 : I3692 (ad g 0) 19 = w3504 := by rw [FC_at hy g3694 0 (by decide) (by decide)]; exact e3686
                  have e3702 : I3692 (ad g 0) 12 = w3504 := by rw [FC_at hy g3694 0 (by decide) (by decide)]; exact e3687
                  have fI3703 : FC g [0, 6, 7, 8, 9, 10, 11, 12, 13, 14, 15, 16, 17, 18, 19, 20, 21, 22, 23, 24, 25, 26, 27, 28, 29, 30, 31, 32, 33, 34, 37, 38, 44, 46, 47] I I3692 := FC_tr fI3688 (FC_mono g3694 (by decide))
                  have fJ3704 : FC g [0, 2, 3, 4, 5] J J3693 := FC_tr fJ3689 (FC_mono g3695 (by decide))
                  have fQ3705 : FQ g [1, 2, 3, 4, 5, 6, 7, 8, 9, 10, 11, 12, 13, 14, 15, 16, 17, 18, 19, 51, 68] I I3692 := FQ_tr fQ3690 (FQ_mono g3696 (by decide))
                  try simp only [e3697, e3698, e3699, e3700, e3701] at p3691
                  have d24 : ∀ q, q < 28 → I3692 (ad g 24) q = I3430 (ad g 30) q := fun q hq => by rw [p3691 q hq, FC_at hy g3679 30 (by decide) (by decide), FC_at hy g3664 30 (by decide) (by decide), FC_at hy g3649 30 (by decide) (by decide), FC_at hy g3634 30 (by decide) (by decide), FC_at hy g3619 30 (by decide) (by decide), FC_at hy g3604 30 (by decide) (by decide), FC_at hy g3589 30 (by decide) (by decide), FC_at hy g3574 30 (by decide) (by decide), FC_at hy g3559 30 (by decide) (by decide), FC_at hy g3544 30 (by decide) (by decide), FC_at hy g3529 30 (by decide) (by decide), eI3505, pp_off _ _ (ly_ne hy (by decide) (by decide) (by decide)), FC_at hy jF1 30 (by decide) (by decide)]
                  refine WP_aload_n dX11_town_264 rfl ?_
                  refine WP_getr dX11_town_265 fX11_264 rfl (ly_is hy 0 11 rfl) (rf hr 0 43 25 (by decide)) ?_
                  refine WP_aload_n dX11_town_268 rfl ?_
                  refine WP_getr dX11_town_269 fX11_120 rfl (ly_is hy 0 11 rfl) (rf hr 0 49 31 (by decide)) ?_
                  refine WP_callS2 dX11_town_272 ⟨⟨⟨by decide, by decide⟩, zX11_copy⟩, lX11_338, tX11_copy⟩ (em_copy25 hy hr   ) (Nat.le_of_ble_eq_true rfl) ?_
                  intro r I3707 J3708 Ra hq
                  obtain ⟨ec, g3709, g3710, g3711, er, p3706⟩ := hq
                  rw [ec, er]
                  clear ec er Ra r
                  have e3712 : I3707 (ad g 0) 10 = w3500 := by rw [FC_at hy g3709 0 (by decide) (by decide)]; exact e3697
                  have e3713 : I3707 (ad g 0) 11 = w3501 := by rw [FC_at hy g3709 0 (by decide) (by decide)]; exact e3698
                  have e3714 : I3707 (ad g 0) 13 = w3502 := by rw [FC_at hy g3709 0 (by decide) (by decide)]; exact e3699
                  have e3715 : I3707 (ad g 0) 14 = w3503 := by rw [FC_at hy g3709 0 (by decide) (by decide)]; exact e3700
                  have e3716 : I3707 (ad g 0) 19 = w3504 := by rw [FC_at hy g3709 0 (by decide) (by decide)]; exact e3701
                  have e3717 : I3707 (ad g 0) 12 = w3504 := by rw [FC_at hy g3709 0 (by decide) (by decide)]; exact e3702
                  have fI3718 : FC g [0, 6, 7, 8, 9, 10, 11, 12, 13, 14, 15, 16, 17, 18, 19, 20, 21, 22, 23, 24, 25, 26, 27, 28, 29, 30, 31, 32, 33, 34, 37, 38, 44, 46, 47] I I3707 := FC_tr fI3703 (FC_mono g3709 (by decide))
                  have fJ3719 : FC g [0, 2, 3, 4, 5] J J3708 := FC_tr fJ3704 (FC_mono g3710 (by decide))
                  have fQ3720 : FQ g [1, 2, 3, 4, 5, 6, 7, 8, 9, 10, 11, 12, 13, 14, 15, 16, 17, 18, 19, 51, 68] I I3707 := FQ_tr fQ3705 (FQ_mono g3711 (by decide))
                  try simp only [e3712, e3713, e3714, e3715, e3716] at p3706
                  have d25 : ∀ q, q < 28 → I3707 (ad g 25) q = I3430 (ad g 31) q := fun q hq => by rw [p3706 q hq, FC_at hy g3694 31 (by decide) (by decide), FC_at hy g3679 31 (by decide) (by decide), FC_at hy g3664 31 (by decide) (by decide), FC_at hy g3649 31 (by decide) (by decide), FC_at hy g3634 31 (by decide) (by decide), FC_at hy g3619 31 (by decide) (by decide), FC_at hy g3604 31 (by decide) (by decide), FC_at hy g3589 31 (by decide) (by decide), FC_at hy g3574 31 (by decide) (by decide), FC_at hy g3559 31 (by decide) (by decide), FC_at hy g3544 31 (by decide) (by decide), FC_at hy g3529 31 (by decide) (by decide), eI3505, pp_off _ _ (ly_ne hy (by decide) (by decide) (by decide)), FC_at hy jF1 31 (by decide) (by decide)]
                  refine WP_aload_n dX11_town_275 rfl ?_
                  refine WP_getr dX11_town_276 fX11_267 rfl (ly_is hy 0 11 rfl) (rf hr 0 44 26 (by decide)) ?_
                  refine WP_aload_n dX11_town_279 rfl ?_
                  refine WP_getr dX11_town_280 fX11_123 rfl (ly_is hy 0 11 rfl) (rf hr 0 50 32 (by decide)) ?_
                  refine WP_callS2 dX11_town_283 ⟨⟨⟨by decide, by decide⟩, zX11_copy⟩, lX11_338, tX11_copy⟩ (em_copy26 hy hr   ) (Nat.le_of_ble_eq_true rfl) ?_
                  intro r I3722 J3723 Ra hq
                  obtain ⟨ec, g3724, g3725, g3726, er, p3721⟩ := hq
                  rw [ec, er]
                  clear ec er Ra r
                  have e3727 : I3722 (ad g 0) 10 = w3500 := by rw [FC_at hy g3724 0 (by decide) (by decide)]; exact e3712
                  have e3728 : I3722 (ad g 0) 11 = w3501 := by rw [FC_at hy g3724 0 (by decide) (by decide)]; exact e3713
                  have e3729 : I3722 (ad g 0) 13 = w3502 := by rw [FC_at hy g3724 0 (by decide) (by decide)]; exact e3714
                  have e3730 : I3722 (ad g 0) 14 = w3503 := by rw [FC_at hy g3724 0 (by decide) (by decide)]; exact e3715
                  have e3731 : I3722 (ad g 0) 19 = w3504 := by rw [FC_at hy g3724 0 (by decide) (by decide)]; exact e3716
                  have e3732 : I3722 (ad g 0) 12 = w3504 := by rw [FC_at hy g3724 0 (by decide) (by decide)]; exact e3717
                  have fI3733 : FC g [0, 6, 7, 8, 9, 10, 11, 12, 13, 14, 15, 16, 17, 18, 19, 20, 21, 22, 23, 24, 25, 26, 27, 28, 29, 30, 31, 32, 33, 34, 37, 38, 44, 46, 47] I I3722 := FC_tr fI3718 (FC_mono g3724 (by decide))
                  have fJ3734 : FC g [0, 2, 3, 4, 5] J J3723 := FC_tr fJ3719 (FC_mono g3725 (by decide))
                  have fQ3735 : FQ g [1, 2, 3, 4, 5, 6, 7, 8, 9, 10, 11, 12, 13, 14, 15, 16, 17, 18, 19, 51, 68] I I3722 := FQ_tr fQ3720 (FQ_mono g3726 (by decide))
                  try simp only [e3727, e3728, e3729, e3730, e3731] at p3721
                  have d26 : ∀ q, q < 28 → I3722 (ad g 26) q = I3430 (ad g 32) q := fun q hq => by rw [p3721 q hq, FC_at hy g3709 32 (by decide) (by decide), FC_at hy g3694 32 (by decide) (by decide), FC_at hy g3679 32 (by decide) (by decide), FC_at hy g3664 32 (by decide) (by decide), FC_at hy g3649 32 (by decide) (by decide), FC_at hy g3634 32 (by decide) (by decide), FC_at hy g3619 32 (by decide) (by decide), FC_at hy g3604 32 (by decide) (by decide), FC_at hy g3589 32 (by decide) (by decide), FC_at hy g3574 32 (by decide) (by decide), FC_at hy g3559 32 (by decide) (by decide), FC_at hy g3544 32 (by decide) (by decide), FC_at hy g3529 32 (by decide) (by decide), eI3505, pp_off _ _ (ly_ne hy (by decide) (by decide) (by decide)), FC_at hy jF1 32 (by decide) (by decide)]
                  refine WQ_iconst (0) (0) dX11_town_286 rfl rfl (fun v3736 hv3736 => ?_)
                  refine WP_istore_n (ls' := [(0, _), (1, _)]) dX11_town_287 (by decide) rfl ?_
                  refine WP_iload_n dX11_town_288 rfl ?_
                  refine WQ_iconst (4) (4) dX11_town_289 rfl rfl (fun v3737 hv3737 => ?_)
                  refine WQ_icmp_ge 323 dX11_town_290 rfl (fun c3737 => False.elim (by omega)) (fun c3737 => ?_)
                  refine WP_aload_n dX11_town_293 rfl ?_
                  refine WP_getr dX11_town_294 fX11_283 rfl (ly_is hy 0 11 rfl) (rf hr 0 59 38 (by decide)) ?_
                  refine WQ_bipush (28) (28) dX11_town_297 rfl rfl (fun v3739 hv3739 => ?_)
                  refine WP_iload_n dX11_town_299 rfl ?_
                  refine WQ_iadd dX11_town_300 (by omega) (by omega) (fun v3740 hv3740 => ?_)
                  have kv3740 : v3740.toInt = 28 := by omega
                  clear hv3740; have hv3740 := kv3740; clear kv3740
                  refine WQ_iconst (1) (1) dX11_town_301 rfl rfl (fun v3741 hv3741 => ?_)
                  refine WE_is dX11_town_302 (ly_is hy 38 13 rfl) (ly_n hy 38 35 rfl) (by omega) (by omega) (fun I3742 eI3742 => ?_)
                  rw [show v3740.toInt.toNat = 28 by omega] at eI3742
                  have e3743 : I3742 (ad g 0) 10 = w3500 := by rw [eI3742, pp_ne _ _ (Or.inl (ly_ne hy (by decide) (by decide) (by decide)))]; exact e3727
                  have e3744 : I3742 (ad g 0) 11 = w3501 := by rw [eI3742, pp_ne _ _ (Or.inl (ly_ne hy (by decide) (by decide) (by decide)))]; exact e3728
                  have e3745 : I3742 (ad g 0) 13 = w3502 := by rw [eI3742, pp_ne _ _ (Or.inl (ly_ne hy (by decide) (by decide) (by decide)))]; exact e3729
                  have e3746 : I3742 (ad g 0) 14 = w3503 := by rw [eI3742, pp_ne _ _ (Or.inl (ly_ne hy (by decide) (by decide) (by decide)))]; exact e3730
                  have e3747 : I3742 (ad g 0) 19 = w3504 := by rw [eI3742, pp_ne _ _ (Or.inl (ly_ne hy (by decide) (by decide) (by decide)))]; exact e3731
                  have e3748 : I3742 (ad g 0) 12 = w3504 := by rw [eI3742, pp_ne _ _ (Or.inl (ly_ne hy (by decide) (by decide) (by decide)))]; exact e3732
                  have e3749 : I3742 (ad g 38) 28 = v3741 := by rw [eI3742, pp_self]
                  have fI3750 : FC g [0, 6, 7, 8, 9, 10, 11, 12, 13, 14, 15, 16, 17, 18, 19, 20, 21, 22, 23, 24, 25, 26, 27, 28, 29, 30, 31, 32, 33, 34, 37, 38, 44, 46, 47] I I3742 := by rw [eI3742]; exact FC_pp fI3733 (by decide)
                  have fQ3751 : FQ g [1, 2, 3, 4, 5, 6, 7, 8, 9, 10, 11, 12, 13, 14, 15, 16, 17, 18, 19, 51, 68] I I3742 := by rw [eI3742]; exact FQ_ppn (ly_ne hy (by decide) (by decide) (by decide)) fQ3735
                  refine WP_aload_n dX11_town_303 rfl ?_
                  refine WP_getr dX11_town_304 fX11_310 rfl (ly_is hy 0 11 rfl) (rf hr 0 71 46 (by decide)) ?_
                  refine WP_iload_n dX11_town_307 rfl ?_
                  refine WQ_iconst (0) (0) dX11_town_308 rfl rfl (fun v3752 hv3752 => ?_)
                  refine WE_is dX11_town_309 (ly_is hy 46 13 rfl) (ly_n hy 46 4 rfl) (by omega) (by omega) (fun I3753 eI3753 => ?_)
                  rw [show v3736.toInt.toNat = 0 by omega] at eI3753
                  have e3754 : I3753 (ad g 0) 10 = w3500 := by rw [eI3753, pp_ne _ _ (Or.inl (ly_ne hy (by decide) (by decide) (by decide)))]; exact e3743
                  have e3755 : I3753 (ad g 0) 11 = w3501 := by rw [eI3753, pp_ne _ _ (Or.inl (ly_ne hy (by decide) (by decide) (by decide)))]; exact e3744
                  have e3756 : I3753 (ad g 0) 13 = w3502 := by rw [eI3753, pp_ne _ _ (Or.inl (ly_ne hy (by decide) (by decide) (by decide)))]; exact e3745
                  have e3757 : I3753 (ad g 0) 14 = w3503 := by rw [eI3753, pp_ne _ _ (Or.inl (ly_ne hy (by decide) (by decide) (by decide)))]; exact e3746
                  have e3758 : I3753 (ad g 0) 19 = w3504 := by rw [eI3753, pp_ne _ _ (Or.inl (ly_ne hy (by decide) (by decide) (by decide)))]; exact e3747
                  have e3759 : I3753 (ad g 0) 12 = w3504 := by rw [eI3753, pp_ne _ _ (Or.inl (ly_ne hy (by decide) (by decide) (by decide)))]; exact e3748
                  have e3760 : I3753 (ad g 38) 28 = v3741 := by rw [eI3753, pp_ne _ _ (Or.inl (ly_ne hy (by decide) (by decide) (by decide)))]; exact e3749
                  have e3761 : I3753 (ad g 46) 0 = v3752 := by rw [eI3753, pp_self]
                  have fI3762 : FC g [0, 6, 7, 8, 9, 10, 11, 12, 13, 14, 15, 16, 17, 18, 19, 20, 21, 22, 23, 24, 25, 26, 27, 28, 29, 30, 31, 32, 33, 34, 37, 38, 44, 46, 47] I I3753 := by rw [eI3753]; exact FC_pp fI3750 (by decide)
                  have fQ3763 : FQ g [1, 2, 3, 4, 5, 6, 7, 8, 9, 10, 11, 12, 13, 14, 15, 16, 17, 18, 19, 51, 68] I I3753 := by rw [eI3753]; exact FQ_ppn (ly_ne hy (by decide) (by decide) (by decide)) fQ3751
                  refine WP_aload_n dX11_town_310 rfl ?_
                  refine WP_getr dX11_town_311 fX11_313 rfl (ly_is hy 0 11 rfl) (rf hr 0 72 47 (by decide)) ?_
                  refine WP_iload_n dX11_town_314 rfl ?_
                  refine WQ_iconst (0) (0) dX11_town_315 rfl rfl (fun v3764 hv3764 => ?_)
                  refine WE_is dX11_town_316 (ly_is hy 47 13 rfl) (ly_n hy 47 4 rfl) (by omega) (by omega) (fun I3765 eI3765 => ?_)
                  rw [show v3736.toInt.toNat = 0 by omega] at eI3765
                  have e3766 : I3765 (ad g 0) 10 = w3500 := by rw [eI3765, pp_ne _ _ (Or.inl (ly_ne hy (by decide) (by decide) (by decide)))]; exact e3754
                  have e3767 : I3765 (ad g 0) 11 = w3501 := by rw [eI3765, pp_ne _ _ (Or.inl (ly_ne hy (by decide) (by decide) (by decide)))]; exact e3755
                  have e3768 : I3765 (ad g 0) 13 = w3502 := by rw [eI3765, pp_ne _ _ (Or.inl (ly_ne hy (by decide) (by decide) (by decide)))]; exact e3756
                  have e3769 : I3765 (ad g 0) 14 = w3503 := by rw [eI3765, pp_ne _ _ (Or.inl (ly_ne hy (by decide) (by decide) (by decide)))]; exact e3757
                  have e3770 : I3765 (ad g 0) 19 = w3504 := by rw [eI3765, pp_ne _ _ (Or.inl (ly_ne hy (by decide) (by decide) (by decide)))]; exact e3758
                  have e3771 : I3765 (ad g 0) 12 = w3504 := by rw [eI3765, pp_ne _ _ (Or.inl (ly_ne hy (by decide) (by decide) (by decide)))]; exact e3759
                  have e3772 : I3765 (ad g 38) 28 = v3741 := by rw [eI3765, pp_ne _ _ (Or.inl (ly_ne hy (by decide) (by decide) (by decide)))]; exact e3760
                  have e3773 : I3765 (ad g 46) 0 = v3752 := by rw [eI3765, pp_ne _ _ (Or.inl (ly_ne hy (by decide) (by decide) (by decide)))]; exact e3761
                  have e3774 : I3765 (ad g 47) 0 = v3764 := by rw [eI3765, pp_self]
                  have fI3775 : FC g [0, 6, 7, 8, 9, 10, 11, 12, 13, 14, 15, 16, 17, 18, 19, 20, 21, 22, 23, 24, 25, 26, 27, 28, 29, 30, 31, 32, 33, 34, 37, 38, 44, 46, 47] I I3765 := by rw [eI3765]; exact FC_pp fI3762 (by decide)
                  have fQ3776 : FQ g [1, 2, 3, 4, 5, 6, 7, 8, 9, 10, 11, 12, 13, 14, 15, 16, 17, 18, 19, 51, 68] I I3765 := by rw [eI3765]; exact FQ_ppn (ly_ne hy (by decide) (by decide) (by decide)) fQ3763
                  refine WP_iinc (ls' := [(0, _), (1, _)]) dX11_town_317 rfl (by decide) rfl ?_
                  have hv3777 : (v3736 + Int32.ofInt (1)).toInt = v3736.toInt + (1) := ia_n rfl (by omega) (by omega)
                  generalize v3736 + Int32.ofInt (1) = v3777 at hv3777 ⊢
                  have kv3777 : v3777.toInt = 1 := by omega
                  clear hv3777; have hv3777 := kv3777; clear kv3777
                  refine WP_goto 288 dX11_town_320 rfl ?_
                  refine WP_iload_n dX11_town_288 rfl ?_
                  refine WQ_iconst (4) (4) dX11_town_289 rfl rfl (fun v3778 hv3778 => ?_)
                  refine WQ_icmp_ge 323 dX11_town_290 rfl (fun c3778 => False.elim (by omega)) (fun c3778 => ?_)
                  refine WP_aload_n dX11_town_293 rfl ?_
                  refine WP_getr dX11_town_294 fX11_283 rfl (ly_is hy 0 11 rfl) (rf hr 0 59 38 (by decide)) ?_
                  refine WQ_bipush (28) (28) dX11_town_297 rfl rfl (fun v3780 hv3780 => ?_)
                  refine WP_iload_n dX11_town_299 rfl ?_
                  refine WQ_iadd dX11_town_300 (by omega) (by omega) (fun v3781 hv3781 => ?_)
                  have kv3781 : v3781.toInt = 29 := by omega
                  clear hv3781; have hv3781 := kv3781; clear kv3781
                  refine WQ_iconst (1) (1) dX11_town_301 rfl rfl (fun v3782 hv3782 => ?_)
                  refine WE_is dX11_town_302 (ly_is hy 38 13 rfl) (ly_n hy 38 35 rfl) (by omega) (by omega) (fun I3783 eI3783 => ?_)
                  rw [show v3781.toInt.toNat = 29 by omega] at eI3783
                  have e3784 : I3783 (ad g 0) 10 = w3500 := by rw [eI3783, pp_ne _ _ (Or.inl (ly_ne hy (by decide) (by decide) (by decide)))]; exact e3766
                  have e3785 : I3783 (ad g 0) 11 = w3501 := by rw [eI3783, pp_ne _ _ (Or.inl (ly_ne hy (by decide) (by decide) (by decide)))]; exact e3767
                  have e3786 : I3783 (ad g 0) 13 = w3502 := by rw [eI3783, pp_ne _ _ (Or.inl (ly_ne hy (by decide) (by decide) (by decide)))]; exact e3768
                  have e3787 : I3783 (ad g 0) 14 = w3503 := by rw [eI3783, pp_ne _ _ (Or.inl (ly_ne hy (by decide) (by decide) (by decide)))]; exact e3769
                  have e3788 : I3783 (ad g 0) 19 = w3504 := by rw [eI3783, pp_ne _ _ (Or.inl (ly_ne hy (by decide) (by decide) (by decide)))]; exact e3770
                  have e3789 : I3783 (ad g 0) 12 = w3504 := by rw [eI3783, pp_ne _ _ (Or.inl (ly_ne hy (by decide) (by decide) (by decide)))]; exact e3771
                  have e3790 : I3783 (ad g 38) 28 = v3741 := by rw [eI3783, pp_ne _ _ (Or.inr (by decide))]; exact e3772
                  have e3791 : I3783 (ad g 46) 0 = v3752 := by rw [eI3783, pp_ne _ _ (Or.inl (ly_ne hy (by decide) (by decide) (by decide)))]; exact e3773
                  have e3792 : I3783 (ad g 47) 0 = v3764 := by rw [eI3783, pp_ne _ _ (Or.inl (ly_ne hy (by decide) (by decide) (by decide)))]; exact e3774
                  have e3793 : I3783 (ad g 38) 29 = v3782 := by rw [eI3783, pp_self]
                  have fI3794 : FC g [0, 6, 7, 8, 9, 10, 11, 12, 13, 14, 15, 16, 17, 18, 19, 20, 21, 22, 23, 24, 25, 26, 27, 28, 29, 30, 31, 32, 33, 34, 37, 38, 44, 46, 47] I I3783 := by rw [eI3783]; exact FC_pp fI3775 (by decide)
                  have fQ3795 : FQ g [1, 2, 3, 4, 5, 6, 7, 8, 9, 10, 11, 12, 13, 14, 15, 16, 17, 18, 19, 51, 68] I I3783 := by rw [eI3783]; exact FQ_ppn (ly_ne hy (by decide) (by decide) (by decide)) fQ3776
                  refine WP_aload_n dX11_town_303 rfl ?_
                  refine WP_getr dX11_town_304 fX11_310 rfl (ly_is hy 0 11 rfl) (rf hr 0 71 46 (by decide)) ?_
                  refine WP_iload_n dX11_town_307 rfl ?_
                  refine WQ_iconst (0) (0) dX11_town_308 rfl rfl (fun v3796 hv3796 => ?_)
                  refine WE_is dX11_town_309 (ly_is hy 46 13 rfl) (ly_n hy 46 4 rfl) (by omega) (by omega) (fun I3797 eI3797 => ?_)
                  rw [show v3777.toInt.toNat = 1 by omega] at eI3797
                  have e3798 : I3797 (ad g 0) 10 = w3500 := by rw [eI3797, pp_ne _ _ (Or.inl (ly_ne hy (by decide) (by decide) (by decide)))]; exact e3784
                  have e3799 : I3797 (ad g 0) 11 = w3501 := by rw [eI3797, pp_ne _ _ (Or.inl (ly_ne hy (by decide) (by decide) (by decide)))]; exact e3785
                  have e3800 : I3797 (ad g 0) 13 = w3502 := by rw [eI3797, pp_ne _ _ (Or.inl (ly_ne hy (by decide) (by decide) (by decide)))]; exact e3786
                  have e3801 : I3797 (ad g 0) 14 = w3503 := by rw [eI3797, pp_ne _ _ (Or.inl (ly_ne hy (by decide) (by decide) (by decide)))]; exact e3787
                  have e3802 : I3797 (ad g 0) 19 = w3504 := by rw [eI3797, pp_ne _ _ (Or.inl (ly_ne hy (by decide) (by decide) (by decide)))]; exact e3788
                  have e3803 : I3797 (ad g 0) 12 = w3504 := by rw [eI3797, pp_ne _ _ (Or.inl (ly_ne hy (by decide) (by decide) (by decide)))]; exact e3789
                  have e3804 : I3797 (ad g 38) 28 = v3741 := by rw [eI3797, pp_ne _ _ (Or.inl (ly_ne hy (by decide) (by decide) (by decide)))]; exact e3790
                  have e3805 : I3797 (ad g 46) 0 = v3752 := by rw [eI3797, pp_ne _ _ (Or.inr (by decide))]; exact e3791
                  have e3806 : I3797 (ad g 47) 0 = v3764 := by rw [eI3797, pp_ne _ _ (Or.inl (ly_ne hy (by decide) (by decide) (by decide)))]; exact e3792
                  have e3807 : I3797 (ad g 38) 29 = v3782 := by rw [eI3797, pp_ne _ _ (Or.inl (ly_ne hy (by decide) (by decide) (by decide)))]; exact e3793
                  have e3808 : I3797 (ad g 46) 1 = v3796 := by rw [eI3797, pp_self]
                  have fI3809 : FC g [0, 6, 7, 8, 9, 10, 11, 12, 13, 14, 15, 16, 17, 18, 19, 20, 21, 22, 23, 24, 25, 26, 27, 28, 29, 30, 31, 32, 33, 34, 37, 38, 44, 46, 47] I I3797 := by rw [eI3797]; exact FC_pp fI3794 (by decide)
                  have fQ3810 : FQ g [1, 2, 3, 4, 5, 6, 7, 8, 9, 10, 11, 12, 13, 14, 15, 16, 17, 18, 19, 51, 68] I I3797 := by rw [eI3797]; exact FQ_ppn (ly_ne hy (by decide) (by decide) (by decide)) fQ3795
                  refine WP_aload_n dX11_town_310 rfl ?_
                  refine WP_getr dX11_town_311 fX11_313 rfl (ly_is hy 0 11 rfl) (rf hr 0 72 47 (by decide)) ?_
                  refine WP_iload_n dX11_town_314 rfl ?_
                  refine WQ_iconst (0) (0) dX11_town_315 rfl rfl (fun v3811 hv3811 => ?_)
                  refine WE_is dX11_town_316 (ly_is hy 47 13 rfl) (ly_n hy 47 4 rfl) (by omega) (by omega) (fun I3812 eI3812 => ?_)
                  rw [show v3777.toInt.toNat = 1 by omega] at eI3812
                  have e3813 : I3812 (ad g 0) 10 = w3500 := by rw [eI3812, pp_ne _ _ (Or.inl (ly_ne hy (by decide) (by decide) (by decide)))]; exact e3798
                  have e3814 : I3812 (ad g 0) 11 = w3501 := by rw [eI3812, pp_ne _ _ (Or.inl (ly_ne hy (by decide) (by decide) (by decide)))]; exact e3799
                  have e3815 : I3812 (ad g 0) 13 = w3502 := by rw [eI3812, pp_ne _ _ (Or.inl (ly_ne hy (by decide) (by decide) (by decide)))]; exact e3800
                  have e3816 : I3812 (ad g 0) 14 = w3503 := by rw [eI3812, pp_ne _ _ (Or.inl (ly_ne hy (by decide) (by decide) (by decide)))]; exact e3801
                  have e3817 : I3812 (ad g 0) 19 = w3504 := by rw [eI3812, pp_ne _ _ (Or.inl (ly_ne hy (by decide) (by decide) (by decide)))]; exact e3802
                  have e3818 : I3812 (ad g 0) 12 = w3504 := by rw [eI3812, pp_ne _ _ (Or.inl (ly_ne hy (by decide) (by decide) (by decide)))]; exact e3803
                  have e3819 : I3812 (ad g 38) 28 = v3741 := by rw [eI3812, pp_ne _ _ (Or.inl (ly_ne hy (by decide) (by decide) (by decide)))]; exact e3804
                  have e3820 : I3812 (ad g 46) 0 = v3752 := by rw [eI3812, pp_ne _ _ (Or.inl (ly_ne hy (by decide) (by decide) (by decide)))]; exact e3805
                  have e3821 : I3812 (ad g 47) 0 = v3764 := by rw [eI3812, pp_ne _ _ (Or.inr (by decide))]; exact e3806
                  have e3822 : I3812 (ad g 38) 29 = v3782 := by rw [eI3812, pp_ne _ _ (Or.inl (ly_ne hy (by decide) (by decide) (by decide)))]; exact e3807
                  have e3823 : I3812 (ad g 46) 1 = v3796 := by rw [eI3812, pp_ne _ _ (Or.inl (ly_ne hy (by decide) (by decide) (by decide)))]; exact e3808
                  have e3824 : I3812 (ad g 47) 1 = v3811 := by rw [eI3812, pp_self]
                  have fI3825 : FC g [0, 6, 7, 8, 9, 10, 11, 12, 13, 14, 15, 16, 17, 18, 19, 20, 21, 22, 23, 24, 25, 26, 27, 28, 29, 30, 31, 32, 33, 34, 37, 38, 44, 46, 47] I I3812 := by rw [eI3812]; exact FC_pp fI3809 (by decide)
                  have fQ3826 : FQ g [1, 2, 3, 4, 5, 6, 7, 8, 9, 10, 11, 12, 13, 14, 15, 16, 17, 18, 19, 51, 68] I I3812 := by rw [eI3812]; exact FQ_ppn (ly_ne hy (by decide) (by decide) (by decide)) fQ3810
                  refine WP_iinc (ls' := [(0, _), (1, _)]) dX11_town_317 rfl (by decide) rfl ?_
                  have hv3827 : (v3777 + Int32.ofInt (1)).toInt = v3777.toInt + (1) := ia_n rfl (by omega) (by omega)
                  generalize v3777 + Int32.ofInt (1) = v3827 at hv3827 ⊢
                  have kv3827 : v3827.toInt = 2 := by omega
                  clear hv3827; have hv3827 := kv3827; clear kv3827
                  refine WP_goto 288 dX11_town_320 rfl ?_
                  refine WP_iload_n dX11_town_288 rfl ?_
                  refine WQ_iconst (4) (4) dX11_town_289 rfl rfl (fun v3828 hv3828 => ?_)
                  refine WQ_icmp_ge 323 dX11_town_290 rfl (fun c3828 => False.elim (by omega)) (fun c3828 => ?_)
                  refine WP_aload_n dX11_town_293 rfl ?_
                  refine WP_getr dX11_town_294 fX11_283 rfl (ly_is hy 0 11 rfl) (rf hr 0 59 38 (by decide)) ?_
                  refine WQ_bipush (28) (28) dX11_town_297 rfl rfl (fun v3830 hv3830 => ?_)
                  refine WP_iload_n dX11_town_299 rfl ?_
                  refine WQ_iadd dX11_town_300 (by omega) (by omega) (fun v3831 hv3831 => ?_)
                  have kv3831 : v3831.toInt = 30 := by omega
                  clear hv3831; have hv3831 := kv3831; clear kv3831
                  refine WQ_iconst (1) (1) dX11_town_301 rfl rfl (fun v3832 hv3832 => ?_)
                  refine WE_is dX11_town_302 (ly_is hy 38 13 rfl) (ly_n hy 38 35 rfl) (by omega) (by omega) (fun I3833 eI3833 => ?_)
                  rw [show v3831.toInt.toNat = 30 by omega] at eI3833
                  have e3834 : I3833 (ad g 0) 10 = w3500 := by rw [eI3833, pp_ne _ _ (Or.inl (ly_ne hy (by decide) (by decide) (by decide)))]; exact e3813
                  have e3835 : I3833 (ad g 0) 11 = w3501 := by rw [eI3833, pp_ne _ _ (Or.inl (ly_ne hy (by decide) (by decide) (by decide)))]; exact e3814
                  have e3836 : I3833 (ad g 0) 13 = w3502 := by rw [eI3833, pp_ne _ _ (Or.inl (ly_ne hy (by decide) (by decide) (by decide)))]; exact e3815
                  have e3837 : I3833 (ad g 0) 14 = w3503 := by rw [eI3833, pp_ne _ _ (Or.inl (ly_ne hy (by decide) (by decide) (by decide)))]; exact e3816
                  have e3838 : I3833 (ad g 0) 19 = w3504 := by rw [eI3833, pp_ne _ _ (Or.inl (ly_ne hy (by decide) (by decide) (by decide)))]; exact e3817
                  have e3839 : I3833 (ad g 0) 12 = w3504 := by rw [eI3833, pp_ne _ _ (Or.inl (ly_ne hy (by decide) (by decide) (by decide)))]; exact e3818
                  have e3840 : I3833 (ad g 38) 28 = v3741 := by rw [eI3833, pp_ne _ _ (Or.inr (by decide))]; exact e3819
                  have e3841 : I3833 (ad g 46) 0 = v3752 := by rw [eI3833, pp_ne _ _ (Or.inl (ly_ne hy (by decide) (by decide) (by decide)))]; exact e3820
                  have e3842 : I3833 (ad g 47) 0 = v3764 := by rw [eI3833, pp_ne _ _ (Or.inl (ly_ne hy (by decide) (by decide) (by decide)))]; exact e3821
                  have e3843 : I3833 (ad g 38) 29 = v3782 := by rw [eI3833, pp_ne _ _ (Or.inr (by decide))]; exact e3822
                  have e3844 : I3833 (ad g 46) 1 = v3796 := by rw [eI3833, pp_ne _ _ (Or.inl (ly_ne hy (by decide) (by decide) (by decide)))]; exact e3823
                  have e3845 : I3833 (ad g 47) 1 = v3811 := by rw [eI3833, pp_ne _ _ (Or.inl (ly_ne hy (by decide) (by decide) (by decide)))]; exact e3824
                  have e3846 : I3833 (ad g 38) 30 = v3832 := by rw [eI3833, pp_self]
                  have fI3847 : FC g [0, 6, 7, 8, 9, 10, 11, 12, 13, 14, 15, 16, 17, 18, 19, 20, 21, 22, 23, 24, 25, 26, 27, 28, 29, 30, 31, 32, 33, 34, 37, 38, 44, 46, 47] I I3833 := by rw [eI3833]; exact FC_pp fI3825 (by decide)
                  have fQ3848 : FQ g [1, 2, 3, 4, 5, 6, 7, 8, 9, 10, 11, 12, 13, 14, 15, 16, 17, 18, 19, 51, 68] I I3833 := by rw [eI3833]; exact FQ_ppn (ly_ne hy (by decide) (by decide) (by decide)) fQ3826
                  refine WP_aload_n dX11_town_303 rfl ?_
                  refine WP_getr dX11_town_304 fX11_310 rfl (ly_is hy 0 11 rfl) (rf hr 0 71 46 (by decide)) ?_
                  refine WP_iload_n dX11_town_307 rfl ?_
                  refine WQ_iconst (0) (0) dX11_town_308 rfl rfl (fun v3849 hv3849 => ?_)
                  refine WE_is dX11_town_309 (ly_is hy 46 13 rfl) (ly_n hy 46 4 rfl) (by omega) (by omega) (fun I3850 eI3850 => ?_)
                  rw [show v3827.toInt.toNat = 2 by omega] at eI3850
                  have e3851 : I3850 (ad g 0) 10 = w3500 := by rw [eI3850, pp_ne _ _ (Or.inl (ly_ne hy (by decide) (by decide) (by decide)))]; exact e3834
                  have e3852 : I3850 (ad g 0) 11 = w3501 := by rw [eI3850, pp_ne _ _ (Or.inl (ly_ne hy (by decide) (by decide) (by decide)))]; exact e3835
                  have e3853 : I3850 (ad g 0) 13 = w3502 := by rw [eI3850, pp_ne _ _ (Or.inl (ly_ne hy (by decide) (by decide) (by decide)))]; exact e3836
                  have e3854 : I3850 (ad g 0) 14 = w3503 := by rw [eI3850, pp_ne _ _ (Or.inl (ly_ne hy (by decide) (by decide) (by decide)))]; exact e3837
                  have e3855 : I3850 (ad g 0) 19 = w3504 := by rw [eI3850, pp_ne _ _ (Or.inl (ly_ne hy (by decide) (by decide) (by decide)))]; exact e3838
                  have e3856 : I3850 (ad g 0) 12 = w3504 := by rw [eI3850, pp_ne _ _ (Or.inl (ly_ne hy (by decide) (by decide) (by decide)))]; exact e3839
                  have e3857 : I3850 (ad g 38) 28 = v3741 := by rw [eI3850, pp_ne _ _ (Or.inl (ly_ne hy (by decide) (by decide) (by decide)))]; exact e3840
                  have e3858 : I3850 (ad g 46) 0 = v3752 := by rw [eI3850, pp_ne _ _ (Or.inr (by decide))]; exact e3841
                  have e3859 : I3850 (ad g 47) 0 = v3764 := by rw [eI3850, pp_ne _ _ (Or.inl (ly_ne hy (by decide) (by decide) (by decide)))]; exact e3842
                  have e3860 : I3850 (ad g 38) 29 = v3782 := by rw [eI3850, pp_ne _ _ (Or.inl (ly_ne hy (by decide) (by decide) (by decide)))]; exact e3843
                  have e3861 : I3850 (ad g 46) 1 = v3796 := by rw [eI3850, pp_ne _ _ (Or.inr (by decide))]; exact e3844
                  have e3862 : I3850 (ad g 47) 1 = v3811 := by rw [eI3850, pp_ne _ _ (Or.inl (ly_ne hy (by decide) (by decide) (by decide)))]; exact e3845
                  have e3863 : I3850 (ad g 38) 30 = v3832 := by rw [eI3850, pp_ne _ _ (Or.inl (ly_ne hy (by decide) (by decide) (by decide)))]; exact e3846
                  have e3864 : I3850 (ad g 46) 2 = v3849 := by rw [eI3850, pp_self]
                  have fI3865 : FC g [0, 6, 7, 8, 9, 10, 11, 12, 13, 14, 15, 16, 17, 18, 19, 20, 21, 22, 23, 24, 25, 26, 27, 28, 29, 30, 31, 32, 33, 34, 37, 38, 44, 46, 47] I I3850 := by rw [eI3850]; exact FC_pp fI3847 (by decide)
                  have fQ3866 : FQ g [1, 2, 3, 4, 5, 6, 7, 8, 9, 10, 11, 12, 13, 14, 15, 16, 17, 18, 19, 51, 68] I I3850 := by rw [eI3850]; exact FQ_ppn (ly_ne hy (by decide) (by decide) (by decide)) fQ3848
                  refine WP_aload_n dX11_town_310 rfl ?_
                  refine WP_getr dX11_town_311 fX11_313 rfl (ly_is hy 0 11 rfl) (rf hr 0 72 47 (by decide)) ?_
                  refine WP_iload_n dX11_town_314 rfl ?_
                  refine WQ_iconst (0) (0) dX11_town_315 rfl rfl (fun v3867 hv3867 => ?_)
                  refine WE_is dX11_town_316 (ly_is hy 47 13 rfl) (ly_n hy 47 4 rfl) (by omega) (by omega) (fun I3868 eI3868 => ?_)
                  rw [show v3827.toInt.toNat = 2 by omega] at eI3868
                  have e3869 : I3868 (ad g 0) 10 = w3500 := by rw [eI3868, pp_ne _ _ (Or.inl (ly_ne hy (by decide) (by decide) (by decide)))]; exact e3851
                  have e3870 : I3868 (ad g 0) 11 = w3501 := by rw [eI3868, pp_ne _ _ (Or.inl (ly_ne hy (by decide) (by decide) (by decide)))]; exact e3852
                  have e3871 : I3868 (ad g 0) 13 = w3502 := by rw [eI3868, pp_ne _ _ (Or.inl (ly_ne hy (by decide) (by decide) (by decide)))]; exact e3853
                  have e3872 : I3868 (ad g 0) 14 = w3503 := by rw [eI3868, pp_ne _ _ (Or.inl (ly_ne hy (by decide) (by decide) (by decide)))]; exact e3854
                  have e3873 : I3868 (ad g 0) 19 = w3504 := by rw [eI3868, pp_ne _ _ (Or.inl (ly_ne hy (by decide) (by decide) (by decide)))]; exact e3855
                  have e3874 : I3868 (ad g 0) 12 = w3504 := by rw [eI3868, pp_ne _ _ (Or.inl (ly_ne hy (by decide) (by decide) (by decide)))]; exact e3856
                  have e3875 : I3868 (ad g 38) 28 = v3741 := by rw [eI3868, pp_ne _ _ (Or.inl (ly_ne hy (by decide) (by decide) (by decide)))]; exact e3857
                  have e3876 : I3868 (ad g 46) 0 = v3752 := by rw [eI3868, pp_ne _ _ (Or.inl (ly_ne hy (by decide) (by decide) (by decide)))]; exact e3858
                  have e3877 : I3868 (ad g 47) 0 = v3764 := by rw [eI3868, pp_ne _ _ (Or.inr (by decide))]; exact e3859
                  have e3878 : I3868 (ad g 38) 29 = v3782 := by rw [eI3868, pp_ne _ _ (Or.inl (ly_ne hy (by decide) (by decide) (by decide)))]; exact e3860
                  have e3879 : I3868 (ad g 46) 1 = v3796 := by rw [eI3868, pp_ne _ _ (Or.inl (ly_ne hy (by decide) (by decide) (by decide)))]; exact e3861
                  have e3880 : I3868 (ad g 47) 1 = v3811 := by rw [eI3868, pp_ne _ _ (Or.inr (by decide))]; exact e3862
                  have e3881 : I3868 (ad g 38) 30 = v3832 := by rw [eI3868, pp_ne _ _ (Or.inl (ly_ne hy (by decide) (by decide) (by decide)))]; exact e3863
                  have e3882 : I3868 (ad g 46) 2 = v3849 := by rw [eI3868, pp_ne _ _ (Or.inl (ly_ne hy (by decide) (by decide) (by decide)))]; exact e3864
                  have e3883 : I3868 (ad g 47) 2 = v3867 := by rw [eI3868, pp_self]
                  have fI3884 : FC g [0, 6, 7, 8, 9, 10, 11, 12, 13, 14, 15, 16, 17, 18, 19, 20, 21, 22, 23, 24, 25, 26, 27, 28, 29, 30, 31, 32, 33, 34, 37, 38, 44, 46, 47] I I3868 := by rw [eI3868]; exact FC_pp fI3865 (by decide)
                  have fQ3885 : FQ g [1, 2, 3, 4, 5, 6, 7, 8, 9, 10, 11, 12, 13, 14, 15, 16, 17, 18, 19, 51, 68] I I3868 := by rw [eI3868]; exact FQ_ppn (ly_ne hy (by decide) (by decide) (by decide)) fQ3866
                  refine WP_iinc (ls' := [(0, _), (1, _)]) dX11_town_317 rfl (by decide) rfl ?_
                  have hv3886 : (v3827 + Int32.ofInt (1)).toInt = v3827.toInt + (1) := ia_n rfl (by omega) (by omega)
                  generalize v3827 + Int32.ofInt (1) = v3886 at hv3886 ⊢
                  have kv3886 : v3886.toInt = 3 := by omega
                  clear hv3886; have hv3886 := kv3886; clear kv3886
                  refine WP_goto 288 dX11_town_320 rfl ?_
                  refine WP_iload_n dX11_town_288 rfl ?_
                  refine WQ_iconst (4) (4) dX11_town_289 rfl rfl (fun v3887 hv3887 => ?_)
                  refine WQ_icmp_ge 323 dX11_town_290 rfl (fun c3887 => False.elim (by omega)) (fun c3887 => ?_)
                  refine WP_aload_n dX11_town_293 rfl ?_
                  refine WP_getr dX11_town_294 fX11_283 rfl (ly_is hy 0 11 rfl) (rf hr 0 59 38 (by decide)) ?_
                  refine WQ_bipush (28) (28) dX11_town_297 rfl rfl (fun v3889 hv3889 => ?_)
                  refine WP_iload_n dX11_town_299 rfl ?_
                  refine WQ_iadd dX11_town_300 (by omega) (by omega) (fun v3890 hv3890 => ?_)
                  have kv3890 : v3890.toInt = 31 := by omega
                  clear hv3890; have hv3890 := kv3890; clear kv3890
                  refine WQ_iconst (1) (1) dX11_town_301 rfl rfl (fun v3891 hv3891 => ?_)
                  refine WE_is dX11_town_302 (ly_is hy 38 13 rfl) (ly_n hy 38 35 rfl) (by omega) (by omega) (fun I3892 eI3892 => ?_)
                  rw [show v3890.toInt.toNat = 31 by omega] at eI3892
                  have e3893 : I3892 (ad g 0) 10 = w3500 := by rw [eI3892, pp_ne _ _ (Or.inl (ly_ne hy (by decide) (by decide) (by decide)))]; exact e3869
                  have e3894 : I3892 (ad g 0) 11 = w3501 := by rw [eI3892, pp_ne _ _ (Or.inl (ly_ne hy (by decide) (by decide) (by decide)))]; exact e3870
                  have e3895 : I3892 (ad g 0) 13 = w3502 := by rw [eI3892, pp_ne _ _ (Or.inl (ly_ne hy (by decide) (by decide) (by decide)))]; exact e3871
                  have e3896 : I3892 (ad g 0) 14 = w3503 := by rw [eI3892, pp_ne _ _ (Or.inl (ly_ne hy (by decide) (by decide) (by decide)))]; exact e3872
                  have e3897 : I3892 (ad g 0) 19 = w3504 := by rw [eI3892, pp_ne _ _ (Or.inl (ly_ne hy (by decide) (by decide) (by decide)))]; exact e3873
                  have e3898 : I3892 (ad g 0) 12 = w3504 := by rw [eI3892, pp_ne _ _ (Or.inl (ly_ne hy (by decide) (by decide) (by decide)))]; exact e3874
                  have e3899 : I3892 (ad g 38) 28 = v3741 := by rw [eI3892, pp_ne _ _ (Or.inr (by decide))]; exact e3875
                  have e3900 : I3892 (ad g 46) 0 = v3752 := by rw [eI3892, pp_ne _ _ (Or.inl (ly_ne hy (by decide) (by decide) (by decide)))]; exact e3876
                  have e3901 : I3892 (ad g 47) 0 = v3764 := by rw [eI3892, pp_ne _ _ (Or.inl (ly_ne hy (by decide) (by decide) (by decide)))]; exact e3877
                  have e3902 : I3892 (ad g 38) 29 = v3782 := by rw [eI3892, pp_ne _ _ (Or.inr (by decide))]; exact e3878
                  have e3903 : I3892 (ad g 46) 1 = v3796 := by rw [eI3892, pp_ne _ _ (Or.inl (ly_ne hy (by decide) (by decide) (by decide)))]; exact e3879
                  have e3904 : I3892 (ad g 47) 1 = v3811 := by rw [eI3892, pp_ne _ _ (Or.inl (ly_ne hy (by decide) (by decide) (by decide)))]; exact e3880
                  have e3905 : I3892 (ad g 38) 30 = v3832 := by rw [eI3892, pp_ne _ _ (Or.inr (by decide))]; exact e3881
                  have e3906 : I3892 (ad g 46) 2 = v3849 := by rw [eI3892, pp_ne _ _ (Or.inl (ly_ne hy (by decide) (by decide) (by decide)))]; exact e3882
                  have e3907 : I3892 (ad g 47) 2 = v3867 := by rw [eI3892, pp_ne _ _ (Or.inl (ly_ne hy (by decide) (by decide) (by decide)))]; exact e3883
                  have e3908 : I3892 (ad g 38) 31 = v3891 := by rw [eI3892, pp_self]
                  have fI3909 : FC g [0, 6, 7, 8, 9, 10, 11, 12, 13, 14, 15, 16, 17, 18, 19, 20, 21, 22, 23, 24, 25, 26, 27, 28, 29, 30, 31, 32, 33, 34, 37, 38, 44, 46, 47] I I3892 := by rw [eI3892]; exact FC_pp fI3884 (by decide)
                  have fQ3910 : FQ g [1, 2, 3, 4, 5, 6, 7, 8, 9, 10, 11, 12, 13, 14, 15, 16, 17, 18, 19, 51, 68] I I3892 := by rw [eI3892]; exact FQ_ppn (ly_ne hy (by decide) (by decide) (by decide)) fQ3885
                  refine WP_aload_n dX11_town_303 rfl ?_
                  refine WP_getr dX11_town_304 fX11_310 rfl (ly_is hy 0 11 rfl) (rf hr 0 71 46 (by decide)) ?_
                  refine WP_iload_n dX11_town_307 rfl ?_
                  refine WQ_iconst (0) (0) dX11_town_308 rfl rfl (fun v3911 hv3911 => ?_)
                  refine WE_is dX11_town_309 (ly_is hy 46 13 rfl) (ly_n hy 46 4 rfl) (by omega) (by omega) (fun I3912 eI3912 => ?_)
                  rw [show v3886.toInt.toNat = 3 by omega] at eI3912
                  have e3913 : I3912 (ad g 0) 10 = w3500 := by rw [eI3912, pp_ne _ _ (Or.inl (ly_ne hy (by decide) (by decide) (by decide)))]; exact e3893
                  have e3914 : I3912 (ad g 0) 11 = w3501 := by rw [eI3912, pp_ne _ _ (Or.inl (ly_ne hy (by decide) (by decide) (by decide)))]; exact e3894
                  have e3915 : I3912 (ad g 0) 13 = w3502 := by rw [eI3912, pp_ne _ _ (Or.inl (ly_ne hy (by decide) (by decide) (by decide)))]; exact e3895
                  have e3916 : I3912 (ad g 0) 14 = w3503 := by rw [eI3912, pp_ne _ _ (Or.inl (ly_ne hy (by decide) (by decide) (by decide)))]; exact e3896
                  have e3917 : I3912 (ad g 0) 19 = w3504 := by rw [eI3912, pp_ne _ _ (Or.inl (ly_ne hy (by decide) (by decide) (by decide)))]; exact e3897
                  have e3918 : I3912 (ad g 0) 12 = w3504 := by rw [eI3912, pp_ne _ _ (Or.inl (ly_ne hy (by decide) (by decide) (by decide)))]; exact e3898
                  have e3919 : I3912 (ad g 38) 28 = v3741 := by rw [eI3912, pp_ne _ _ (Or.inl (ly_ne hy (by decide) (by decide) (by decide)))]; exact e3899
                  have e3920 : I3912 (ad g 46) 0 = v3752 := by rw [eI3912, pp_ne _ _ (Or.inr (by decide))]; exact e3900
                  have e3921 : I3912 (ad g 47) 0 = v3764 := by rw [eI3912, pp_ne _ _ (Or.inl (ly_ne hy (by decide) (by decide) (by decide)))]; exact e3901
                  have e3922 : I3912 (ad g 38) 29 = v3782 := by rw [eI3912, pp_ne _ _ (Or.inl (ly_ne hy (by decide) (by decide) (by decide)))]; exact e3902
                  have e3923 : I3912 (ad g 46) 1 = v3796 := by rw [eI3912, pp_ne _ _ (Or.inr (by decide))]; exact e3903
                  have e3924 : I3912 (ad g 47) 1 = v3811 := by rw [eI3912, pp_ne _ _ (Or.inl (ly_ne hy (by decide) (by decide) (by decide)))]; exact e3904
                  have e3925 : I3912 (ad g 38) 30 = v3832 := by rw [eI3912, pp_ne _ _ (Or.inl (ly_ne hy (by decide) (by decide) (by decide)))]; exact e3905
                  have e3926 : I3912 (ad g 46) 2 = v3849 := by rw [eI3912, pp_ne _ _ (Or.inr (by decide))]; exact e3906
                  have e3927 : I3912 (ad g 47) 2 = v3867 := by rw [eI3912, pp_ne _ _ (Or.inl (ly_ne hy (by decide) (by decide) (by decide)))]; exact e3907
                  have e3928 : I3912 (ad g 38) 31 = v3891 := by rw [eI3912, pp_ne _ _ (Or.inl (ly_ne hy (by decide) (by decide) (by decide)))]; exact e3908
                  have e3929 : I3912 (ad g 46) 3 = v3911 := by rw [eI3912, pp_self]
                  have fI3930 : FC g [0, 6, 7, 8, 9, 10, 11, 12, 13, 14, 15, 16, 17, 18, 19, 20, 21, 22, 23, 24, 25, 26, 27, 28, 29, 30, 31, 32, 33, 34, 37, 38, 44, 46, 47] I I3912 := by rw [eI3912]; exact FC_pp fI3909 (by decide)
                  have fQ3931 : FQ g [1, 2, 3, 4, 5, 6, 7, 8, 9, 10, 11, 12, 13, 14, 15, 16, 17, 18, 19, 51, 68] I I3912 := by rw [eI3912]; exact FQ_ppn (ly_ne hy (by decide) (by decide) (by decide)) fQ3910
                  refine WP_aload_n dX11_town_310 rfl ?_
                  refine WP_getr dX11_town_311 fX11_313 rfl (ly_is hy 0 11 rfl) (rf hr 0 72 47 (by decide)) ?_
                  refine WP_iload_n dX11_town_314 rfl ?_
                  refine WQ_iconst (0) (0) dX11_town_315 rfl rfl (fun v3932 hv3932 => ?_)
                  refine WE_is dX11_town_316 (ly_is hy 47 13 rfl) (ly_n hy 47 4 rfl) (by omega) (by omega) (fun I3933 eI3933 => ?_)
                  rw [show v3886.toInt.toNat = 3 by omega] at eI3933
                  have e3934 : I3933 (ad g 0) 10 = w3500 := by rw [eI3933, pp_ne _ _ (Or.inl (ly_ne hy (by decide) (by decide) (by decide)))]; exact e3913
                  have e3935 : I3933 (ad g 0) 11 = w3501 := by rw [eI3933, pp_ne _ _ (Or.inl (ly_ne hy (by decide) (by decide) (by decide)))]; exact e3914
                  have e3936 : I3933 (ad g 0) 13 = w3502 := by rw [eI3933, pp_ne _ _ (Or.inl (ly_ne hy (by decide) (by decide) (by decide)))]; exact e3915
                  have e3937 : I3933 (ad g 0) 14 = w3503 := by rw [eI3933, pp_ne _ _ (Or.inl (ly_ne hy (by decide) (by decide) (by decide)))]; exact e3916
                  have e3938 : I3933 (ad g 0) 19 = w3504 := by rw [eI3933, pp_ne _ _ (Or.inl (ly_ne hy (by decide) (by decide) (by decide)))]; exact e3917
                  have e3939 : I3933 (ad g 0) 12 = w3504 := by rw [eI3933, pp_ne _ _ (Or.inl (ly_ne hy (by decide) (by decide) (by decide)))]; exact e3918
                  have e3940 : I3933 (ad g 38) 28 = v3741 := by rw [eI3933, pp_ne _ _ (Or.inl (ly_ne hy (by decide) (by decide) (by decide)))]; exact e3919
                  have e3941 : I3933 (ad g 46) 0 = v3752 := by rw [eI3933, pp_ne _ _ (Or.inl (ly_ne hy (by decide) (by decide) (by decide)))]; exact e3920
                  have e3942 : I3933 (ad g 47) 0 = v3764 := by rw [eI3933, pp_ne _ _ (Or.inr (by decide))]; exact e3921
                  have e3943 : I3933 (ad g 38) 29 = v3782 := by rw [eI3933, pp_ne _ _ (Or.inl (ly_ne hy (by decide) (by decide) (by decide)))]; exact e3922
                  have e3944 : I3933 (ad g 46) 1 = v3796 := by rw [eI3933, pp_ne _ _ (Or.inl (ly_ne hy (by decide) (by decide) (by decide)))]; exact e3923
                  have e3945 : I3933 (ad g 47) 1 = v3811 := by rw [eI3933, pp_ne _ _ (Or.inr (by decide))]; exact e3924
                  have e3946 : I3933 (ad g 38) 30 = v3832 := by rw [eI3933, pp_ne _ _ (Or.inl (ly_ne hy (by decide) (by decide) (by decide)))]; exact e3925
                  have e3947 : I3933 (ad g 46) 2 = v3849 := by rw [eI3933, pp_ne _ _ (Or.inl (ly_ne hy (by decide) (by decide) (by decide)))]; exact e3926
                  have e3948 : I3933 (ad g 47) 2 = v3867 := by rw [eI3933, pp_ne _ _ (Or.inr (by decide))]; exact e3927
                  have e3949 : I3933 (ad g 38) 31 = v3891 := by rw [eI3933, pp_ne _ _ (Or.inl (ly_ne hy (by decide) (by decide) (by decide)))]; exact e3928
                  have e3950 : I3933 (ad g 46) 3 = v3911 := by rw [eI3933, pp_ne _ _ (Or.inl (ly_ne hy (by decide) (by decide) (by decide)))]; exact e3929
                  have e3951 : I3933 (ad g 47) 3 = v3932 := by rw [eI3933, pp_self]
                  have fI3952 : FC g [0, 6, 7, 8, 9, 10, 11, 12, 13, 14, 15, 16, 17, 18, 19, 20, 21, 22, 23, 24, 25, 26, 27, 28, 29, 30, 31, 32, 33, 34, 37, 38, 44, 46, 47] I I3933 := by rw [eI3933]; exact FC_pp fI3930 (by decide)
                  have fQ3953 : FQ g [1, 2, 3, 4, 5, 6, 7, 8, 9, 10, 11, 12, 13, 14, 15, 16, 17, 18, 19, 51, 68] I I3933 := by rw [eI3933]; exact FQ_ppn (ly_ne hy (by decide) (by decide) (by decide)) fQ3931
                  refine WP_iinc (ls' := [(0, _), (1, _)]) dX11_town_317 rfl (by decide) rfl ?_
                  have hv3954 : (v3886 + Int32.ofInt (1)).toInt = v3886.toInt + (1) := ia_n rfl (by omega) (by omega)
                  generalize v3886 + Int32.ofInt (1) = v3954 at hv3954 ⊢
                  have kv3954 : v3954.toInt = 4 := by omega
                  clear hv3954; have hv3954 := kv3954; clear kv3954
                  refine WP_goto 288 dX11_town_320 rfl ?_
                  refine WP_iload_n dX11_town_288 rfl ?_
                  refine WQ_iconst (4) (4) dX11_town_289 rfl rfl (fun v3955 hv3955 => ?_)
                  refine WQ_icmp_ge 323 dX11_town_290 rfl (fun c3955 => ?_) (fun c3955 => False.elim (by omega))
                  have d10b : ∀ q, q < 4 → I3933 (ad g 10) q = I3430 (ad g 16) q := fun q hq => by rw [eI3933, pp_off _ _ (ly_ne hy (by decide) (by decide) (by decide)), eI3912, pp_off _ _ (ly_ne hy (by decide) (by decide) (by decide)), eI3892, pp_off _ _ (ly_ne hy (by decide) (by decide) (by decide)), eI3868, pp_off _ _ (ly_ne hy (by decide) (by decide) (by decide)), eI3850, pp_off _ _ (ly_ne hy (by decide) (by decide) (by decide)), eI3833, pp_off _ _ (ly_ne hy (by decide) (by decide) (by decide)), eI3812, pp_off _ _ (ly_ne hy (by decide) (by decide) (by decide)), eI3797, pp_off _ _ (ly_ne hy (by decide) (by decide) (by decide)), eI3783, pp_off _ _ (ly_ne hy (by decide) (by decide) (by decide)), eI3765, pp_off _ _ (ly_ne hy (by decide) (by decide) (by decide)), eI3753, pp_off _ _ (ly_ne hy (by decide) (by decide) (by decide)), eI3742, pp_off _ _ (ly_ne hy (by decide) (by decide) (by decide)), FC_at hy g3724 10 (by decide) (by decide), FC_at hy g3709 10 (by decide) (by decide), FC_at hy g3694 10 (by decide) (by decide), FC_at hy g3679 10 (by decide) (by decide), FC_at hy g3664 10 (by decide) (by decide), FC_at hy g3649 10 (by decide) (by decide), FC_at hy g3634 10 (by decide) (by decide), FC_at hy g3619 10 (by decide) (by decide), FC_at hy g3604 10 (by decide) (by decide), FC_at hy g3589 10 (by decide) (by decide)]; exact d10 q hq
                  refine WP_aload_n dX11_town_323 rfl ?_
                  refine WP_aload_n dX11_town_324 rfl ?_
                  refine WP_getr dX11_town_325 fX11_283 rfl (ly_is hy 0 11 rfl) (rf hr 0 59 38 (by decide)) ?_
                  refine WP_callV1 (k := 11) dX11_town_328 ⟨⟨⟨by decide, by decide⟩, zX11_begin⟩, lX11_342, by decide, rfl, vX11_begin.1, vX11_begin.2⟩ (ly_is hy 0 11 rfl) (em_begin38 hy hr   (mm := S2.1 0 1) (by rw [e3934]; omega) ⟨hb1, hb2⟩) (Nat.le_of_ble_eq_true rfl) ?_
                  intro r I3958 J3959 Ra hq
                  obtain ⟨ec, g3960, g3961, g3962, er, p3957⟩ := hq
                  rw [ec, er]
                  clear ec er Ra r
                  have e3963 : I3958 (ad g 0) 10 = w3500 := by rw [FC_at hy g3960 0 (by decide) (by decide)]; exact e3934
                  have e3964 : I3958 (ad g 0) 11 = w3501 := by rw [FC_at hy g3960 0 (by decide) (by decide)]; exact e3935
                  have e3965 : I3958 (ad g 0) 13 = w3502 := by rw [FC_at hy g3960 0 (by decide) (by decide)]; exact e3936
                  have e3966 : I3958 (ad g 0) 14 = w3503 := by rw [FC_at hy g3960 0 (by decide) (by decide)]; exact e3937
                  have e3967 : I3958 (ad g 0) 19 = w3504 := by rw [FC_at hy g3960 0 (by decide) (by decide)]; exact e3938
                  have e3968 : I3958 (ad g 0) 12 = w3504 := by rw [FC_at hy g3960 0 (by decide) (by decide)]; exact e3939
                  have e3969 : I3958 (ad g 46) 0 = v3752 := by rw [FC_at hy g3960 46 (by decide) (by decide)]; exact e3941
                  have e3970 : I3958 (ad g 47) 0 = v3764 := by rw [FC_at hy g3960 47 (by decide) (by decide)]; exact e3942
                  have e3971 : I3958 (ad g 46) 1 = v3796 := by rw [FC_at hy g3960 46 (by decide) (by decide)]; exact e3944
                  have e3972 : I3958 (ad g 47) 1 = v3811 := by rw [FC_at hy g3960 47 (by decide) (by decide)]; exact e3945
                  have e3973 : I3958 (ad g 46) 2 = v3849 := by rw [FC_at hy g3960 46 (by decide) (by decide)]; exact e3947
                  have e3974 : I3958 (ad g 47) 2 = v3867 := by rw [FC_at hy g3960 47 (by decide) (by decide)]; exact e3948
                  have e3975 : I3958 (ad g 46) 3 = v3911 := by rw [FC_at hy g3960 46 (by decide) (by decide)]; exact e3950
                  have e3976 : I3958 (ad g 47) 3 = v3932 := by rw [FC_at hy g3960 47 (by decide) (by decide)]; exact e3951
                  have fI3977 : FC g [0, 6, 7, 8, 9, 10, 11, 12, 13, 14, 15, 16, 17, 18, 19, 20, 21, 22, 23, 24, 25, 26, 27, 28, 29, 30, 31, 32, 33, 34, 37, 38, 44, 46, 47] I I3958 := FC_tr fI3952 (FC_mono g3960 (by decide))
                  have fJ3978 : FC g [0, 2, 3, 4, 5] J J3959 := FC_tr fJ3734 (FC_mono g3961 (by decide))
                  have fQ3979 : FQ g [1, 2, 3, 4, 5, 6, 7, 8, 9, 10, 11, 12, 13, 14, 15, 16, 17, 18, 19, 51, 68] I I3958 := FQ_tr fQ3953 (FQ_mono g3962 (by decide))
                  try simp only [e3963, e3964, e3965, e3966, e3967] at p3957
                  refine WP_aload_n dX11_town_331 rfl ?_
                  refine WP_lconst (0) dX11_town_332 rfl ?_
                  obtain ⟨l3980, hl3980, el3980⟩ : ∃ v : Int64, v.toInt = 0 ∧ (0 : Int64) = v := ⟨_, rfl, rfl⟩
                  rw [el3980]
                  refine WQ_putl dX11_town_333 fX11_346 rfl rfl (ly_is hy 0 11 rfl) (fun J3981 eJ3981 => ?_)
                  have e3982 : J3981 (ad g 0) 61 = l3980 := by rw [eJ3981, pp_self]
                  have fJ3983 : FC g [0, 2, 3, 4, 5] J J3981 := by rw [eJ3981]; exact FC_pp fJ3978 (by decide)
                  refine WP_aload_n dX11_town_336 rfl ?_
                  refine WP_callV0 (k := 11) dX11_town_337 ⟨⟨⟨by decide, by decide⟩, zX11_forgetWeeks⟩, lX11_350, by decide, rfl, vX11_forgetWeeks.1, vX11_forgetWeeks.2⟩ (ly_is hy 0 11 rfl) (em_forgetWeeks hy hr   ) (Nat.le_of_ble_eq_true rfl) ?_
                  intro r I3985 J3986 Ra hq
                  obtain ⟨ec, g3987, g3988, g3989, er, p3984⟩ := hq
                  rw [ec, er]
                  clear ec er Ra r
                  have e3990 : I3985 (ad g 0) 10 = w3500 := by rw [FC_at hy g3987 0 (by decide) (by decide)]; exact e3963
                  have e3991 : I3985 (ad g 0) 11 = w3501 := by rw [FC_at hy g3987 0 (by decide) (by decide)]; exact e3964
                  have e3992 : I3985 (ad g 0) 13 = w3502 := by rw [FC_at hy g3987 0 (by decide) (by decide)]; exact e3965
                  have e3993 : I3985 (ad g 0) 14 = w3503 := by rw [FC_at hy g3987 0 (by decide) (by decide)]; exact e3966
                  have e3994 : I3985 (ad g 0) 19 = w3504 := by rw [FC_at hy g3987 0 (by decide) (by decide)]; exact e3967
                  have e3995 : I3985 (ad g 0) 12 = w3504 := by rw [FC_at hy g3987 0 (by decide) (by decide)]; exact e3968
                  have e3996 : I3985 (ad g 46) 0 = v3752 := by rw [FC_at hy g3987 46 (by decide) (by decide)]; exact e3969
                  have e3997 : I3985 (ad g 47) 0 = v3764 := by rw [FC_at hy g3987 47 (by decide) (by decide)]; exact e3970
                  have e3998 : I3985 (ad g 46) 1 = v3796 := by rw [FC_at hy g3987 46 (by decide) (by decide)]; exact e3971
                  have e3999 : I3985 (ad g 47) 1 = v3811 := by rw [FC_at hy g3987 47 (by decide) (by decide)]; exact e3972
                  have e4000 : I3985 (ad g 46) 2 = v3849 := by rw [FC_at hy g3987 46 (by decide) (by decide)]; exact e3973
                  have e4001 : I3985 (ad g 47) 2 = v3867 := by rw [FC_at hy g3987 47 (by decide) (by decide)]; exact e3974
                  have e4002 : I3985 (ad g 46) 3 = v3911 := by rw [FC_at hy g3987 46 (by decide) (by decide)]; exact e3975
                  have e4003 : I3985 (ad g 47) 3 = v3932 := by rw [FC_at hy g3987 47 (by decide) (by decide)]; exact e3976
                  have e4004 : J3986 (ad g 0) 61 = l3980 := by rw [FC_at hy g3988 0 (by decide) (by decide)]; exact e3982
                  have fI4005 : FC g [0, 6, 7, 8, 9, 10, 11, 12, 13, 14, 15, 16, 17, 18, 19, 20, 21, 22, 23, 24, 25, 26, 27, 28, 29, 30, 31, 32, 33, 34, 37, 38, 44, 46, 47] I I3985 := FC_tr fI3977 (FC_mono g3987 (by decide))
                  have fJ4006 : FC g [0, 2, 3, 4, 5] J J3986 := FC_tr fJ3983 (FC_mono g3988 (by decide))
                  have fQ4007 : FQ g [1, 2, 3, 4, 5, 6, 7, 8, 9, 10, 11, 12, 13, 14, 15, 16, 17, 18, 19, 51, 68] I I3985 := FQ_tr fQ3979 (FQ_mono g3989 (by decide))
                  try simp only [e3990, e3991, e3992, e3993, e3994] at p3984
                  refine WQ_iconst (0) (0) dX11_town_340 rfl rfl (fun v4008 hv4008 => ?_)
                  refine WP_istore_n (ls' := [(0, _), (1, _)]) dX11_town_341 (by decide) rfl ?_
                  refine WP_iload_n dX11_town_342 rfl ?_
                  refine WQ_iconst (3) (3) dX11_town_343 rfl rfl (fun v4009 hv4009 => ?_)
                  refine WQ_icmp_ge 360 dX11_town_344 rfl (fun c4009 => False.elim (by omega)) (fun c4009 => ?_)
                  refine WP_aload_n dX11_town_347 rfl ?_
                  refine WP_getr dX11_town_348 fX11_301 rfl (ly_is hy 0 11 rfl) (rf hr 0 67 44 (by decide)) ?_
                  refine WP_iload_n dX11_town_351 rfl ?_
                  refine WQ_iconst (0) (0) dX11_town_352 rfl rfl (fun v4011 hv4011 => ?_)
                  refine WE_zs dX11_town_353 (ly_is hy 44 15 rfl) (ly_n hy 44 3 rfl) (by omega) (by omega) (fun I4012 eI4012 => ?_)
                  rw [show v4008.toInt.toNat = 0 by omega] at eI4012
                  have e4013 : I4012 (ad g 0) 10 = w3500 := by rw [eI4012, pp_ne _ _ (Or.inl (ly_ne hy (by decide) (by decide) (by decide)))]; exact e3990
                  have e4014 : I4012 (ad g 0) 11 = w3501 := by rw [eI4012, pp_ne _ _ (Or.inl (ly_ne hy (by decide) (by decide) (by decide)))]; exact e3991
                  have e4015 : I4012 (ad g 0) 13 = w3502 := by rw [eI4012, pp_ne _ _ (Or.inl (ly_ne hy (by decide) (by decide) (by decide)))]; exact e3992
                  have e4016 : I4012 (ad g 0) 14 = w3503 := by rw [eI4012, pp_ne _ _ (Or.inl (ly_ne hy (by decide) (by decide) (by decide)))]; exact e3993
                  have e4017 : I4012 (ad g 0) 19 = w3504 := by rw [eI4012, pp_ne _ _ (Or.inl (ly_ne hy (by decide) (by decide) (by decide)))]; exact e3994
                  have e4018 : I4012 (ad g 0) 12 = w3504 := by rw [eI4012, pp_ne _ _ (Or.inl (ly_ne hy (by decide) (by decide) (by decide)))]; exact e3995
                  have e4019 : I4012 (ad g 46) 0 = v3752 := by rw [eI4012, pp_ne _ _ (Or.inl (ly_ne hy (by decide) (by decide) (by decide)))]; exact e3996
                  have e4020 : I4012 (ad g 47) 0 = v3764 := by rw [eI4012, pp_ne _ _ (Or.inl (ly_ne hy (by decide) (by decide) (by decide)))]; exact e3997
                  have e4021 : I4012 (ad g 46) 1 = v3796 := by rw [eI4012, pp_ne _ _ (Or.inl (ly_ne hy (by decide) (by decide) (by decide)))]; exact e3998
                  have e4022 : I4012 (ad g 47) 1 = v3811 := by rw [eI4012, pp_ne _ _ (Or.inl (ly_ne hy (by decide) (by decide) (by decide)))]; exact e3999
                  have e4023 : I4012 (ad g 46) 2 = v3849 := by rw [eI4012, pp_ne _ _ (Or.inl (ly_ne hy (by decide) (by decide) (by decide)))]; exact e4000
                  have e4024 : I4012 (ad g 47) 2 = v3867 := by rw [eI4012, pp_ne _ _ (Or.inl (ly_ne hy (by decide) (by decide) (by decide)))]; exact e4001
                  have e4025 : I4012 (ad g 46) 3 = v3911 := by rw [eI4012, pp_ne _ _ (Or.inl (ly_ne hy (by decide) (by decide) (by decide)))]; exact e4002
                  have e4026 : I4012 (ad g 47) 3 = v3932 := by rw [eI4012, pp_ne _ _ (Or.inl (ly_ne hy (by decide) (by decide) (by decide)))]; exact e4003
                  have e4027 : I4012 (ad g 44) 0 = (vp_nar .boolean v4011) := by rw [eI4012, pp_self]
                  have fI4028 : FC g [0, 6, 7, 8, 9, 10, 11, 12, 13, 14, 15, 16, 17, 18, 19, 20, 21, 22, 23, 24, 25, 26, 27, 28, 29, 30, 31, 32, 33, 34, 37, 38, 44, 46, 47] I I4012 := by rw [eI4012]; exact FC_pp fI4005 (by decide)
                  have fQ4029 : FQ g [1, 2, 3, 4, 5, 6, 7, 8, 9, 10, 11, 12, 13, 14, 15, 16, 17, 18, 19, 51, 68] I I4012 := by rw [eI4012]; exact FQ_ppn (ly_ne hy (by decide) (by decide) (by decide)) fQ4007
                  refine WP_iinc (ls' := [(0, _), (1, _)]) dX11_town_354 rfl (by decide) rfl ?_
                  have hv4030 : (v4008 + Int32.ofInt (1)).toInt = v4008.toInt + (1) := ia_n rfl (by omega) (by omega)
                  generalize v4008 + Int32.ofInt (1) = v4030 at hv4030 ⊢
                  have kv4030 : v4030.toInt = 1 := by omega
                  clear hv4030; have hv4030 := kv4030; clear kv4030
                  refine WP_goto 342 dX11_town_357 rfl ?_
                  refine WP_iload_n dX11_town_342 rfl ?_
                  refine WQ_iconst (3) (3) dX11_town_343 rfl rfl (fun v4031 hv4031 => ?_)
                  refine WQ_icmp_ge 360 dX11_town_344 rfl (fun c4031 => False.elim (by omega)) (fun c4031 => ?_)
                  refine WP_aload_n dX11_town_347 rfl ?_
                  refine WP_getr dX11_town_348 fX11_301 rfl (ly_is hy 0 11 rfl) (rf hr 0 67 44 (by decide)) ?_
                  refine WP_iload_n dX11_town_351 rfl ?_
                  refine WQ_iconst (0) (0) dX11_town_352 rfl rfl (fun v4033 hv4033 => ?_)
                  refine WE_zs dX11_town_353 (ly_is hy 44 15 rfl) (ly_n hy 44 3 rfl) (by omega) (by omega) (fun I4034 eI4034 => ?_)
                  rw [show v4030.toInt.toNat = 1 by omega] at eI4034
                  have e4035 : I4034 (ad g 0) 10 = w3500 := by rw [eI4034, pp_ne _ _ (Or.inl (ly_ne hy (by decide) (by decide) (by decide)))]; exact e4013
                  have e4036 : I4034 (ad g 0) 11 = w3501 := by rw [eI4034, pp_ne _ _ (Or.inl (ly_ne hy (by decide) (by decide) (by decide)))]; exact e4014
                  have e4037 : I4034 (ad g 0) 13 = w3502 := by rw [eI4034, pp_ne _ _ (Or.inl (ly_ne hy (by decide) (by decide) (by decide)))]; exact e4015
                  have e4038 : I4034 (ad g 0) 14 = w3503 := by rw [eI4034, pp_ne _ _ (Or.inl (ly_ne hy (by decide) (by decide) (by decide)))]; exact e4016
                  have e4039 : I4034 (ad g 0) 19 = w3504 := by rw [eI4034, pp_ne _ _ (Or.inl (ly_ne hy (by decide) (by decide) (by decide)))]; exact e4017
                  have e4040 : I4034 (ad g 0) 12 = w3504 := by rw [eI4034, pp_ne _ _ (Or.inl (ly_ne hy (by decide) (by decide) (by decide)))]; exact e4018
                  have e4041 : I4034 (ad g 46) 0 = v3752 := by rw [eI4034, pp_ne _ _ (Or.inl (ly_ne hy (by decide) (by decide) (by decide)))]; exact e4019
                  have e4042 : I4034 (ad g 47) 0 = v3764 := by rw [eI4034, pp_ne _ _ (Or.inl (ly_ne hy (by decide) (by decide) (by decide)))]; exact e4020
                  have e4043 : I4034 (ad g 46) 1 = v3796 := by rw [eI4034, pp_ne _ _ (Or.inl (ly_ne hy (by decide) (by decide) (by decide)))]; exact e4021
                  have e4044 : I4034 (ad g 47) 1 = v3811 := by rw [eI4034, pp_ne _ _ (Or.inl (ly_ne hy (by decide) (by decide) (by decide)))]; exact e4022
                  have e4045 : I4034 (ad g 46) 2 = v3849 := by rw [eI4034, pp_ne _ _ (Or.inl (ly_ne hy (by decide) (by decide) (by decide)))]; exact e4023
                  have e4046 : I4034 (ad g 47) 2 = v3867 := by rw [eI4034, pp_ne _ _ (Or.inl (ly_ne hy (by decide) (by decide) (by decide)))]; exact e4024
                  have e4047 : I4034 (ad g 46) 3 = v3911 := by rw [eI4034, pp_ne _ _ (Or.inl (ly_ne hy (by decide) (by decide) (by decide)))]; exact e4025
                  have e4048 : I4034 (ad g 47) 3 = v3932 := by rw [eI4034, pp_ne _ _ (Or.inl (ly_ne hy (by decide) (by decide) (by decide)))]; exact e4026
                  have e4049 : I4034 (ad g 44) 0 = (vp_nar .boolean v4011) := by rw [eI4034, pp_ne _ _ (Or.inr (by decide))]; exact e4027
                  have e4050 : I4034 (ad g 44) 1 = (vp_nar .boolean v4033) := by rw [eI4034, pp_self]
                  have fI4051 : FC g [0, 6, 7, 8, 9, 10, 11, 12, 13, 14, 15, 16, 17, 18, 19, 20, 21, 22, 23, 24, 25, 26, 27, 28, 29, 30, 31, 32, 33, 34, 37, 38, 44, 46, 47] I I4034 := by rw [eI4034]; exact FC_pp fI4028 (by decide)
                  have fQ4052 : FQ g [1, 2, 3, 4, 5, 6, 7, 8, 9, 10, 11, 12, 13, 14, 15, 16, 17, 18, 19, 51, 68] I I4034 := by rw [eI4034]; exact FQ_ppn (ly_ne hy (by decide) (by decide) (by decide)) fQ4029
                  refine WP_iinc (ls' := [(0, _), (1, _)]) dX11_town_354 rfl (by decide) rfl ?_
                  have hv4053 : (v4030 + Int32.ofInt (1)).toInt = v4030.toInt + (1) := ia_n rfl (by omega) (by omega)
                  generalize v4030 + Int32.ofInt (1) = v4053 at hv4053 ⊢
                  have kv4053 : v4053.toInt = 2 := by omega
                  clear hv4053; have hv4053 := kv4053; clear kv4053
                  refine WP_goto 342 dX11_town_357 rfl ?_
                  refine WP_iload_n dX11_town_342 rfl ?_
                  refine WQ_iconst (3) (3) dX11_town_343 rfl rfl (fun v4054 hv4054 => ?_)
                  refine WQ_icmp_ge 360 dX11_town_344 rfl (fun c4054 => False.elim (by omega)) (fun c4054 => ?_)
                  refine WP_aload_n dX11_town_347 rfl ?_
                  refine WP_getr dX11_town_348 fX11_301 rfl (ly_is hy 0 11 rfl) (rf hr 0 67 44 (by decide)) ?_
                  refine WP_iload_n dX11_town_351 rfl ?_
                  refine WQ_iconst (0) (0) dX11_town_352 rfl rfl (fun v4056 hv4056 => ?_)
                  refine WE_zs dX11_town_353 (ly_is hy 44 15 rfl) (ly_n hy 44 3 rfl) (by omega) (by omega) (fun I4057 eI4057 => ?_)
                  rw [show v4053.toInt.toNat = 2 by omega] at eI4057
                  have e4058 : I4057 (ad g 0) 10 = w3500 := by rw [eI4057, pp_ne _ _ (Or.inl (ly_ne hy (by decide) (by decide) (by decide)))]; exact e4035
                  have e4059 : I4057 (ad g 0) 11 = w3501 := by rw [eI4057, pp_ne _ _ (Or.inl (ly_ne hy (by decide) (by decide) (by decide)))]; exact e4036
                  have e4060 : I4057 (ad g 0) 13 = w3502 := by rw [eI4057, pp_ne _ _ (Or.inl (ly_ne hy (by decide) (by decide) (by decide)))]; exact e4037
                  have e4061 : I4057 (ad g 0) 14 = w3503 := by rw [eI4057, pp_ne _ _ (Or.inl (ly_ne hy (by decide) (by decide) (by decide)))]; exact e4038
                  have e4062 : I4057 (ad g 0) 19 = w3504 := by rw [eI4057, pp_ne _ _ (Or.inl (ly_ne hy (by decide) (by decide) (by decide)))]; exact e4039
                  have e4063 : I4057 (ad g 0) 12 = w3504 := by rw [eI4057, pp_ne _ _ (Or.inl (ly_ne hy (by decide) (by decide) (by decide)))]; exact e4040
                  have e4064 : I4057 (ad g 46) 0 = v3752 := by rw [eI4057, pp_ne _ _ (Or.inl (ly_ne hy (by decide) (by decide) (by decide)))]; exact e4041
                  have e4065 : I4057 (ad g 47) 0 = v3764 := by rw [eI4057, pp_ne _ _ (Or.inl (ly_ne hy (by decide) (by decide) (by decide)))]; exact e4042
                  have e4066 : I4057 (ad g 46) 1 = v3796 := by rw [eI4057, pp_ne _ _ (Or.inl (ly_ne hy (by decide) (by decide) (by decide)))]; exact e4043
                  have e4067 : I4057 (ad g 47) 1 = v3811 := by rw [eI4057, pp_ne _ _ (Or.inl (ly_ne hy (by decide) (by decide) (by decide)))]; exact e4044
                  have e4068 : I4057 (ad g 46) 2 = v3849 := by rw [eI4057, pp_ne _ _ (Or.inl (ly_ne hy (by decide) (by decide) (by decide)))]; exact e4045
                  have e4069 : I4057 (ad g 47) 2 = v3867 := by rw [eI4057, pp_ne _ _ (Or.inl (ly_ne hy (by decide) (by decide) (by decide)))]; exact e4046
                  have e4070 : I4057 (ad g 46) 3 = v3911 := by rw [eI4057, pp_ne _ _ (Or.inl (ly_ne hy (by decide) (by decide) (by decide)))]; exact e4047
                  have e4071 : I4057 (ad g 47) 3 = v3932 := by rw [eI4057, pp_ne _ _ (Or.inl (ly_ne hy (by decide) (by decide) (by decide)))]; exact e4048
                  have e4072 : I4057 (ad g 44) 0 = (vp_nar .boolean v4011) := by rw [eI4057, pp_ne _ _ (Or.inr (by decide))]; exact e4049
                  have e4073 : I4057 (ad g 44) 1 = (vp_nar .boolean v4033) := by rw [eI4057, pp_ne _ _ (Or.inr (by decide))]; exact e4050
                  have e4074 : I4057 (ad g 44) 2 = (vp_nar .boolean v4056) := by rw [eI4057, pp_self]
                  have fI4075 : FC g [0, 6, 7, 8, 9, 10, 11, 12, 13, 14, 15, 16, 17, 18, 19, 20, 21, 22, 23, 24, 25, 26, 27, 28, 29, 30, 31, 32, 33, 34, 37, 38, 44, 46, 47] I I4057 := by rw [eI4057]; exact FC_pp fI4051 (by decide)
                  have fQ4076 : FQ g [1, 2, 3, 4, 5, 6, 7, 8, 9, 10, 11, 12, 13, 14, 15, 16, 17, 18, 19, 51, 68] I I4057 := by rw [eI4057]; exact FQ_ppn (ly_ne hy (by decide) (by decide) (by decide)) fQ4052
                  refine WP_iinc (ls' := [(0, _), (1, _)]) dX11_town_354 rfl (by decide) rfl ?_
                  have hv4077 : (v4053 + Int32.ofInt (1)).toInt = v4053.toInt + (1) := ia_n rfl (by omega) (by omega)
                  generalize v4053 + Int32.ofInt (1) = v4077 at hv4077 ⊢
                  have kv4077 : v4077.toInt = 3 := by omega
                  clear hv4077; have hv4077 := kv4077; clear kv4077
                  refine WP_goto 342 dX11_town_357 rfl ?_
                  refine WP_iload_n dX11_town_342 rfl ?_
                  refine WQ_iconst (3) (3) dX11_town_343 rfl rfl (fun v4078 hv4078 => ?_)
                  refine WQ_icmp_ge 360 dX11_town_344 rfl (fun c4078 => ?_) (fun c4078 => False.elim (by omega))
                  refine WP_aload_n dX11_town_360 rfl ?_
                  refine WQ_iconst (-1) (-1) dX11_town_361 rfl rfl (fun v4080 hv4080 => ?_)
                  refine WQ_puti dX11_town_362 fX11_304 rfl rfl (ly_is hy 0 11 rfl) (fun I4081 eI4081 => ?_)
                  have e4082 : I4081 (ad g 0) 10 = w3500 := by rw [eI4081, pp_ne _ _ (Or.inr (by decide))]; exact e4058
                  have e4083 : I4081 (ad g 0) 11 = w3501 := by rw [eI4081, pp_ne _ _ (Or.inr (by decide))]; exact e4059
                  have e4084 : I4081 (ad g 0) 13 = w3502 := by rw [eI4081, pp_ne _ _ (Or.inr (by decide))]; exact e4060
                  have e4085 : I4081 (ad g 0) 14 = w3503 := by rw [eI4081, pp_ne _ _ (Or.inr (by decide))]; exact e4061
                  have e4086 : I4081 (ad g 0) 19 = w3504 := by rw [eI4081, pp_ne _ _ (Or.inr (by decide))]; exact e4062
                  have e4087 : I4081 (ad g 0) 12 = w3504 := by rw [eI4081, pp_ne _ _ (Or.inr (by decide))]; exact e4063
                  have e4088 : I4081 (ad g 46) 0 = v3752 := by rw [eI4081, pp_ne _ _ (Or.inl (ly_ne hy (by decide) (by decide) (by decide)))]; exact e4064
                  have e4089 : I4081 (ad g 47) 0 = v3764 := by rw [eI4081, pp_ne _ _ (Or.inl (ly_ne hy (by decide) (by decide) (by decide)))]; exact e4065
                  have e4090 : I4081 (ad g 46) 1 = v3796 := by rw [eI4081, pp_ne _ _ (Or.inl (ly_ne hy (by decide) (by decide) (by decide)))]; exact e4066
                  have e4091 : I4081 (ad g 47) 1 = v3811 := by rw [eI4081, pp_ne _ _ (Or.inl (ly_ne hy (by decide) (by decide) (by decide)))]; exact e4067
                  have e4092 : I4081 (ad g 46) 2 = v3849 := by rw [eI4081, pp_ne _ _ (Or.inl (ly_ne hy (by decide) (by decide) (by decide)))]; exact e4068
                  have e4093 : I4081 (ad g 47) 2 = v3867 := by rw [eI4081, pp_ne _ _ (Or.inl (ly_ne hy (by decide) (by decide) (by decide)))]; exact e4069
                  have e4094 : I4081 (ad g 46) 3 = v3911 := by rw [eI4081, pp_ne _ _ (Or.inl (ly_ne hy (by decide) (by decide) (by decide)))]; exact e4070
                  have e4095 : I4081 (ad g 47) 3 = v3932 := by rw [eI4081, pp_ne _ _ (Or.inl (ly_ne hy (by decide) (by decide) (by decide)))]; exact e4071
                  have e4096 : I4081 (ad g 44) 0 = (vp_nar .boolean v4011) := by rw [eI4081, pp_ne _ _ (Or.inl (ly_ne hy (by decide) (by decide) (by decide)))]; exact e4072
                  have e4097 : I4081 (ad g 44) 1 = (vp_nar .boolean v4033) := by rw [eI4081, pp_ne _ _ (Or.inl (ly_ne hy (by decide) (by decide) (by decide)))]; exact e4073
                  have e4098 : I4081 (ad g 44) 2 = (vp_nar .boolean v4056) := by rw [eI4081, pp_ne _ _ (Or.inl (ly_ne hy (by decide) (by decide) (by decide)))]; exact e4074
                  have e4099 : I4081 (ad g 0) 68 = v4080 := by rw [eI4081, pp_self]
                  have fI4100 : FC g [0, 6, 7, 8, 9, 10, 11, 12, 13, 14, 15, 16, 17, 18, 19, 20, 21, 22, 23, 24, 25, 26, 27, 28, 29, 30, 31, 32, 33, 34, 37, 38, 44, 46, 47] I I4081 := by rw [eI4081]; exact FC_pp fI4075 (by decide)
                  have fQ4101 : FQ g [1, 2, 3, 4, 5, 6, 7, 8, 9, 10, 11, 12, 13, 14, 15, 16, 17, 18, 19, 51, 68] I I4081 := by rw [eI4081]; exact FQ_pp0 fQ4076 (by decide)
                  refine WP_aload_n dX11_town_365 rfl ?_
                  refine WQ_getim dX11_town_366 fX11_335 rfl (ly_is hy 0 11 rfl) e4087 ?_
                  exact WP_iret dX11_town_369 rfl ⟨rfl, fI4100, fJ4006, fQ4101, w3504, rfl, by
                    try simp only [e4082, e4083, e4084, e4085, e4086, e4087, e4088, e4089, e4090, e4091, e4092, e4093, e4094, e4095, e4096, e4097, e4098, e4099, e4004]
                    have hb4 : ∀ e ∈ rsT, ∀ q : Nat, (q : Int) < (e.2.2 : Int) * S2.1 0 1 → (I3430 (ad g e.1) q).toInt = S2.1 e.2.1 q := hR.2.2.2.1
                    have hb5 : ∀ e ∈ rtT, ∀ q : Nat, (q : Int) < (e.2.2 : Int) * S2.1 0 2 → (I3430 (ad g e.1) q).toInt = S2.1 e.2.1 q := hR.2.2.2.2.1
                    refine Or.inr ⟨S2, hok, ?_, ⟨⟨?_, ?_, ?_, ?_, ?_⟩, fun q hq => ?_, ?_, ?_, ?_, ?_⟩, fun q hq => ?_, fun q hq => ?_, ?_, fun q hq => ?_, fun q hq => ?_, fun q hq => ?_, ?_⟩
                    · omega
                    · rw [e4082]; omega
                    · rw [e4083]; omega
                    · rw [e4087]; omega
                    · rw [e4084]; omega
                    · rw [e4085]; omega
                    · rw [eI4081, pp_off _ _ (ly_ne hy (by decide) (by decide) (by decide)), eI4057, pp_off _ _ (ly_ne hy (by decide) (by decide) (by decide)), eI4034, pp_off _ _ (ly_ne hy (by decide) (by decide) (by decide)), eI4012, pp_off _ _ (ly_ne hy (by decide) (by decide) (by decide)), FC_at hy g3987 6 (by decide) (by decide), FC_at hy g3960 6 (by decide) (by decide), eI3933, pp_off _ _ (ly_ne hy (by decide) (by decide) (by decide)), eI3912, pp_off _ _ (ly_ne hy (by decide) (by decide) (by decide)), eI3892, pp_off _ _ (ly_ne hy (by decide) (by decide) (by decide)), eI3868, pp_off _ _ (ly_ne hy (by decide) (by decide) (by decide)), eI3850, pp_off _ _ (ly_ne hy (by decide) (by decide) (by decide)), eI3833, pp_off _ _ (ly_ne hy (by decide) (by decide) (by decide)), eI3812, pp_off _ _ (ly_ne hy (by decide) (by decide) (by decide)), eI3797, pp_off _ _ (ly_ne hy (by decide) (by decide) (by decide)), eI3783, pp_off _ _ (ly_ne hy (by decide) (by decide) (by decide)), eI3765, pp_off _ _ (ly_ne hy (by decide) (by decide) (by decide)), eI3753, pp_off _ _ (ly_ne hy (by decide) (by decide) (by decide)), eI3742, pp_off _ _ (ly_ne hy (by decide) (by decide) (by decide)), FC_at hy g3724 6 (by decide) (by decide), FC_at hy g3709 6 (by decide) (by decide), FC_at hy g3694 6 (by decide) (by decide), FC_at hy g3679 6 (by decide) (by decide), FC_at hy g3664 6 (by decide) (by decide), FC_at hy g3649 6 (by decide) (by decide), FC_at hy g3634 6 (by decide) (by decide), FC_at hy g3619 6 (by decide) (by decide), FC_at hy g3604 6 (by decide) (by decide), FC_at hy g3589 6 (by decide) (by decide), FC_at hy g3574 6 (by decide) (by decide), FC_at hy g3559 6 (by decide) (by decide), FC_at hy g3544 6 (by decide) (by decide), d6 q hq]; exact hR.2.1 q hq
                    · intro e he q hq
                      have hmul := hb2
                      rcases (show e = (8, 2, 1) ∨ e = (9, 3, 1) ∨ e = (10, 4, 1) ∨ e = (11, 5, 1) ∨ e = (20, 6, 7) ∨ e = (24, 7, 7) ∨ e = (25, 8, 7) ∨ e = (26, 9, 7) by simpa [tsT] using he) with rfl | rfl | rfl | rfl | rfl | rfl | rfl | rfl
                      · show (I4081 (ad g 8) q).toInt = S2.1 2 q
                        have hq2 : (q : Int) < 1 * S2.1 0 1 := hq
                        rw [eI4081, pp_off _ _ (ly_ne hy (by decide) (by decide) (by decide)), eI4057, pp_off _ _ (ly_ne hy (by decide) (by decide) (by decide)), eI4034, pp_off _ _ (ly_ne hy (by decide) (by decide) (by decide)), eI4012, pp_off _ _ (ly_ne hy (by decide) (by decide) (by decide)), FC_at hy g3987 8 (by decide) (by decide), FC_at hy g3960 8 (by decide) (by decide), eI3933, pp_off _ _ (ly_ne hy (by decide) (by decide) (by decide)), eI3912, pp_off _ _ (ly_ne hy (by decide) (by decide) (by decide)), eI3892, pp_off _ _ (ly_ne hy (by decide) (by decide) (by decide)), eI3868, pp_off _ _ (ly_ne hy (by decide) (by decide) (by decide)), eI3850, pp_off _ _ (ly_ne hy (by decide) (by decide) (by decide)), eI3833, pp_off _ _ (ly_ne hy (by decide) (by decide) (by decide)), eI3812, pp_off _ _ (ly_ne hy (by decide) (by decide) (by decide)), eI3797, pp_off _ _ (ly_ne hy (by decide) (by decide) (by decide)), eI3783, pp_off _ _ (ly_ne hy (by decide) (by decide) (by decide)), eI3765, pp_off _ _ (ly_ne hy (by decide) (by decide) (by decide)), eI3753, pp_off _ _ (ly_ne hy (by decide) (by decide) (by decide)), eI3742, pp_off _ _ (ly_ne hy (by decide) (by decide) (by decide)), FC_at hy g3724 8 (by decide) (by decide), FC_at hy g3709 8 (by decide) (by decide), FC_at hy g3694 8 (by decide) (by decide), FC_at hy g3679 8 (by decide) (by decide), FC_at hy g3664 8 (by decide) (by decide), FC_at hy g3649 8 (by decide) (by decide), FC_at hy g3634 8 (by decide) (by decide), FC_at hy g3619 8 (by decide) (by decide), FC_at hy g3604 8 (by decide) (by decide), FC_at hy g3589 8 (by decide) (by decide), FC_at hy g3574 8 (by decide) (by decide), FC_at hy g3559 8 (by decide) (by decide), d8 q (by omega)]
                        exact hb4 (14, 2, 1) (by decide) q hq
                      · show (I4081 (ad g 9) q).toInt = S2.1 3 q
                        have hq2 : (q : Int) < 1 * S2.1 0 1 := hq
                        rw [eI4081, pp_off _ _ (ly_ne hy (by decide) (by decide) (by decide)), eI4057, pp_off _ _ (ly_ne hy (by decide) (by decide) (by decide)), eI4034, pp_off _ _ (ly_ne hy (by decide) (by decide) (by decide)), eI4012, pp_off _ _ (ly_ne hy (by decide) (by decide) (by decide)), FC_at hy g3987 9 (by decide) (by decide), FC_at hy g3960 9 (by decide) (by decide), eI3933, pp_off _ _ (ly_ne hy (by decide) (by decide) (by decide)), eI3912, pp_off _ _ (ly_ne hy (by decide) (by decide) (by decide)), eI3892, pp_off _ _ (ly_ne hy (by decide) (by decide) (by decide)), eI3868, pp_off _ _ (ly_ne hy (by decide) (by decide) (by decide)), eI3850, pp_off _ _ (ly_ne hy (by decide) (by decide) (by decide)), eI3833, pp_off _ _ (ly_ne hy (by decide) (by decide) (by decide)), eI3812, pp_off _ _ (ly_ne hy (by decide) (by decide) (by decide)), eI3797, pp_off _ _ (ly_ne hy (by decide) (by decide) (by decide)), eI3783, pp_off _ _ (ly_ne hy (by decide) (by decide) (by decide)), eI3765, pp_off _ _ (ly_ne hy (by decide) (by decide) (by decide)), eI3753, pp_off _ _ (ly_ne hy (by decide) (by decide) (by decide)), eI3742, pp_off _ _ (ly_ne hy (by decide) (by decide) (by decide)), FC_at hy g3724 9 (by decide) (by decide), FC_at hy g3709 9 (by decide) (by decide), FC_at hy g3694 9 (by decide) (by decide), FC_at hy g3679 9 (by decide) (by decide), FC_at hy g3664 9 (by decide) (by decide), FC_at hy g3649 9 (by decide) (by decide), FC_at hy g3634 9 (by decide) (by decide), FC_at hy g3619 9 (by decide) (by decide), FC_at hy g3604 9 (by decide) (by decide), FC_at hy g3589 9 (by decide) (by decide), FC_at hy g3574 9 (by decide) (by decide), d9 q (by omega)]
                        exact hb4 (15, 3, 1) (by decide) q hq
                      · show (I4081 (ad g 10) q).toInt = S2.1 4 q
                        have hq2 : (q : Int) < 1 * S2.1 0 1 := hq
                        rw [eI4081, pp_off _ _ (ly_ne hy (by decide) (by decide) (by decide)), eI4057, pp_off _ _ (ly_ne hy (by decide) (by decide) (by decide)), eI4034, pp_off _ _ (ly_ne hy (by decide) (by decide) (by decide)), eI4012, pp_off _ _ (ly_ne hy (by decide) (by decide) (by decide)), FC_at hy g3987 10 (by decide) (by decide), FC_at hy g3960 10 (by decide) (by decide), eI3933, pp_off _ _ (ly_ne hy (by decide) (by decide) (by decide)), eI3912, pp_off _ _ (ly_ne hy (by decide) (by decide) (by decide)), eI3892, pp_off _ _ (ly_ne hy (by decide) (by decide) (by decide)), eI3868, pp_off _ _ (ly_ne hy (by decide) (by decide) (by decide)), eI3850, pp_off _ _ (ly_ne hy (by decide) (by decide) (by decide)), eI3833, pp_off _ _ (ly_ne hy (by decide) (by decide) (by decide)), eI3812, pp_off _ _ (ly_ne hy (by decide) (by decide) (by decide)), eI3797, pp_off _ _ (ly_ne hy (by decide) (by decide) (by decide)), eI3783, pp_off _ _ (ly_ne hy (by decide) (by decide) (by decide)), eI3765, pp_off _ _ (ly_ne hy (by decide) (by decide) (by decide)), eI3753, pp_off _ _ (ly_ne hy (by decide) (by decide) (by decide)), eI3742, pp_off _ _ (ly_ne hy (by decide) (by decide) (by decide)), FC_at hy g3724 10 (by decide) (by decide), FC_at hy g3709 10 (by decide) (by decide), FC_at hy g3694 10 (by decide) (by decide), FC_at hy g3679 10 (by decide) (by decide), FC_at hy g3664 10 (by decide) (by decide), FC_at hy g3649 10 (by decide) (by decide), FC_at hy g3634 10 (by decide) (by decide), FC_at hy g3619 10 (by decide) (by decide), FC_at hy g3604 10 (by decide) (by decide), FC_at hy g3589 10 (by decide) (by decide), d10 q (by omega)]
                        exact hb4 (16, 4, 1) (by decide) q hq
                      · show (I4081 (ad g 11) q).toInt = S2.1 5 q
                        have hq2 : (q : Int) < 1 * S2.1 0 1 := hq
                        rw [eI4081, pp_off _ _ (ly_ne hy (by decide) (by decide) (by decide)), eI4057, pp_off _ _ (ly_ne hy (by decide) (by decide) (by decide)), eI4034, pp_off _ _ (ly_ne hy (by decide) (by decide) (by decide)), eI4012, pp_off _ _ (ly_ne hy (by decide) (by decide) (by decide)), FC_at hy g3987 11 (by decide) (by decide), FC_at hy g3960 11 (by decide) (by decide), eI3933, pp_off _ _ (ly_ne hy (by decide) (by decide) (by decide)), eI3912, pp_off _ _ (ly_ne hy (by decide) (by decide) (by decide)), eI3892, pp_off _ _ (ly_ne hy (by decide) (by decide) (by decide)), eI3868, pp_off _ _ (ly_ne hy (by decide) (by decide) (by decide)), eI3850, pp_off _ _ (ly_ne hy (by decide) (by decide) (by decide)), eI3833, pp_off _ _ (ly_ne hy (by decide) (by decide) (by decide)), eI3812, pp_off _ _ (ly_ne hy (by decide) (by decide) (by decide)), eI3797, pp_off _ _ (ly_ne hy (by decide) (by decide) (by decide)), eI3783, pp_off _ _ (ly_ne hy (by decide) (by decide) (by decide)), eI3765, pp_off _ _ (ly_ne hy (by decide) (by decide) (by decide)), eI3753, pp_off _ _ (ly_ne hy (by decide) (by decide) (by decide)), eI3742, pp_off _ _ (ly_ne hy (by decide) (by decide) (by decide)), FC_at hy g3724 11 (by decide) (by decide), FC_at hy g3709 11 (by decide) (by decide), FC_at hy g3694 11 (by decide) (by decide), FC_at hy g3679 11 (by decide) (by decide), FC_at hy g3664 11 (by decide) (by decide), FC_at hy g3649 11 (by decide) (by decide), FC_at hy g3634 11 (by decide) (by decide), FC_at hy g3619 11 (by decide) (by decide), FC_at hy g3604 11 (by decide) (by decide), d11 q (by omega)]
                        exact hb4 (17, 5, 1) (by decide) q hq
                      · show (I4081 (ad g 20) q).toInt = S2.1 6 q
                        have hq2 : (q : Int) < 7 * S2.1 0 1 := hq
                        rw [eI4081, pp_off _ _ (ly_ne hy (by decide) (by decide) (by decide)), eI4057, pp_off _ _ (ly_ne hy (by decide) (by decide) (by decide)), eI4034, pp_off _ _ (ly_ne hy (by decide) (by decide) (by decide)), eI4012, pp_off _ _ (ly_ne hy (by decide) (by decide) (by decide)), FC_at hy g3987 20 (by decide) (by decide), FC_at hy g3960 20 (by decide) (by decide), eI3933, pp_off _ _ (ly_ne hy (by decide) (by decide) (by decide)), eI3912, pp_off _ _ (ly_ne hy (by decide) (by decide) (by decide)), eI3892, pp_off _ _ (ly_ne hy (by decide) (by decide) (by decide)), eI3868, pp_off _ _ (ly_ne hy (by decide) (by decide) (by decide)), eI3850, pp_off _ _ (ly_ne hy (by decide) (by decide) (by decide)), eI3833, pp_off _ _ (ly_ne hy (by decide) (by decide) (by decide)), eI3812, pp_off _ _ (ly_ne hy (by decide) (by decide) (by decide)), eI3797, pp_off _ _ (ly_ne hy (by decide) (by decide) (by decide)), eI3783, pp_off _ _ (ly_ne hy (by decide) (by decide) (by decide)), eI3765, pp_off _ _ (ly_ne hy (by decide) (by decide) (by decide)), eI3753, pp_off _ _ (ly_ne hy (by decide) (by decide) (by decide)), eI3742, pp_off _ _ (ly_ne hy (by decide) (by decide) (by decide)), FC_at hy g3724 20 (by decide) (by decide), FC_at hy g3709 20 (by decide) (by decide), FC_at hy g3694 20 (by decide) (by decide), FC_at hy g3679 20 (by decide) (by decide), FC_at hy g3664 20 (by decide) (by decide), FC_at hy g3649 20 (by decide) (by decide), d20 q (by omega)]
                        exact hb4 (27, 6, 7) (by decide) q hq
                      · show (I4081 (ad g 24) q).toInt = S2.1 7 q
                        have hq2 : (q : Int) < 7 * S2.1 0 1 := hq
                        rw [eI4081, pp_off _ _ (ly_ne hy (by decide) (by decide) (by decide)), eI4057, pp_off _ _ (ly_ne hy (by decide) (by decide) (by decide)), eI4034, pp_off _ _ (ly_ne hy (by decide) (by decide) (by decide)), eI4012, pp_off _ _ (ly_ne hy (by decide) (by decide) (by decide)), FC_at hy g3987 24 (by decide) (by decide), FC_at hy g3960 24 (by decide) (by decide), eI3933, pp_off _ _ (ly_ne hy (by decide) (by decide) (by decide)), eI3912, pp_off _ _ (ly_ne hy (by decide) (by decide) (by decide)), eI3892, pp_off _ _ (ly_ne hy (by decide) (by decide) (by decide)), eI3868, pp_off _ _ (ly_ne hy (by decide) (by decide) (by decide)), eI3850, pp_off _ _ (ly_ne hy (by decide) (by decide) (by decide)), eI3833, pp_off _ _ (ly_ne hy (by decide) (by decide) (by decide)), eI3812, pp_off _ _ (ly_ne hy (by decide) (by decide) (by decide)), eI3797, pp_off _ _ (ly_ne hy (by decide) (by decide) (by decide)), eI3783, pp_off _ _ (ly_ne hy (by decide) (by decide) (by decide)), eI3765, pp_off _ _ (ly_ne hy (by decide) (by decide) (by decide)), eI3753, pp_off _ _ (ly_ne hy (by decide) (by decide) (by decide)), eI3742, pp_off _ _ (ly_ne hy (by decide) (by decide) (by decide)), FC_at hy g3724 24 (by decide) (by decide), FC_at hy g3709 24 (by decide) (by decide), d24 q (by omega)]
                        exact hb4 (30, 7, 7) (by decide) q hq
                      · show (I4081 (ad g 25) q).toInt = S2.1 8 q
                        have hq2 : (q : Int) < 7 * S2.1 0 1 := hq
                        rw [eI4081, pp_off _ _ (ly_ne hy (by decide) (by decide) (by decide)), eI4057, pp_off _ _ (ly_ne hy (by decide) (by decide) (by decide)), eI4034, pp_off _ _ (ly_ne hy (by decide) (by decide) (by decide)), eI4012, pp_off _ _ (ly_ne hy (by decide) (by decide) (by decide)), FC_at hy g3987 25 (by decide) (by decide), FC_at hy g3960 25 (by decide) (by decide), eI3933, pp_off _ _ (ly_ne hy (by decide) (by decide) (by decide)), eI3912, pp_off _ _ (ly_ne hy (by decide) (by decide) (by decide)), eI3892, pp_off _ _ (ly_ne hy (by decide) (by decide) (by decide)), eI3868, pp_off _ _ (ly_ne hy (by decide) (by decide) (by decide)), eI3850, pp_off _ _ (ly_ne hy (by decide) (by decide) (by decide)), eI3833, pp_off _ _ (ly_ne hy (by decide) (by decide) (by decide)), eI3812, pp_off _ _ (ly_ne hy (by decide) (by decide) (by decide)), eI3797, pp_off _ _ (ly_ne hy (by decide) (by decide) (by decide)), eI3783, pp_off _ _ (ly_ne hy (by decide) (by decide) (by decide)), eI3765, pp_off _ _ (ly_ne hy (by decide) (by decide) (by decide)), eI3753, pp_off _ _ (ly_ne hy (by decide) (by decide) (by decide)), eI3742, pp_off _ _ (ly_ne hy (by decide) (by decide) (by decide)), FC_at hy g3724 25 (by decide) (by decide), d25 q (by omega)]
                        exact hb4 (31, 8, 7) (by decide) q hq
                      · show (I4081 (ad g 26) q).toInt = S2.1 9 q
                        have hq2 : (q : Int) < 7 * S2.1 0 1 := hq
                        rw [eI4081, pp_off _ _ (ly_ne hy (by decide) (by decide) (by decide)), eI4057, pp_off _ _ (ly_ne hy (by decide) (by decide) (by decide)), eI4034, pp_off _ _ (ly_ne hy (by decide) (by decide) (by decide)), eI4012, pp_off _ _ (ly_ne hy (by decide) (by decide) (by decide)), FC_at hy g3987 26 (by decide) (by decide), FC_at hy g3960 26 (by decide) (by decide), eI3933, pp_off _ _ (ly_ne hy (by decide) (by decide) (by decide)), eI3912, pp_off _ _ (ly_ne hy (by decide) (by decide) (by decide)), eI3892, pp_off _ _ (ly_ne hy (by decide) (by decide) (by decide)), eI3868, pp_off _ _ (ly_ne hy (by decide) (by decide) (by decide)), eI3850, pp_off _ _ (ly_ne hy (by decide) (by decide) (by decide)), eI3833, pp_off _ _ (ly_ne hy (by decide) (by decide) (by decide)), eI3812, pp_off _ _ (ly_ne hy (by decide) (by decide) (by decide)), eI3797, pp_off _ _ (ly_ne hy (by decide) (by decide) (by decide)), eI3783, pp_off _ _ (ly_ne hy (by decide) (by decide) (by decide)), eI3765, pp_off _ _ (ly_ne hy (by decide) (by decide) (by decide)), eI3753, pp_off _ _ (ly_ne hy (by decide) (by decide) (by decide)), eI3742, pp_off _ _ (ly_ne hy (by decide) (by decide) (by decide)), d26 q (by omega)]
                        exact hb4 (32, 9, 7) (by decide) q hq
                    · intro e he q hq
                      have hmul := hb3
                      rcases (show e = (12, 10, 1) ∨ e = (13, 11, 1) ∨ e = (21, 12, 7) ∨ e = (23, 13, 7) by simpa [ttT] using he) with rfl | rfl | rfl | rfl
                      · show (I4081 (ad g 12) q).toInt = S2.1 10 q
                        have hq2 : (q : Int) < 1 * S2.1 0 2 := hq
                        rw [eI4081, pp_off _ _ (ly_ne hy (by decide) (by decide) (by decide)), eI4057, pp_off _ _ (ly_ne hy (by decide) (by decide) (by decide)), eI4034, pp_off _ _ (ly_ne hy (by decide) (by decide) (by decide)), eI4012, pp_off _ _ (ly_ne hy (by decide) (by decide) (by decide)), FC_at hy g3987 12 (by decide) (by decide), FC_at hy g3960 12 (by decide) (by decide), eI3933, pp_off _ _ (ly_ne hy (by decide) (by decide) (by decide)), eI3912, pp_off _ _ (ly_ne hy (by decide) (by decide) (by decide)), eI3892, pp_off _ _ (ly_ne hy (by decide) (by decide) (by decide)), eI3868, pp_off _ _ (ly_ne hy (by decide) (by decide) (by decide)), eI3850, pp_off _ _ (ly_ne hy (by decide) (by decide) (by decide)), eI3833, pp_off _ _ (ly_ne hy (by decide) (by decide) (by decide)), eI3812, pp_off _ _ (ly_ne hy (by decide) (by decide) (by decide)), eI3797, pp_off _ _ (ly_ne hy (by decide) (by decide) (by decide)), eI3783, pp_off _ _ (ly_ne hy (by decide) (by decide) (by decide)), eI3765, pp_off _ _ (ly_ne hy (by decide) (by decide) (by decide)), eI3753, pp_off _ _ (ly_ne hy (by decide) (by decide) (by decide)), eI3742, pp_off _ _ (ly_ne hy (by decide) (by decide) (by decide)), FC_at hy g3724 12 (by decide) (by decide), FC_at hy g3709 12 (by decide) (by decide), FC_at hy g3694 12 (by decide) (by decide), FC_at hy g3679 12 (by decide) (by decide), FC_at hy g3664 12 (by decide) (by decide), FC_at hy g3649 12 (by decide) (by decide), FC_at hy g3634 12 (by decide) (by decide), FC_at hy g3619 12 (by decide) (by decide), d12 q (by omega)]
                        exact hb5 (18, 10, 1) (by decide) q hq
                      · show (I4081 (ad g 13) q).toInt = S2.1 11 q
                        have hq2 : (q : Int) < 1 * S2.1 0 2 := hq
                        rw [eI4081, pp_off _ _ (ly_ne hy (by decide) (by decide) (by decide)), eI4057, pp_off _ _ (ly_ne hy (by decide) (by decide) (by decide)), eI4034, pp_off _ _ (ly_ne hy (by decide) (by decide) (by decide)), eI4012, pp_off _ _ (ly_ne hy (by decide) (by decide) (by decide)), FC_at hy g3987 13 (by decide) (by decide), FC_at hy g3960 13 (by decide) (by decide), eI3933, pp_off _ _ (ly_ne hy (by decide) (by decide) (by decide)), eI3912, pp_off _ _ (ly_ne hy (by decide) (by decide) (by decide)), eI3892, pp_off _ _ (ly_ne hy (by decide) (by decide) (by decide)), eI3868, pp_off _ _ (ly_ne hy (by decide) (by decide) (by decide)), eI3850, pp_off _ _ (ly_ne hy (by decide) (by decide) (by decide)), eI3833, pp_off _ _ (ly_ne hy (by decide) (by decide) (by decide)), eI3812, pp_off _ _ (ly_ne hy (by decide) (by decide) (by decide)), eI3797, pp_off _ _ (ly_ne hy (by decide) (by decide) (by decide)), eI3783, pp_off _ _ (ly_ne hy (by decide) (by decide) (by decide)), eI3765, pp_off _ _ (ly_ne hy (by decide) (by decide) (by decide)), eI3753, pp_off _ _ (ly_ne hy (by decide) (by decide) (by decide)), eI3742, pp_off _ _ (ly_ne hy (by decide) (by decide) (by decide)), FC_at hy g3724 13 (by decide) (by decide), FC_at hy g3709 13 (by decide) (by decide), FC_at hy g3694 13 (by decide) (by decide), FC_at hy g3679 13 (by decide) (by decide), FC_at hy g3664 13 (by decide) (by decide), FC_at hy g3649 13 (by decide) (by decide), FC_at hy g3634 13 (by decide) (by decide), d13 q (by omega)]
                        exact hb5 (19, 11, 1) (by decide) q hq
                      · show (I4081 (ad g 21) q).toInt = S2.1 12 q
                        have hq2 : (q : Int) < 7 * S2.1 0 2 := hq
                        rw [eI4081, pp_off _ _ (ly_ne hy (by decide) (by decide) (by decide)), eI4057, pp_off _ _ (ly_ne hy (by decide) (by decide) (by decide)), eI4034, pp_off _ _ (ly_ne hy (by decide) (by decide) (by decide)), eI4012, pp_off _ _ (ly_ne hy (by decide) (by decide) (by decide)), FC_at hy g3987 21 (by decide) (by decide), FC_at hy g3960 21 (by decide) (by decide), eI3933, pp_off _ _ (ly_ne hy (by decide) (by decide) (by decide)), eI3912, pp_off _ _ (ly_ne hy (by decide) (by decide) (by decide)), eI3892, pp_off _ _ (ly_ne hy (by decide) (by decide) (by decide)), eI3868, pp_off _ _ (ly_ne hy (by decide) (by decide) (by decide)), eI3850, pp_off _ _ (ly_ne hy (by decide) (by decide) (by decide)), eI3833, pp_off _ _ (ly_ne hy (by decide) (by decide) (by decide)), eI3812, pp_off _ _ (ly_ne hy (by decide) (by decide) (by decide)), eI3797, pp_off _ _ (ly_ne hy (by decide) (by decide) (by decide)), eI3783, pp_off _ _ (ly_ne hy (by decide) (by decide) (by decide)), eI3765, pp_off _ _ (ly_ne hy (by decide) (by decide) (by decide)), eI3753, pp_off _ _ (ly_ne hy (by decide) (by decide) (by decide)), eI3742, pp_off _ _ (ly_ne hy (by decide) (by decide) (by decide)), FC_at hy g3724 21 (by decide) (by decide), FC_at hy g3709 21 (by decide) (by decide), FC_at hy g3694 21 (by decide) (by decide), FC_at hy g3679 21 (by decide) (by decide), FC_at hy g3664 21 (by decide) (by decide), d21 q (by omega)]
                        exact hb5 (28, 12, 7) (by decide) q hq
                      · show (I4081 (ad g 23) q).toInt = S2.1 13 q
                        have hq2 : (q : Int) < 7 * S2.1 0 2 := hq
                        rw [eI4081, pp_off _ _ (ly_ne hy (by decide) (by decide) (by decide)), eI4057, pp_off _ _ (ly_ne hy (by decide) (by decide) (by decide)), eI4034, pp_off _ _ (ly_ne hy (by decide) (by decide) (by decide)), eI4012, pp_off _ _ (ly_ne hy (by decide) (by decide) (by decide)), FC_at hy g3987 23 (by decide) (by decide), FC_at hy g3960 23 (by decide) (by decide), eI3933, pp_off _ _ (ly_ne hy (by decide) (by decide) (by decide)), eI3912, pp_off _ _ (ly_ne hy (by decide) (by decide) (by decide)), eI3892, pp_off _ _ (ly_ne hy (by decide) (by decide) (by decide)), eI3868, pp_off _ _ (ly_ne hy (by decide) (by decide) (by decide)), eI3850, pp_off _ _ (ly_ne hy (by decide) (by decide) (by decide)), eI3833, pp_off _ _ (ly_ne hy (by decide) (by decide) (by decide)), eI3812, pp_off _ _ (ly_ne hy (by decide) (by decide) (by decide)), eI3797, pp_off _ _ (ly_ne hy (by decide) (by decide) (by decide)), eI3783, pp_off _ _ (ly_ne hy (by decide) (by decide) (by decide)), eI3765, pp_off _ _ (ly_ne hy (by decide) (by decide) (by decide)), eI3753, pp_off _ _ (ly_ne hy (by decide) (by decide) (by decide)), eI3742, pp_off _ _ (ly_ne hy (by decide) (by decide) (by decide)), FC_at hy g3724 23 (by decide) (by decide), FC_at hy g3709 23 (by decide) (by decide), FC_at hy g3694 23 (by decide) (by decide), d23 q (by omega)]
                        exact hb5 (29, 13, 7) (by decide) q hq
                    · intro q hq; rw [FC_at hy g3988 2 (by decide) (by decide), eJ3981, pp_off _ _ (ly_ne hy (by decide) (by decide) (by decide)), FC_at hy g3961 2 (by decide) (by decide), FC_at hy g3725 2 (by decide) (by decide), FC_at hy g3710 2 (by decide) (by decide), FC_at hy g3695 2 (by decide) (by decide), FC_at hy g3680 2 (by decide) (by decide), FC_at hy g3665 2 (by decide) (by decide), FC_at hy g3650 2 (by decide) (by decide), FC_at hy g3635 2 (by decide) (by decide), FC_at hy g3620 2 (by decide) (by decide), FC_at hy g3605 2 (by decide) (by decide), FC_at hy g3590 2 (by decide) (by decide), FC_at hy g3575 2 (by decide) (by decide), FC_at hy g3560 2 (by decide) (by decide), FC_at hy g3545 2 (by decide) (by decide), FC_at hy g3530 2 (by decide) (by decide), FC_at hy kG 2 (by decide) (by decide), jA q (by omega)]; exact hR.2.2.2.2.2.2.2.1 q hq
                    · intro q hq; rw [FC_at hy g3988 3 (by decide) (by decide), eJ3981, pp_off _ _ (ly_ne hy (by decide) (by decide) (by decide)), FC_at hy g3961 3 (by decide) (by decide), FC_at hy g3725 3 (by decide) (by decide), FC_at hy g3710 3 (by decide) (by decide), FC_at hy g3695 3 (by decide) (by decide), FC_at hy g3680 3 (by decide) (by decide), FC_at hy g3665 3 (by decide) (by decide), FC_at hy g3650 3 (by decide) (by decide), FC_at hy g3635 3 (by decide) (by decide), FC_at hy g3620 3 (by decide) (by decide), FC_at hy g3605 3 (by decide) (by decide), FC_at hy g3590 3 (by decide) (by decide), FC_at hy g3575 3 (by decide) (by decide), FC_at hy g3560 3 (by decide) (by decide), FC_at hy g3545 3 (by decide) (by decide), FC_at hy g3530 3 (by decide) (by decide), kA q (by omega)]; exact hR.2.2.2.2.2.2.2.2 q hq
                    · rw [eI4081, pp_off _ _ (ly_ne hy (by decide) (by decide) (by decide)), eI4057, pp_off _ _ (ly_ne hy (by decide) (by decide) (by decide)), eI4034, pp_off _ _ (ly_ne hy (by decide) (by decide) (by decide)), eI4012, pp_off _ _ (ly_ne hy (by decide) (by decide) (by decide)), FC_at hy g3987 22 (by decide) (by decide), FC_at hy g3960 22 (by decide) (by decide), eI3933, pp_off _ _ (ly_ne hy (by decide) (by decide) (by decide)), eI3912, pp_off _ _ (ly_ne hy (by decide) (by decide) (by decide)), eI3892, pp_off _ _ (ly_ne hy (by decide) (by decide) (by decide)), eI3868, pp_off _ _ (ly_ne hy (by decide) (by decide) (by decide)), eI3850, pp_off _ _ (ly_ne hy (by decide) (by decide) (by decide)), eI3833, pp_off _ _ (ly_ne hy (by decide) (by decide) (by decide)), eI3812, pp_off _ _ (ly_ne hy (by decide) (by decide) (by decide)), eI3797, pp_off _ _ (ly_ne hy (by decide) (by decide) (by decide)), eI3783, pp_off _ _ (ly_ne hy (by decide) (by decide) (by decide)), eI3765, pp_off _ _ (ly_ne hy (by decide) (by decide) (by decide)), eI3753, pp_off _ _ (ly_ne hy (by decide) (by decide) (by decide)), eI3742, pp_off _ _ (ly_ne hy (by decide) (by decide) (by decide)), FC_at hy g3724 22 (by decide) (by decide), FC_at hy g3709 22 (by decide) (by decide), FC_at hy g3694 22 (by decide) (by decide), FC_at hy g3679 22 (by decide) (by decide), d22 q (by omega)]; exact hb5 (28, 12, 7) (by decide) q hq
                    · rw [eI4081, pp_off _ _ (ly_ne hy (by decide) (by decide) (by decide)), eI4057, pp_off _ _ (ly_ne hy (by decide) (by decide) (by decide)), eI4034, pp_off _ _ (ly_ne hy (by decide) (by decide) (by decide)), eI4012, pp_off _ _ (ly_ne hy (by decide) (by decide) (by decide)), FC_at hy g3987 38 (by decide) (by decide)]
                      unfold NW0
                      by_cases h9 : q < 28 ∨ 32 ≤ q
                      · rw [if_pos h9, p3957.1 q hq h9]
                        split
                        · rw [d10b q (by omega)]; exact hb4 (16, 4, 1) (by decide) q (by show (q : Int) < 1 * S2.1 0 1; omega)
                        · rfl
                      · rw [if_neg h9, p3957.2 q (by omega) (by omega)]
                        rcases (show q = 28 ∨ q = 29 ∨ q = 30 ∨ q = 31 by omega) with rfl | rfl | rfl | rfl
                        · rw [e3940]; omega
                        · rw [e3943]; omega
                        · rw [e3946]; omega
                        · rw [e3949]; omega
                    · rw [e4004]; omega
                    · rcases (show q = 0 ∨ q = 1 ∨ q = 2 by omega) with rfl | rfl | rfl
                      · first | exact narz (by omega) | (rw [e4096]; exact narz (by omega))
                      · first | exact narz (by omega) | (rw [e4097]; exact narz (by omega))
                      · first | exact narz (by omega) | (rw [e4098]; exact narz (by omega))
                    · rw [eI4081, pp_off _ _ (ly_ne hy (by decide) (by decide) (by decide)), eI4057, pp_off _ _ (ly_ne hy (by decide) (by decide) (by decide)), eI4034, pp_off _ _ (ly_ne hy (by decide) (by decide) (by decide)), eI4012, pp_off _ _ (ly_ne hy (by decide) (by decide) (by decide))]; exact p3984 q hq
                    · rcases (show q = 0 ∨ q = 1 ∨ q = 2 ∨ q = 3 by omega) with rfl | rfl | rfl | rfl
                      · constructor <;> first | omega | (rw [e4088]; omega) | (rw [e4089]; omega)
                      · constructor <;> first | omega | (rw [e4090]; omega) | (rw [e4091]; omega)
                      · constructor <;> first | omega | (rw [e4092]; omega) | (rw [e4093]; omega)
                      · constructor <;> first | omega | (rw [e4094]; omega) | (rw [e4095]; omega)
                    · rw [e4099]; omega⟩
                · refine WP_aload_n dX11_town_114 rfl ?_
                  refine WP_getr dX11_town_115 fX11_230 rfl (ly_is hy 0 11 rfl) (rf hr 0 21 3 (by decide)) ?_
                  refine WP_iload_n dX11_town_118 rfl ?_
                  refine WP_aload_n dX11_town_119 rfl ?_
                  refine WP_getr dX11_town_120 fX11_129 rfl (ly_is hy 0 11 rfl) (rf hr 0 23 5 (by decide)) ?_
                  refine WP_iload_n dX11_town_123 rfl ?_
                  refine WE_la dX11_town_124 (ly_is hy 5 14 rfl) (ly_n hy 5 3 rfl) (by omega) (by omega) (fun l4102 el4102 => ?_)
                  refine WE_ls dX11_town_125 (ly_is hy 3 14 rfl) (ly_n hy 3 3 rfl) (by omega) (by omega) (fun J4103 eJ4103 => ?_)
                  have e4104 : J4103 (ad g 5) i3521.toInt.toNat = l4102 := by rw [eJ4103, pp_ne _ _ (Or.inl (ly_ne hy (by decide) (by decide) (by decide)))]; exact el4102
                  have fJ4105 : FC g [0, 2, 3, 4, 5] J J4103 := by rw [eJ4103]; exact FC_pp fJ3523 (by decide)
                  refine WP_iinc (ls' := [(0, _), (1, _)]) dX11_town_126 rfl (by decide) rfl ?_
                  have hv4106 : (i3521 + Int32.ofInt (1)).toInt = i3521.toInt + (1) := ia_n rfl (by omega) (by omega)
                  generalize i3521 + Int32.ofInt (1) = v4106 at hv4106 ⊢
                  refine WP_goto 106 dX11_town_129 rfl ?_
                  refine WP_sub (fc rfl (fc rfl fn)) (ihlp3524 v4106 J4103 fJ4105 ?_ ?_)
                  · try simp only [e3506, e3507, e3508, e3509, e3510]
                    refine ⟨k2 + 1, by omega, by omega, fun q hq => ?_, by rw [eJ4103]; exact FC_pp kF (by decide), by rw [eJ4103]; exact FC_pp kG (by decide)⟩
                    rw [eJ4103, show i3521.toInt.toNat = k2 by omega, pp_at]
                    split
                    · rename_i e9
                      rw [e9, ← el4102, show i3521.toInt.toNat = k2 by omega, FC_at hy kF 5 (by decide) (by decide)]
                    · exact kA q (by omega)
                  · try simp only [e3506, e3507, e3508, e3509, e3510]
                    omega
            refine WP_sub (fc rfl (fc rfl fn)) (lp3524 _ v3520 J3516 fJ3517 ?_ (Nat.lt_succ_self _))
            · try simp only [e3506, e3507, e3508, e3509, e3510]
              exact ⟨0, by omega, by omega, fun q h => absurd h (Nat.not_lt_zero _), FC_mono jF (by decide), FC_rf⟩
          · refine WP_aload_n dX11_town_86 rfl ?_
            refine WP_getr dX11_town_87 fX11_227 rfl (ly_is hy 0 11 rfl) (rf hr 0 20 2 (by decide)) ?_
            refine WP_iload_n dX11_town_90 rfl ?_
            refine WP_aload_n dX11_town_91 rfl ?_
            refine WP_getr dX11_town_92 fX11_91 rfl (ly_is hy 0 11 rfl) (rf hr 0 22 4 (by decide)) ?_
            refine WP_iload_n dX11_town_95 rfl ?_
            refine WE_la dX11_town_96 (ly_is hy 4 14 rfl) (ly_n hy 4 4 rfl) (by omega) (by omega) (fun l4107 el4107 => ?_)
            refine WE_ls dX11_town_97 (ly_is hy 2 14 rfl) (ly_n hy 2 4 rfl) (by omega) (by omega) (fun J4108 eJ4108 => ?_)
            have e4109 : J4108 (ad g 4) i3515.toInt.toNat = l4107 := by rw [eJ4108, pp_ne _ _ (Or.inl (ly_ne hy (by decide) (by decide) (by decide)))]; exact el4107
            have fJ4110 : FC g [0, 2, 3, 4, 5] J J4108 := by rw [eJ4108]; exact FC_pp fJ3517 (by decide)
            refine WP_iinc (ls' := [(0, _), (1, _)]) dX11_town_98 rfl (by decide) rfl ?_
            have hv4111 : (i3515 + Int32.ofInt (1)).toInt = i3515.toInt + (1) := ia_n rfl (by omega) (by omega)
            generalize i3515 + Int32.ofInt (1) = v4111 at hv4111 ⊢
            refine WP_goto 78 dX11_town_101 rfl ?_
            refine WP_sub (fc rfl (fc rfl fn)) (ihlp3518 v4111 J4108 fJ4110 ?_ ?_)
            · try simp only [e3506, e3507, e3508, e3509, e3510]
              refine ⟨k + 1, by omega, by omega, fun q hq => ?_, by rw [eJ4108]; exact FC_pp jF (by decide)⟩
              rw [eJ4108, show i3515.toInt.toNat = k by omega, pp_at]
              split
              · rename_i e9
                rw [e9, ← el4107, show i3515.toInt.toNat = k by omega, FC_at hy jF 4 (by decide) (by decide)]
              · exact jA q (by omega)
            · try simp only [e3506, e3507, e3508, e3509, e3510]
              omega
      refine WP_sub (fc rfl (fc rfl fn)) (lp3518 _ v3514 J3431 fJ3441 ?_ (Nat.lt_succ_self _))
      · try simp only [e3506, e3507, e3508, e3509, e3510]
        exact ⟨0, by omega, by omega, fun q h => absurd h (Nat.not_lt_zero _), FC_rf⟩
    refine WP_aload_n dX11_town_37 rfl ?_
    refine WP_aload_n dX11_town_38 rfl ?_
    refine WQ_getim dX11_town_39 fX11_161 rfl (ly_is hy 0 11 rfl) e3489 ?_
    refine WQ_iconst (-1) (-1) dX11_town_42 rfl rfl (fun v4112 hv4112 => ?_)
    refine WQ_icmp_eq 53 dX11_town_43 rfl (fun c4112 => ?_) (fun c4112 => ?_)
    · have hs36 : S2.2 36 0 = false := by
        cases h36 : S2.2 36 0 with
        | false => rfl
        | true =>
          have z := hR1.2.2.2
          rw [h36, if_pos rfl] at z
          have z2 := hst h36
          omega
      have h18 := hst2 hs36
      refine WP_aload_n dX11_town_53 rfl ?_
      refine WQ_getim dX11_town_54 fX11_332 rfl (ly_is hy 0 11 rfl) e3492 ?_
      refine WQ_if_le 64 dX11_town_57 rfl (fun c4113 => ?_) (fun c4113 => ?_)
      · refine WQ_iconst (-1) (-1) dX11_town_64 rfl rfl (fun v4115 hv4115 => ?_)
        refine WQ_puti dX11_town_65 fX11_224 rfl rfl (ly_is hy 0 11 rfl) (fun I4116 eI4116 => ?_)
        have e4117 : I4116 (ad g 0) 1 = w3425 := by rw [eI4116, pp_ne _ _ (Or.inr (by decide))]; exact e3483
        have e4118 : I4116 (ad g 0) 8 = w3443 := by rw [eI4116, pp_ne _ _ (Or.inr (by decide))]; exact e3484
        have e4119 : I4116 (ad g 0) 9 = w3444 := by rw [eI4116, pp_ne _ _ (Or.inr (by decide))]; exact e3485
        have e4120 : I4116 (ad g 0) 15 = w3445 := by rw [eI4116, pp_ne _ _ (Or.inr (by decide))]; exact e3486
        have e4121 : I4116 (ad g 0) 16 = w3446 := by rw [eI4116, pp_ne _ _ (Or.inr (by decide))]; exact e3487
        have e4122 : I4116 (ad g 0) 17 = w3447 := by rw [eI4116, pp_ne _ _ (Or.inr (by decide))]; exact e3488
        have e4123 : I4116 (ad g 0) 18 = w3448 := by rw [eI4116, pp_ne _ _ (Or.inr (by decide))]; exact e3489
        have e4124 : I4116 (ad g 0) 19 = w3449 := by rw [eI4116, pp_ne _ _ (Or.inr (by decide))]; exact e3490
        have e4125 : I4116 (ad g 0) 10 = w3445 := by rw [eI4116, pp_ne _ _ (Or.inr (by decide))]; exact e3491
        have e4126 : I4116 (ad g 0) 11 = w3446 := by rw [eI4116, pp_ne _ _ (Or.inr (by decide))]; exact e3492
        have e4127 : I4116 (ad g 0) 13 = w3447 := by rw [eI4116, pp_ne _ _ (Or.inr (by decide))]; exact e3493
        have e4128 : I4116 (ad g 0) 14 = v4115 := by rw [eI4116, pp_self]
        have fI4129 : FC g [0, 6, 7, 8, 9, 10, 11, 12, 13, 14, 15, 16, 17, 18, 19, 20, 21, 22, 23, 24, 25, 26, 27, 28, 29, 30, 31, 32, 33, 34, 37, 38, 44, 46, 47] I I4116 := by rw [eI4116]; exact FC_pp fI3494 (by decide)
        have fQ4130 : FQ g [1, 2, 3, 4, 5, 6, 7, 8, 9, 10, 11, 12, 13, 14, 15, 16, 17, 18, 19, 51, 68] I I4116 := by rw [eI4116]; exact FQ_pp0 fQ3495 (by decide)
        refine WP_sub (fc rfl fn) (jn3499 I4116 fI4129 fQ4130 ?_)
        · try simp only [e4117, e4118, e4119, e4125, e4126, e4127, e4128, e4120, e4121, e4122, e4123, e4124, ew3395, ew3396, ew3397, ew3398, ew3399, ew3400, ew3401, ew3402, ew3403, ew3404, ew3405, ew3406]
          refine ⟨by rw [eI4116]; exact FC_pp (by rw [eI3481]; exact FC_pp (by rw [eI3466]; exact FC_pp (by rw [eI3451]; exact FC_pp FC_rf (by decide)) (by decide)) (by decide)) (by decide), by first | omega | (rw [e4125]; omega), by first | omega | (rw [e4126]; omega), by first | omega | (rw [e4127]; omega), by first | omega | (rw [e4128]; omega), by first | omega | (rw [e4124]; omega)⟩
      · refine WQ_iconst (0) (0) dX11_town_60 rfl rfl (fun v4131 hv4131 => ?_)
        refine WP_goto 65 dX11_town_61 rfl ?_
        refine WQ_puti dX11_town_65 fX11_224 rfl rfl (ly_is hy 0 11 rfl) (fun I4132 eI4132 => ?_)
        have e4133 : I4132 (ad g 0) 1 = w3425 := by rw [eI4132, pp_ne _ _ (Or.inr (by decide))]; exact e3483
        have e4134 : I4132 (ad g 0) 8 = w3443 := by rw [eI4132, pp_ne _ _ (Or.inr (by decide))]; exact e3484
        have e4135 : I4132 (ad g 0) 9 = w3444 := by rw [eI4132, pp_ne _ _ (Or.inr (by decide))]; exact e3485
        have e4136 : I4132 (ad g 0) 15 = w3445 := by rw [eI4132, pp_ne _ _ (Or.inr (by decide))]; exact e3486
        have e4137 : I4132 (ad g 0) 16 = w3446 := by rw [eI4132, pp_ne _ _ (Or.inr (by decide))]; exact e3487
        have e4138 : I4132 (ad g 0) 17 = w3447 := by rw [eI4132, pp_ne _ _ (Or.inr (by decide))]; exact e3488
        have e4139 : I4132 (ad g 0) 18 = w3448 := by rw [eI4132, pp_ne _ _ (Or.inr (by decide))]; exact e3489
        have e4140 : I4132 (ad g 0) 19 = w3449 := by rw [eI4132, pp_ne _ _ (Or.inr (by decide))]; exact e3490
        have e4141 : I4132 (ad g 0) 10 = w3445 := by rw [eI4132, pp_ne _ _ (Or.inr (by decide))]; exact e3491
        have e4142 : I4132 (ad g 0) 11 = w3446 := by rw [eI4132, pp_ne _ _ (Or.inr (by decide))]; exact e3492
        have e4143 : I4132 (ad g 0) 13 = w3447 := by rw [eI4132, pp_ne _ _ (Or.inr (by decide))]; exact e3493
        have e4144 : I4132 (ad g 0) 14 = v4131 := by rw [eI4132, pp_self]
        have fI4145 : FC g [0, 6, 7, 8, 9, 10, 11, 12, 13, 14, 15, 16, 17, 18, 19, 20, 21, 22, 23, 24, 25, 26, 27, 28, 29, 30, 31, 32, 33, 34, 37, 38, 44, 46, 47] I I4132 := by rw [eI4132]; exact FC_pp fI3494 (by decide)
        have fQ4146 : FQ g [1, 2, 3, 4, 5, 6, 7, 8, 9, 10, 11, 12, 13, 14, 15, 16, 17, 18, 19, 51, 68] I I4132 := by rw [eI4132]; exact FQ_pp0 fQ3495 (by decide)
        refine WP_sub (fc rfl fn) (jn3499 I4132 fI4145 fQ4146 ?_)
        · try simp only [e4133, e4134, e4135, e4141, e4142, e4143, e4144, e4136, e4137, e4138, e4139, e4140, ew3395, ew3396, ew3397, ew3398, ew3399, ew3400, ew3401, ew3402, ew3403, ew3404, ew3405, ew3406]
          refine ⟨by rw [eI4132]; exact FC_pp (by rw [eI3481]; exact FC_pp (by rw [eI3466]; exact FC_pp (by rw [eI3451]; exact FC_pp FC_rf (by decide)) (by decide)) (by decide)) (by decide), by first | omega | (rw [e4141]; omega), by first | omega | (rw [e4142]; omega), by first | omega | (rw [e4143]; omega), by first | omega | (rw [e4144]; omega), by first | omega | (rw [e4140]; omega)⟩
    · have hs36 : S2.2 36 0 = true := by
        cases h36 : S2.2 36 0 with
        | true => rfl
        | false => exact absurd hR1.2.2.2 (by rw [h36]; intro z; rw [if_neg (by decide)] at z; omega)
      have h18 := hR1.2.2.2
      rw [if_pos hs36] at h18
      refine WP_aload_n dX11_town_46 rfl ?_
      refine WQ_getim dX11_town_47 fX11_161 rfl (ly_is hy 0 11 rfl) e3489 ?_
      refine WP_goto 65 dX11_town_50 rfl ?_
      refine WQ_puti dX11_town_65 fX11_224 rfl rfl (ly_is hy 0 11 rfl) (fun I4147 eI4147 => ?_)
      have e4148 : I4147 (ad g 0) 1 = w3425 := by rw [eI4147, pp_ne _ _ (Or.inr (by decide))]; exact e3483
      have e4149 : I4147 (ad g 0) 8 = w3443 := by rw [eI4147, pp_ne _ _ (Or.inr (by decide))]; exact e3484
      have e4150 : I4147 (ad g 0) 9 = w3444 := by rw [eI4147, pp_ne _ _ (Or.inr (by decide))]; exact e3485
      have e4151 : I4147 (ad g 0) 15 = w3445 := by rw [eI4147, pp_ne _ _ (Or.inr (by decide))]; exact e3486
      have e4152 : I4147 (ad g 0) 16 = w3446 := by rw [eI4147, pp_ne _ _ (Or.inr (by decide))]; exact e3487
      have e4153 : I4147 (ad g 0) 17 = w3447 := by rw [eI4147, pp_ne _ _ (Or.inr (by decide))]; exact e3488
      have e4154 : I4147 (ad g 0) 18 = w3448 := by rw [eI4147, pp_ne _ _ (Or.inr (by decide))]; exact e3489
      have e4155 : I4147 (ad g 0) 19 = w3449 := by rw [eI4147, pp_ne _ _ (Or.inr (by decide))]; exact e3490
      have e4156 : I4147 (ad g 0) 10 = w3445 := by rw [eI4147, pp_ne _ _ (Or.inr (by decide))]; exact e3491
      have e4157 : I4147 (ad g 0) 11 = w3446 := by rw [eI4147, pp_ne _ _ (Or.inr (by decide))]; exact e3492
      have e4158 : I4147 (ad g 0) 13 = w3447 := by rw [eI4147, pp_ne _ _ (Or.inr (by decide))]; exact e3493
      have e4159 : I4147 (ad g 0) 14 = w3448 := by rw [eI4147, pp_self]
      have fI4160 : FC g [0, 6, 7, 8, 9, 10, 11, 12, 13, 14, 15, 16, 17, 18, 19, 20, 21, 22, 23, 24, 25, 26, 27, 28, 29, 30, 31, 32, 33, 34, 37, 38, 44, 46, 47] I I4147 := by rw [eI4147]; exact FC_pp fI3494 (by decide)
      have fQ4161 : FQ g [1, 2, 3, 4, 5, 6, 7, 8, 9, 10, 11, 12, 13, 14, 15, 16, 17, 18, 19, 51, 68] I I4147 := by rw [eI4147]; exact FQ_pp0 fQ3495 (by decide)
      refine WP_sub (fc rfl fn) (jn3499 I4147 fI4160 fQ4161 ?_)
      · try simp only [e4148, e4149, e4150, e4156, e4157, e4158, e4159, e4151, e4152, e4153, e4154, e4155, ew3395, ew3396, ew3397, ew3398, ew3399, ew3400, ew3401, ew3402, ew3403, ew3404, ew3405, ew3406]
        refine ⟨by rw [eI4147]; exact FC_pp (by rw [eI3481]; exact FC_pp (by rw [eI3466]; exact FC_pp (by rw [eI3451]; exact FC_pp FC_rf (by decide)) (by decide)) (by decide)) (by decide), by first | omega | (rw [e4156]; omega), by first | omega | (rw [e4157]; omega), by first | omega | (rw [e4158]; omega), by first | omega | (rw [e4159]; omega), by first | omega | (rw [e4155]; omega)⟩
  · refine WQ_iconst (-1) (-1) dX11_town_11 rfl rfl (fun v4162 hv4162 => ?_)
    exact WP_iret dX11_town_12 rfl ⟨rfl, fI3440, fJ3441, fQ3442, v4162, rfl, by
      try simp only [e3435, e3436, e3437, e3438, e3439, ew3443, ew3444, ew3445, ew3446, ew3447, ew3448, ew3449, ew3395, ew3396, ew3397, ew3398, ew3399, ew3400, ew3401, ew3402, ew3403, ew3404, ew3405, ew3406]
      rcases p3428 with ⟨z, e⟩ | ⟨z, -⟩
      · exact Or.inl ⟨by omega, e, FC_tr (FC_mono g3410 (by decide)) (FC_mono g3432 (by decide)), FC_tr (FC_mono g3411 (by decide)) (FC_mono g3433 (by decide)), FQ_tr (FQ_mono g3412 (by decide)) (FQ_mono g3434 (by decide))⟩
      · exact absurd z (by omega)⟩
