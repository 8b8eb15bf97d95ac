theorem WE_zs {g : GG} {d : MD} {pc : Nat} {ls : List (Nat × Value)} {st : List Value} {I : pI} {J : pJ} {R : pR} {Q : Post} {a n : Nat} {i x : Int32} (h : decode (md_c d) pc = .ok (.bastore, 1)) (ha : g_is g a 15) (hn : g_n g a = n) (h0 : 0 ≤ i.toInt) (h1 : i.toInt < n) (kk : ∀ (I2 : pI), I2 = pp I a i.toInt.toNat (vp_nar .boolean x) → WP g d (pc + 1) ls st I2 J R Q) : WP g d pc ls (.int x :: .int i :: .ref a :: st) I J R Q := WP_zast h ha (by rw [hn]; exact vin h0 h1) (by rw [cln h0]; exact kk _ rfl)
theorem narz {x : Int32} (h : x.toInt = 0) : (vp_nar .boolean x).toInt = 0 := by
  obtain rfl : x = 0 := (eq32 x 0).mpr h
  rfl
/-- the town at hand of the reference -/
def tsT : List (Nat × Nat × Nat) := [(8, 2, 1), (9, 3, 1), (10, 4, 1), (11, 5, 1), (20, 6, 7), (24, 7, 7), (25, 8, 7), (26, 9, 7)]
def ttT : List (Nat × Nat × Nat) := [(12, 10, 1), (13, 11, 1), (21, 12, 7), (23, 13, 7)]
def RTT (g : GG) (S : TwS) (I : pI) (J : pJ) : Prop :=
  ((I (ad g 0) 10).toInt = S.1 0 1 ∧ (I (ad g 0) 11).toInt = S.1 0 2 ∧ (I (ad g 0) 12).toInt = S.1 0 0 ∧ (I (ad g 0) 13).toInt = S.1 0 3 ∧ (I (ad g 0) 14).toInt = S.1 0 4) ∧
  (∀ q, q < 7 → (I (ad g 6) q).toInt = S.1 1 q) ∧
  (∀ e ∈ tsT, ∀ q : Nat, (q : Int) < (e.2.2 : Int) * S.1 0 1 → (I (ad g e.1) q).toInt = S.1 e.2.1 q) ∧
  (∀ e ∈ ttT, ∀ q : Nat, (q : Int) < (e.2.2 : Int) * S.1 0 2 → (I (ad g e.1) q).toInt = S.1 e.2.1 q) ∧ NMT g S J
def NW0 (S : TwS) (q : Nat) : Int := if q < 28 ∨ 32 ≤ q then (if (q : Int) < S.1 0 1 then S.1 4 q else 0) else 1
/-- all that begins anew with a town -/
def STM (g : GG) (S : TwS) (I : pI) (J : pJ) : Prop := (∀ q : Nat, (q : Int) < 7 * S.1 0 2 → (I (ad g 22) q).toInt = S.1 12 q) ∧ (∀ q, q < 35 → (I (ad g 38) q).toInt = NW0 S q) ∧ (J (ad g 0) 61).toInt = 0 ∧ (∀ q, q < 3 → (I (ad g 44) q).toInt = 0) ∧ (∀ q, q < 28 → (I (ad g 37) q).toInt = 0) ∧ (∀ q, q < 4 → (I (ad g 46) q).toInt = 0 ∧ (I (ad g 47) q).toInt = 0) ∧ (I (ad g 0) 68).toInt = -1
set_option maxHeartbeats 4000000 in
set_option maxRecDepth 100000 in
theorem em_putFour {g : GG} {I : pI} {J : pJ} {R : pR} (hy : Ly g) (hr : Rf g R) {n : Nat} (four : Int32) (h1 : (I (ad g 0) 1).toInt = (n : Int)) (hn : n + 4 ≤ 900) : SP g mX11_putFour [.ref (ad g 0), .int four] I J R (fun r I' J' R' => R' = R ∧ FC g [0, 1] I I' ∧ FC g [] J J' ∧ FQ g [1] I I' ∧ r = none ∧ ((I' (ad g 0) 1).toInt = (n + 4 : Nat) ∧ I' (ad g 1) = PUT (I (ad g 1)) n four 4)) := by
  refine SP_of ⟨by decide, rfl⟩ (Nat.le_of_ble_eq_true rfl) ?_
  have fI0 : FC g [0, 1] I I := FC_rf
  have fJ0 : FC g [] J J := FC_rf
  have fQ0 : FQ g [1] I I := FQ_rf
  obtain ⟨w3020, ew3020⟩ : ∃ w : Int32, I (ad g 0) 1 = w := ⟨_, rfl⟩
  try simp only [ew3020] at h1
  refine WQ_bipush (24) (24) dX11_putFour_0 rfl rfl (fun v3021 hv3021 => ?_)
  refine WP_istore_n (ls' := [(0, _), (1, _), (2, _)]) dX11_putFour_2 (by decide) rfl ?_
  have lp3026 : ∀ (mz : Nat) (i3022 : Int32) (I3023 : pI), FC g [0, 1] I I3023 → FQ g [1] I I3023 → (∃ k : Nat, k ≤ 4 ∧ i3022.toInt = 24 - 8 * (k : Int) ∧ (I3023 (ad g 0) 1).toInt = (n : Int) + k ∧ I3023 (ad g 1) = PUT (I (ad g 1)) n four k) → (i3022.toInt + 9).toNat < mz → WP g mX11_putFour 3 [(0, .ref (ad g 0)), (1, .int four), (2, .int i3022)] [] I3023 J R (fun r I' J' R' => R' = R ∧ FC g [0, 1] I I' ∧ FC g [] J J' ∧ FQ g [1] I I' ∧ r = none ∧ ((I' (ad g 0) 1).toInt = (n + 4 : Nat) ∧ I' (ad g 1) = PUT (I (ad g 1)) n four 4)) := by
    intro mz
    induction mz with
    | zero =>
      intro i3022 I3023 fI3024 fQ3025 hvlp3026 hmlp3026
      exact absurd hmlp3026 (Nat.not_lt_zero _)
    | succ mz ihlp3026 =>
      intro i3022 I3023 fI3024 fQ3025 hvlp3026 hmlp3026
      obtain ⟨w3027, ew3027⟩ : ∃ w : Int32, I3023 (ad g 0) 1 = w := ⟨_, rfl⟩
      try simp only [ew3027, ew3020] at hvlp3026 hmlp3026
      obtain ⟨k, ik, i2, i1, iP⟩ := hvlp3026
      refine WP_iload_n dX11_putFour_3 rfl ?_
      refine WQ_if_lt 36 dX11_putFour_4 rfl (fun c3027 => ?_) (fun c3027 => ?_)
      · exact WP_vret dX11_putFour_36 rfl ⟨rfl, fI3024, fJ0, fQ3025, rfl, by
          try simp only [ew3027, ew3020]
          obtain rfl : k = 4 := by omega
          exact ⟨by omega, iP⟩⟩
      · refine WP_aload_n dX11_putFour_7 rfl ?_
        refine WP_getr dX11_putFour_8 fX11_16 rfl (ly_is hy 0 11 rfl) (rf hr 0 0 1 (by decide)) ?_
        refine WP_aload_n dX11_putFour_11 rfl ?_
        refine WQ_getim dX11_putFour_12 fX11_75 rfl (ly_is hy 0 11 rfl) ew3027 ?_
        refine WP_iload_n dX11_putFour_15 rfl ?_
        refine WP_iload_n dX11_putFour_16 rfl ?_
        refine WP_ishr dX11_putFour_17 ?_
        obtain ⟨v3029, xv3029⟩ : ∃ v : Int32, v = four >>> (i3022 &&& 31) := ⟨_, rfl⟩
        rw [← xv3029]
        refine WP_i2b dX11_putFour_18 ?_
        obtain ⟨v3030, xv3030⟩ : ∃ v : Int32, v = v3029.toInt8.toInt32 := ⟨_, rfl⟩
        rw [← xv3030]
        refine WE_bs dX11_putFour_19 (ly_is hy 1 12 rfl) (ly_n hy 1 900 rfl) (by omega) (by omega) (fun I3031 eI3031 => ?_)
        have e3032 : I3031 (ad g 0) 1 = w3027 := by rw [eI3031, pp_ne _ _ (Or.inl (ly_ne hy (by decide) (by decide) (by decide)))]; exact ew3027
        have fI3033 : FC g [0, 1] I I3031 := by rw [eI3031]; exact FC_pp fI3024 (by decide)
        have fQ3034 : FQ g [1] I I3031 := by rw [eI3031]; exact FQ_ppn (ly_ne hy (by decide) (by decide) (by decide)) fQ3025
        refine WP_aload_n dX11_putFour_20 rfl ?_
        refine WP_dup dX11_putFour_21 rfl ?_
        refine WQ_getim dX11_putFour_22 fX11_75 rfl (ly_is hy 0 11 rfl) e3032 ?_
        refine WQ_iconst (1) (1) dX11_putFour_25 rfl rfl (fun v3035 hv3035 => ?_)
        refine WQ_iadd dX11_putFour_26 (by omega) (by omega) (fun v3036 hv3036 => ?_)
        refine WQ_puti dX11_putFour_27 fX11_75 rfl rfl (ly_is hy 0 11 rfl) (fun I3037 eI3037 => ?_)
        have e3038 : I3037 (ad g 0) 1 = v3036 := by rw [eI3037, pp_self]
        have fI3039 : FC g [0, 1] I I3037 := by rw [eI3037]; exact FC_pp fI3033 (by decide)
        have fQ3040 : FQ g [1] I I3037 := by rw [eI3037]; exact FQ_pp0 fQ3034 (by decide)
        refine WP_iinc (ls' := [(0, _), (1, _), (2, _)]) dX11_putFour_30 rfl (by decide) rfl ?_
        have hv3041 : (i3022 + Int32.ofInt (-8)).toInt = i3022.toInt + (-8) := ia_n rfl (by omega) (by omega)
        generalize i3022 + Int32.ofInt (-8) = v3041 at hv3041 ⊢
        refine WP_goto 3 dX11_putFour_33 rfl ?_
        refine WP_sub (fc rfl (fc rfl (fc rfl fn))) (ihlp3026 v3041 I3037 fI3039 fQ3040 ?_ ?_)
        · try simp only [e3038, ew3020]
          refine ⟨k + 1, by omega, by omega, by omega, ?_⟩
          rw [eI3037, pp_off _ _ (ly_ne hy (by decide) (by decide) (by decide)), eI3031, show w3027.toInt.toNat = n + k by omega, pp_fun, iP]
          exact PUT_s (by4_of (by omega) (by omega) xv3029 xv3030)
        · try simp only [e3038, ew3020]
          omega
  refine WP_sub (fc rfl (fc rfl (fc rfl fn))) (lp3026 _ v3021 I fI0 fQ0 ?_ (Nat.lt_succ_self _))
  · try simp only [ew3020]
    exact ⟨0, by omega, by omega, by omega, PUT_0.symm⟩
set_option maxHeartbeats 4000000 in
set_option maxRecDepth 100000 in
theorem em_feed {g : GG} {I : pI} {J : pJ} {R : pR} (hy : Ly g) (hr : Rf g R) {n : Nat} (a : Int32) (b : Int32) (c : Int32) (d : Int32) (e : Int32) (h1 : (I (ad g 0) 1).toInt = (n : Int)) (hn : n ≤ 900) : SP g mX11_feed [.ref (ad g 0), .int a, .int b, .int c, .int d, .int e] I J R (fun r I' J' R' => R' = R ∧ FC g [0, 1] I I' ∧ FC g [] J J' ∧ FQ g [1] I I' ∧ ∃ v : Int32, r = some (.int v) ∧ ((880 < n ∧ v.toInt = -3 ∧ I' (ad g 1) = I (ad g 1)) ∨ (n ≤ 880 ∧ v.toInt = (n : Int) + 20 ∧ I' (ad g 1) = PUT5 (I (ad g 1)) n a b c d e))) := by
  refine SP_of ⟨by decide, rfl⟩ (Nat.le_of_ble_eq_true rfl) ?_
  have fI0 : FC g [0, 1] I I := FC_rf
  have fJ0 : FC g [] J J := FC_rf
  have fQ0 : FQ g [1] I I := FQ_rf
  have h1x := h1
  obtain ⟨w3042, ew3042⟩ : ∃ w : Int32, I (ad g 0) 1 = w := ⟨_, rfl⟩
  try simp only [ew3042] at h1
  refine WP_aload_n dX11_feed_0 rfl ?_
  refine WQ_getim dX11_feed_1 fX11_75 rfl (ly_is hy 0 11 rfl) ew3042 ?_
  refine WQ_bipush (20) (20) dX11_feed_4 rfl rfl (fun v3043 hv3043 => ?_)
  refine WQ_iadd dX11_feed_6 (by omega) (by omega) (fun v3044 hv3044 => ?_)
  refine WQ_sipush (900) (900) dX11_feed_7 rfl rfl (fun v3045 hv3045 => ?_)
  refine WQ_icmp_le 16 dX11_feed_10 rfl (fun c3045 => ?_) (fun c3045 => ?_)
  · refine WP_aload_n dX11_feed_16 rfl ?_
    refine WP_iload_n dX11_feed_17 rfl ?_
    refine WP_callV1 (k := 11) dX11_feed_18 ⟨⟨⟨by decide, by decide⟩, zX11_putFour⟩, lX11_319, by decide, rfl, vX11_putFour.1, vX11_putFour.2⟩ (ly_is hy 0 11 rfl) (em_putFour hy hr _  (n := n) h1x (by omega)) (Nat.le_of_ble_eq_true rfl) ?_
    intro r I3048 J3049 Ra hq
    obtain ⟨ec, g3050, g3051, g3052, er, p3047⟩ := hq
    rw [ec, er]
    clear ec er Ra r
    have fI3053 : FC g [0, 1] I I3048 := FC_tr fI0 (FC_mono g3050 (by decide))
    have fJ3054 : FC g [] J J3049 := FC_tr fJ0 (FC_mono g3051 (by decide))
    have fQ3055 : FQ g [1] I I3048 := FQ_tr fQ0 (FQ_mono g3052 (by decide))
    obtain ⟨w3056, ew3056⟩ : ∃ w : Int32, I3048 (ad g 0) 1 = w := ⟨_, rfl⟩
    try simp only [ew3056, ew3042] at p3047
    obtain ⟨a1, b1⟩ := p3047
    refine WP_aload_n dX11_feed_21 rfl ?_
    refine WP_iload_n dX11_feed_22 rfl ?_
    refine WP_callV1 (k := 11) dX11_feed_23 ⟨⟨⟨by decide, by decide⟩, zX11_putFour⟩, lX11_319, by decide, rfl, vX11_putFour.1, vX11_putFour.2⟩ (ly_is hy 0 11 rfl) (em_putFour hy hr _  (n := n + 4) (by rw [ew3056]; exact a1) (by omega)) (Nat.le_of_ble_eq_true rfl) ?_
    intro r I3058 J3059 Ra hq
    obtain ⟨ec, g3060, g3061, g3062, er, p3057⟩ := hq
    rw [ec, er]
    clear ec er Ra r
    have fI3063 : FC g [0, 1] I I3058 := FC_tr fI3053 (FC_mono g3060 (by decide))
    have fJ3064 : FC g [] J J3059 := FC_tr fJ3054 (FC_mono g3061 (by decide))
    have fQ3065 : FQ g [1] I I3058 := FQ_tr fQ3055 (FQ_mono g3062 (by decide))
    obtain ⟨w3066, ew3066⟩ : ∃ w : Int32, I3058 (ad g 0) 1 = w := ⟨_, rfl⟩
    try simp only [ew3066, ew3042] at p3057
    obtain ⟨a2, b2⟩ := p3057
    refine WP_aload_n dX11_feed_26 rfl ?_
    refine WP_iload_n dX11_feed_27 rfl ?_
    refine WP_callV1 (k := 11) dX11_feed_28 ⟨⟨⟨by decide, by decide⟩, zX11_putFour⟩, lX11_319, by decide, rfl, vX11_putFour.1, vX11_putFour.2⟩ (ly_is hy 0 11 rfl) (em_putFour hy hr _  (n := n + 4 + 4) (by rw [ew3066]; exact a2) (by omega)) (Nat.le_of_ble_eq_true rfl) ?_
    intro r I3068 J3069 Ra hq
    obtain ⟨ec, g3070, g3071, g3072, er, p3067⟩ := hq
    rw [ec, er]
    clear ec er Ra r
    have fI3073 : FC g [0, 1] I I3068 := FC_tr fI3063 (FC_mono g3070 (by decide))
    have fJ3074 : FC g [] J J3069 := FC_tr fJ3064 (FC_mono g3071 (by decide))
    have fQ3075 : FQ g [1] I I3068 := FQ_tr fQ3065 (FQ_mono g3072 (by decide))
    obtain ⟨w3076, ew3076⟩ : ∃ w : Int32, I3068 (ad g 0) 1 = w := ⟨_, rfl⟩
    try simp only [ew3076, ew3042] at p3067
    obtain ⟨a3, b3⟩ := p3067
    refine WP_aload_n dX11_feed_31 rfl ?_
    refine WP_iload dX11_feed_32 rfl ?_
    refine WP_callV1 (k := 11) dX11_feed_34 ⟨⟨⟨by decide, by decide⟩, zX11_putFour⟩, lX11_319, by decide, rfl, vX11_putFour.1, vX11_putFour.2⟩ (ly_is hy 0 11 rfl) (em_putFour hy hr _  (n := n + 4 + 4 + 4) (by rw [ew3076]; exact a3) (by omega)) (Nat.le_of_ble_eq_true rfl) ?_
    intro r I3078 J3079 Ra hq
    obtain ⟨ec, g3080, g3081, g3082, er, p3077⟩ := hq
    rw [ec, er]
    clear ec er Ra r
    have fI3083 : FC g [0, 1] I I3078 := FC_tr fI3073 (FC_mono g3080 (by decide))
    have fJ3084 : FC g [] J J3079 := FC_tr fJ3074 (FC_mono g3081 (by decide))
    have fQ3085 : FQ g [1] I I3078 := FQ_tr fQ3075 (FQ_mono g3082 (by decide))
    obtain ⟨w3086, ew3086⟩ : ∃ w : Int32, I3078 (ad g 0) 1 = w := ⟨_, rfl⟩
    try simp only [ew3086, ew3042] at p3077
    obtain ⟨a4, b4⟩ := p3077
    refine WP_aload_n dX11_feed_37 rfl ?_
    refine WP_iload dX11_feed_38 rfl ?_
    refine WP_callV1 (k := 11) dX11_feed_40 ⟨⟨⟨by decide, by decide⟩, zX11_putFour⟩, lX11_319, by decide, rfl, vX11_putFour.1, vX11_putFour.2⟩ (ly_is hy 0 11 rfl) (em_putFour hy hr _  (n := n + 4 + 4 + 4 + 4) (by rw [ew3086]; exact a4) (by omega)) (Nat.le_of_ble_eq_true rfl) ?_
    intro r I3088 J3089 Ra hq
    obtain ⟨ec, g3090, g3091, g3092, er, p3087⟩ := hq
    rw [ec, er]
    clear ec er Ra r
    have fI3093 : FC g [0, 1] I I3088 := FC_tr fI3083 (FC_mono g3090 (by decide))
    have fJ3094 : FC g [] J J3089 := FC_tr fJ3084 (FC_mono g3091 (by decide))
    have fQ3095 : FQ g [1] I I3088 := FQ_tr fQ3085 (FQ_mono g3092 (by decide))
    obtain ⟨w3096, ew3096⟩ : ∃ w : Int32, I3088 (ad g 0) 1 = w := ⟨_, rfl⟩
    try simp only [ew3096, ew3042] at p3087
    obtain ⟨a5, b5⟩ := p3087
    refine WP_aload_n dX11_feed_43 rfl ?_
    refine WQ_getim dX11_feed_44 fX11_75 rfl (ly_is hy 0 11 rfl) ew3096 ?_
    exact WP_iret dX11_feed_47 rfl ⟨rfl, fI3093, fJ3094, fQ3095, w3096, rfl, by
      try simp only [ew3096, ew3042]
      refine Or.inr ⟨by omega, by omega, ?_⟩
      rw [b5, b4, b3, b2, b1]
      rfl⟩
  · refine WQ_bipush (-3) (-3) dX11_feed_13 rfl rfl (fun v3097 hv3097 => ?_)
    exact WP_iret dX11_feed_15 rfl ⟨rfl, fI0, fJ0, fQ0, v3097, rfl, by
      try simp only [ew3042]
      exact Or.inl ⟨by omega, by omega, by first | rfl | trivial⟩⟩
set_option maxHeartbeats 4000000 in
set_option maxRecDepth 100000 in
theorem em_copy6 {g : GG} {I : pI} {J : pJ} {R : pR} (hy : Ly g) (hr : Rf g R)    : SP g mX11_copy [.ref (ad g 6), .ref (ad g 7)] I J R (fun r I' J' R' => R' = R ∧ FC g [6] I I' ∧ FC g [] J J' ∧ FQ g [] I I' ∧ r = none ∧ (∀ q, q < 7 → I' (ad g 6) q = I (ad g 7) q)) := by
  refine SP_of ⟨by decide, rfl⟩ (Nat.le_of_ble_eq_true rfl) ?_
  have fI0 : FC g [6] I I := FC_rf
  have fJ0 : FC g [] J J := FC_rf
  have fQ0 : FQ g [] I I := FQ_rf
  refine WQ_iconst (0) (0) dX11_copy_0 rfl rfl (fun v3098 hv3098 => ?_)
  refine WP_istore_n (ls' := [(0, _), (1, _), (2, _)]) dX11_copy_1 (by decide) rfl ?_
  have lp3103 : ∀ (mz : Nat) (i3099 : Int32) (I3100 : pI), FC g [6] I I3100 → FQ g [] I I3100 → (∃ k : Nat, i3099.toInt = (k : Int) ∧ k ≤ 7 ∧ ∀ q, q < k → I3100 (ad g 6) q = I (ad g 7) q) → (8 - i3099.toInt.toNat) < mz → WP g mX11_copy 2 [(0, .ref (ad g 6)), (1, .ref (ad g 7)), (2, .int i3099)] [] I3100 J R (fun r I' J' R' => R' = R ∧ FC g [6] I I' ∧ FC g [] J J' ∧ FQ g [] I I' ∧ r = none ∧ (∀ q, q < 7 → I' (ad g 6) q = I (ad g 7) q)) := by
    intro mz
    induction mz with
    | zero =>
      intro i3099 I3100 fI3101 fQ3102 hvlp3103 hmlp3103
      exact absurd hmlp3103 (Nat.not_lt_zero _)
    | succ mz ihlp3103 =>
      intro i3099 I3100 fI3101 fQ3102 hvlp3103 hmlp3103
      obtain ⟨k, ik, ik4, iA⟩ := hvlp3103
      refine WP_iload_n dX11_copy_2 rfl ?_
      refine WP_aload_n dX11_copy_3 rfl ?_
      refine WP_alen dX11_copy_4 (ly_is hy 6 13 rfl) (by decide) ?_
      rw [(ly_n hy 6 7 rfl)]
      obtain ⟨v3104, hv3104, ev3104⟩ : ∃ v : Int32, v.toInt = 7 ∧ nI 7 = v := ⟨_, nI_toInt (by decide), rfl⟩
      rw [ev3104]; clear ev3104
      refine WQ_icmp_ge 20 dX11_copy_5 rfl (fun c3104 => ?_) (fun c3104 => ?_)
      · exact WP_vret dX11_copy_20 rfl ⟨rfl, fI3101, fJ0, fQ3102, rfl, by
          intro q9 hq9
          exact iA q9 (by omega)⟩
      · refine WP_aload_n dX11_copy_8 rfl ?_
        refine WP_iload_n dX11_copy_9 rfl ?_
        refine WP_aload_n dX11_copy_10 rfl ?_
        refine WP_iload_n dX11_copy_11 rfl ?_
        have fB := fI3101
        refine WE_ia dX11_copy_12 (ly_is hy 7 13 rfl) (ly_n hy 7 7 rfl) (by omega) (by omega) (fun v3106 ev3106 => ?_)
        refine WE_is dX11_copy_13 (ly_is hy 6 13 rfl) (ly_n hy 6 7 rfl) (by omega) (by omega) (fun I3107 eI3107 => ?_)
        have e3108 : I3107 (ad g 7) i3099.toInt.toNat = v3106 := by rw [eI3107, pp_ne _ _ (Or.inl (ly_ne hy (by decide) (by decide) (by decide)))]; exact ev3106
        have fI3109 : FC g [6] I I3107 := by rw [eI3107]; exact FC_pp fI3101 (by decide)
        have fQ3110 : FQ g [] I I3107 := by rw [eI3107]; exact FQ_ppn (ly_ne hy (by decide) (by decide) (by decide)) fQ3102
        refine WP_iinc (ls' := [(0, _), (1, _), (2, _)]) dX11_copy_14 rfl (by decide) rfl ?_
        have hv3111 : (i3099 + Int32.ofInt (1)).toInt = i3099.toInt + (1) := ia_n rfl (by omega) (by omega)
        generalize i3099 + Int32.ofInt (1) = v3111 at hv3111 ⊢
        refine WP_goto 2 dX11_copy_17 rfl ?_
        refine WP_sub (fc rfl (fc rfl (fc rfl fn))) (ihlp3103 v3111 I3107 fI3109 fQ3110 ?_ ?_)
        · refine ⟨k + 1, by omega, by omega, fun q hq => ?_⟩
          rw [eI3107, show i3099.toInt.toNat = k by omega, pp_at]
          split
          · rename_i e9
            rw [e9, ← ev3106, show i3099.toInt.toNat = k by omega, FC_at hy fB 7 (by decide) (by decide)]
          · exact iA q (by omega)
        · omega
  refine WP_sub (fc rfl (fc rfl (fc rfl fn))) (lp3103 _ v3098 I fI0 fQ0 ?_ (Nat.lt_succ_self _))
  · exact ⟨0, by omega, by omega, fun q h => absurd h (Nat.not_lt_zero _)⟩
set_option maxHeartbeats 4000000 in
set_option maxRecDepth 100000 in
theorem em_copy8 {g : GG} {I : pI} {J : pJ} {R : pR} (hy : Ly g) (hr : Rf g R)    : SP g mX11_copy [.ref (ad g 8), .ref (ad g 14)] I J R (fun r I' J' R' => R' = R ∧ FC g [8] I I' ∧ FC g [] J J' ∧ FQ g [] I I' ∧ r = none ∧ (∀ q, q < 4 → I' (ad g 8) q = I (ad g 14) q)) := by
  refine SP_of ⟨by decide, rfl⟩ (Nat.le_of_ble_eq_true rfl) ?_
  have fI0 : FC g [8] I I := FC_rf
  have fJ0 : FC g [] J J := FC_rf
  have fQ0 : FQ g [] I I := FQ_rf
  refine WQ_iconst (0) (0) dX11_copy_0 rfl rfl (fun v3112 hv3112 => ?_)
  refine WP_istore_n (ls' := [(0, _), (1, _), (2, _)]) dX11_copy_1 (by decide) rfl ?_
  have lp3117 : ∀ (mz : Nat) (i3113 : Int32) (I3114 : pI), FC g [8] I I3114 → FQ g [] I I3114 → (∃ k : Nat, i3113.toInt = (k : Int) ∧ k ≤ 4 ∧ ∀ q, q < k → I3114 (ad g 8) q = I (ad g 14) q) → (5 - i3113.toInt.toNat) < mz → WP g mX11_copy 2 [(0, .ref (ad g 8)), (1, .ref (ad g 14)), (2, .int i3113)] [] I3114 J R (fun r I' J' R' => R' = R ∧ FC g [8] I I' ∧ FC g [] J J' ∧ FQ g [] I I' ∧ r = none ∧ (∀ q, q < 4 → I' (ad g 8) q = I (ad g 14) q)) := by
    intro mz
    induction mz with
    | zero =>
      intro i3113 I3114 fI3115 fQ3116 hvlp3117 hmlp3117
      exact absurd hmlp3117 (Nat.not_lt_zero _)
    | succ mz ihlp3117 =>
      intro i3113 I3114 fI3115 fQ3116 hvlp3117 hmlp3117
      obtain ⟨k, ik, ik4, iA⟩ := hvlp3117
      refine WP_iload_n dX11_copy_2 rfl ?_
      refine WP_aload_n dX11_copy_3 rfl ?_
      refine WP_alen dX11_copy_4 (ly_is hy 8 13 rfl) (by decide) ?_
      rw [(ly_n hy 8 4 rfl)]
      obtain ⟨v3118, hv3118, ev3118⟩ : ∃ v : Int32, v.toInt = 4 ∧ nI 4 = v := ⟨_, nI_toInt (by decide), rfl⟩
      rw [ev3118]; clear ev3118
      refine WQ_icmp_ge 20 dX11_copy_5 rfl (fun c3118 => ?_) (fun c3118 => ?_)
      · exact WP_vret dX11_copy_20 rfl ⟨rfl, fI3115, fJ0, fQ3116, rfl, by
          intro q9 hq9
          exact iA q9 (by omega)⟩
      · refine WP_aload_n dX11_copy_8 rfl ?_
        refine WP_iload_n dX11_copy_9 rfl ?_
        refine WP_aload_n dX11_copy_10 rfl ?_
        refine WP_iload_n dX11_copy_11 rfl ?_
        have fB := fI3115
        refine WE_ia dX11_copy_12 (ly_is hy 14 13 rfl) (ly_n hy 14 4 rfl) (by omega) (by omega) (fun v3120 ev3120 => ?_)
        refine WE_is dX11_copy_13 (ly_is hy 8 13 rfl) (ly_n hy 8 4 rfl) (by omega) (by omega) (fun I3121 eI3121 => ?_)
        have e3122 : I3121 (ad g 14) i3113.toInt.toNat = v3120 := by rw [eI3121, pp_ne _ _ (Or.inl (ly_ne hy (by decide) (by decide) (by decide)))]; exact ev3120
        have fI3123 : FC g [8] I I3121 := by rw [eI3121]; exact FC_pp fI3115 (by decide)
        have fQ3124 : FQ g [] I I3121 := by rw [eI3121]; exact FQ_ppn (ly_ne hy (by decide) (by decide) (by decide)) fQ3116
        refine WP_iinc (ls' := [(0, _), (1, _), (2, _)]) dX11_copy_14 rfl (by decide) rfl ?_
        have hv3125 : (i3113 + Int32.ofInt (1)).toInt = i3113.toInt + (1) := ia_n rfl (by omega) (by omega)
        generalize i3113 + Int32.ofInt (1) = v3125 at hv3125 ⊢
        refine WP_goto 2 dX11_copy_17 rfl ?_
        refine WP_sub (fc rfl (fc rfl (fc rfl fn))) (ihlp3117 v3125 I3121 fI3123 fQ3124 ?_ ?_)
        · refine ⟨k + 1, by omega, by omega, fun q hq => ?_⟩
          rw [eI3121, show i3113.toInt.toNat = k by omega, pp_at]
          split
          · rename_i e9
            rw [e9, ← ev3120, show i3113.toInt.toNat = k by omega, FC_at hy fB 14 (by decide) (by decide)]
          · exact iA q (by omega)
        · omega
  refine WP_sub (fc rfl (fc rfl (fc rfl fn))) (lp3117 _ v3112 I fI0 fQ0 ?_ (Nat.lt_succ_self _))
  · exact ⟨0, by omega, by omega, fun q h => absurd h (Nat.not_lt_zero _)⟩
set_option maxHeartbeats 4000000 in
set_option maxRecDepth 100000 in
theorem em_copy9 {g : GG} {I : pI} {J : pJ} {R : pR} (hy : Ly g) (hr : Rf g R)    : SP g mX11_copy [.ref (ad g 9), .ref (ad g 15)] I J R (fun r I' J' R' => R' = R ∧ FC g [9] I I' ∧ FC g [] J J' ∧ FQ g [] I I' ∧ r = none ∧ (∀ q, q < 4 → I' (ad g 9) q = I (ad g 15) q)) := by
  refine SP_of ⟨by decide, rfl⟩ (Nat.le_of_ble_eq_true rfl) ?_
  have fI0 : FC g [9] I I := FC_rf
  have fJ0 : FC g [] J J := FC_rf
  have fQ0 : FQ g [] I I := FQ_rf
  refine WQ_iconst (0) (0) dX11_copy_0 rfl rfl (fun v3126 hv3126 => ?_)
  refine WP_istore_n (ls' := [(0, _), (1, _), (2, _)]) dX11_copy_1 (by decide) rfl ?_
  have lp3131 : ∀ (mz : Nat) (i3127 : Int32) (I3128 : pI), FC g [9] I I3128 → FQ g [] I I3128 → (∃ k : Nat, i3127.toInt = (k : Int) ∧ k ≤ 4 ∧ ∀ q, q < k → I3128 (ad g 9) q = I (ad g 15) q) → (5 - i3127.toInt.toNat) < mz → WP g mX11_copy 2 [(0, .ref (ad g 9)), (1, .ref (ad g 15)), (2, .int i3127)] [] I3128 J R (fun r I' J' R' => R' = R ∧ FC g [9] I I' ∧ FC g [] J J' ∧ FQ g [] I I' ∧ r = none ∧ (∀ q, q < 4 → I' (ad g 9) q = I (ad g 15) q)) := by
    intro mz
    induction mz with
    | zero =>
      intro i3127 I3128 fI3129 fQ3130 hvlp3131 hmlp3131
      exact absurd hmlp3131 (Nat.not_lt_zero _)
    | succ mz ihlp3131 =>
      intro i3127 I3128 fI3129 fQ3130 hvlp3131 hmlp3131
      obtain ⟨k, ik, ik4, iA⟩ := hvlp3131
      refine WP_iload_n dX11_copy_2 rfl ?_
      refine WP_aload_n dX11_copy_3 rfl ?_
      refine WP_alen dX11_copy_4 (ly_is hy 9 13 rfl) (by decide) ?_
      rw [(ly_n hy 9 4 rfl)]
      obtain ⟨v3132, hv3132, ev3132⟩ : ∃ v : Int32, v.toInt = 4 ∧ nI 4 = v := ⟨_, nI_toInt (by decide), rfl⟩
      rw [ev3132]; clear ev3132
      refine WQ_icmp_ge 20 dX11_copy_5 rfl (fun c3132 => ?_) (fun c3132 => ?_)
      · exact WP_vret dX11_copy_20 rfl ⟨rfl, fI3129, fJ0, fQ3130, rfl, by
          intro q9 hq9
          exact iA q9 (by omega)⟩
      · refine WP_aload_n dX11_copy_8 rfl ?_
        refine WP_iload_n dX11_copy_9 rfl ?_
        refine WP_aload_n dX11_copy_10 rfl ?_
        refine WP_iload_n dX11_copy_11 rfl ?_
        have fB := fI3129
        refine WE_ia dX11_copy_12 (ly_is hy 15 13 rfl) (ly_n hy 15 4 rfl) (by omega) (by omega) (fun v3134 ev3134 => ?_)
        refine WE_is dX11_copy_13 (ly_is hy 9 13 rfl) (ly_n hy 9 4 rfl) (by omega) (by omega) (fun I3135 eI3135 => ?_)
        have e3136 : I3135 (ad g 15) i3127.toInt.toNat = v3134 := by rw [eI3135, pp_ne _ _ (Or.inl (ly_ne hy (by decide) (by decide) (by decide)))]; exact ev3134
        have fI3137 : FC g [9] I I3135 := by rw [eI3135]; exact FC_pp fI3129 (by decide)
        have fQ3138 : FQ g [] I I3135 := by rw [eI3135]; exact FQ_ppn (ly_ne hy (by decide) (by decide) (by decide)) fQ3130
        refine WP_iinc (ls' := [(0, _), (1, _), (2, _)]) dX11_copy_14 rfl (by decide) rfl ?_
        have hv3139 : (i3127 + Int32.ofInt (1)).toInt = i3127.toInt + (1) := ia_n rfl (by omega) (by omega)
        generalize i3127 + Int32.ofInt (1) = v3139 at hv3139 ⊢
        refine WP_goto 2 dX11_copy_17 rfl ?_
        refine WP_sub (fc rfl (fc rfl (fc rfl fn))) (ihlp3131 v3139 I3135 fI3137 fQ3138 ?_ ?_)
        · refine ⟨k + 1, by omega, by omega, fun q hq => ?_⟩
          rw [eI3135, show i3127.toInt.toNat = k by omega, pp_at]
          split
          · rename_i e9
            rw [e9, ← ev3134, show i3127.toInt.toNat = k by omega, FC_at hy fB 15 (by decide) (by decide)]
          · exact iA q (by omega)
        · omega
  refine WP_sub (fc rfl (fc rfl (fc rfl fn))) (lp3131 _ v3126 I fI0 fQ0 ?_ (Nat.lt_succ_self _))
  · exact ⟨0, by omega, by omega, fun q h => absurd h (Nat.not_lt_zero _)⟩
set_option maxHeartbeats 4000000 in
set_option maxRecDepth 100000 in
theorem em_copy10 {g : GG} {I : pI} {J : pJ} {R : pR} (hy : Ly g) (hr : Rf g R)    : SP g mX11_copy [.ref (ad g 10), .ref (ad g 16)] I J R (fun r I' J' R' => R' = R ∧ FC g [10] I I' ∧ FC g [] J J' ∧ FQ g [] I I' ∧ r = none ∧ (∀ q, q < 4 → I' (ad g 10) q = I (ad g 16) q)) := by
  refine SP_of ⟨by decide, rfl⟩ (Nat.le_of_ble_eq_true rfl) ?_
  have fI0 : FC g [10] I I := FC_rf
  have fJ0 : FC g [] J J := FC_rf
  have fQ0 : FQ g [] I I := FQ_rf
  refine WQ_iconst (0) (0) dX11_copy_0 rfl rfl (fun v3140 hv3140 => ?_)
  refine WP_istore_n (ls' := [(0, _), (1, _), (2, _)]) dX11_copy_1 (by decide) rfl ?_
  have lp3145 : ∀ (mz : Nat) (i3141 : Int32) (I3142 : pI), FC g [10] I I3142 → FQ g [] I I3142 → (∃ k : Nat, i3141.toInt = (k : Int) ∧ k ≤ 4 ∧ ∀ q, q < k → I3142 (ad g 10) q = I (ad g 16) q) → (5 - i3141.toInt.toNat) < mz → WP g mX11_copy 2 [(0, .ref (ad g 10)), (1, .ref (ad g 16)), (2, .int i3141)] [] I3142 J R (fun r I' J' R' => R' = R ∧ FC g [10] I I' ∧ FC g [] J J' ∧ FQ g [] I I' ∧ r = none ∧ (∀ q, q < 4 → I' (ad g 10) q = I (ad g 16) q)) := by
    intro mz
    induction mz with
    | zero =>
      intro i3141 I3142 fI3143 fQ3144 hvlp3145 hmlp3145
      exact absurd hmlp3145 (Nat.not_lt_zero _)
    | succ mz ihlp3145 =>
      intro i3141 I3142 fI3143 fQ3144 hvlp3145 hmlp3145
      obtain ⟨k, ik, ik4, iA⟩ := hvlp3145
      refine WP_iload_n dX11_copy_2 rfl ?_
      refine WP_aload_n dX11_copy_3 rfl ?_
      refine WP_alen dX11_copy_4 (ly_is hy 10 13 rfl) (by decide) ?_
      rw [(ly_n hy 10 4 rfl)]
      obtain ⟨v3146, hv3146, ev3146⟩ : ∃ v : Int32, v.toInt = 4 ∧ nI 4 = v := ⟨_, nI_toInt (by decide), rfl⟩
      rw [ev3146]; clear ev3146
      refine WQ_icmp_ge 20 dX11_copy_5 rfl (fun c3146 => ?_) (fun c3146 => ?_)
      · exact WP_vret dX11_copy_20 rfl ⟨rfl, fI3143, fJ0, fQ3144, rfl, by
          intro q9 hq9
          exact iA q9 (by omega)⟩
      · refine WP_aload_n dX11_copy_8 rfl ?_
        refine WP_iload_n dX11_copy_9 rfl ?_
        refine WP_aload_n dX11_copy_10 rfl ?_
        refine WP_iload_n dX11_copy_11 rfl ?_
        have fB := fI3143
        refine WE_ia dX11_copy_12 (ly_is hy 16 13 rfl) (ly_n hy 16 4 rfl) (by omega) (by omega) (fun v3148 ev3148 => ?_)
        refine WE_is dX11_copy_13 (ly_is hy 10 13 rfl) (ly_n hy 10 4 rfl) (by omega) (by omega) (fun I3149 eI3149 => ?_)
        have e3150 : I3149 (ad g 16) i3141.toInt.toNat = v3148 := by rw [eI3149, pp_ne _ _ (Or.inl (ly_ne hy (by decide) (by decide) (by decide)))]; exact ev3148
        have fI3151 : FC g [10] I I3149 := by rw [eI3149]; exact FC_pp fI3143 (by decide)
        have fQ3152 : FQ g [] I I3149 := by rw [eI3149]; exact FQ_ppn (ly_ne hy (by decide) (by decide) (by decide)) fQ3144
        refine WP_iinc (ls' := [(0, _), (1, _), (2, _)]) dX11_copy_14 rfl (by decide) rfl ?_
        have hv3153 : (i3141 + Int32.ofInt (1)).toInt = i3141.toInt + (1) := ia_n rfl (by omega) (by omega)
        generalize i3141 + Int32.ofInt (1) = v3153 at hv3153 ⊢
        refine WP_goto 2 dX11_copy_17 rfl ?_
        refine WP_sub (fc rfl (fc rfl (fc rfl fn))) (ihlp3145 v3153 I3149 fI3151 fQ3152 ?_ ?_)
        · refine ⟨k + 1, by omega, by omega, fun q hq => ?_⟩
          rw [eI3149, show i3141.toInt.toNat = k by omega, pp_at]
          split
          · rename_i e9
            rw [e9, ← ev3148, show i3141.toInt.toNat = k by omega, FC_at hy fB 16 (by decide) (by decide)]
          · exact iA q (by omega)
        · omega
  refine WP_sub (fc rfl (fc rfl (fc rfl fn))) (lp3145 _ v3140 I fI0 fQ0 ?_ (Nat.lt_succ_self _))
  · exact ⟨0, by omega, by omega, fun q h => absurd h (Nat.not_lt_zero _)⟩
set_option maxHeartbeats 4000000 in
set_option maxRecDepth 100000 in
theorem em_copy11 {g : GG} {I : pI} {J : pJ} {R : pR} (hy : Ly g) (hr : Rf g R)    : SP g mX11_copy [.ref (ad g 11), .ref (ad g 17)] I J R (fun r I' J' R' => R' = R ∧ FC g [11] I I' ∧ FC g [] J J' ∧ FQ g [] I I' ∧ r = none ∧ (∀ q, q < 4 → I' (ad g 11) q = I (ad g 17) q)) := by
  refine SP_of ⟨by decide, rfl⟩ (Nat.le_of_ble_eq_true rfl) ?_
  have fI0 : FC g [11] I I := FC_rf
  have fJ0 : FC g [] J J := FC_rf
  have fQ0 : FQ g [] I I := FQ_rf
  refine WQ_iconst (0) (0) dX11_copy_0 rfl rfl (fun v3154 hv3154 => ?_)
  refine WP_istore_n (ls' := [(0, _), (1, _), (2, _)]) dX11_copy_1 (by decide) rfl ?_
  have lp3159 : ∀ (mz : Nat) (i3155 : Int32) (I3156 : pI), FC g [11] I I3156 → FQ g [] I I3156 → (∃ k : Nat, i3155.toInt = (k : Int) ∧ k ≤ 4 ∧ ∀ q, q < k → I3156 (ad g 11) q = I (ad g 17) q) → (5 - i3155.toInt.toNat) < mz → WP g mX11_copy 2 [(0, .ref (ad g 11)), (1, .ref (ad g 17)), (2, .int i3155)] [] I3156 J R (fun r I' J' R' => R' = R ∧ FC g [11] I I' ∧ FC g [] J J' ∧ FQ g [] I I' ∧ r = none ∧ (∀ q, q < 4 → I' (ad g 11) q = I (ad g 17) q)) := by
    intro mz
    induction mz with
    | zero =>
      intro i3155 I3156 fI3157 fQ3158 hvlp3159 hmlp3159
      exact absurd hmlp3159 (Nat.not_lt_zero _)
    | succ mz ihlp3159 =>
      intro i3155 I3156 fI3157 fQ3158 hvlp3159 hmlp3159
      obtain ⟨k, ik, ik4, iA⟩ := hvlp3159
      refine WP_iload_n dX11_copy_2 rfl ?_
      refine WP_aload_n dX11_copy_3 rfl ?_
      refine WP_alen dX11_copy_4 (ly_is hy 11 13 rfl) (by decide) ?_
      rw [(ly_n hy 11 4 rfl)]
      obtain ⟨v3160, hv3160, ev3160⟩ : ∃ v : Int32, v.toInt = 4 ∧ nI 4 = v := ⟨_, nI_toInt (by decide), rfl⟩
      rw [ev3160]; clear ev3160
      refine WQ_icmp_ge 20 dX11_copy_5 rfl (fun c3160 => ?_) (fun c3160 => ?_)
      · exact WP_vret dX11_copy_20 rfl ⟨rfl, fI3157, fJ0, fQ3158, rfl, by
          intro q9 hq9
          exact iA q9 (by omega)⟩
      · refine WP_aload_n dX11_copy_8 rfl ?_
        refine WP_iload_n dX11_copy_9 rfl ?_
        refine WP_aload_n dX11_copy_10 rfl ?_
        refine WP_iload_n dX11_copy_11 rfl ?_
        have fB := fI3157
        refine WE_ia dX11_copy_12 (ly_is hy 17 13 rfl) (ly_n hy 17 4 rfl) (by omega) (by omega) (fun v3162 ev3162 => ?_)
        refine WE_is dX11_copy_13 (ly_is hy 11 13 rfl) (ly_n hy 11 4 rfl) (by omega) (by omega) (fun I3163 eI3163 => ?_)
        have e3164 : I3163 (ad g 17) i3155.toInt.toNat = v3162 := by rw [eI3163, pp_ne _ _ (Or.inl (ly_ne hy (by decide) (by decide) (by decide)))]; exact ev3162
        have fI3165 : FC g [11] I I3163 := by rw [eI3163]; exact FC_pp fI3157 (by decide)
        have fQ3166 : FQ g [] I I3163 := by rw [eI3163]; exact FQ_ppn (ly_ne hy (by decide) (by decide) (by decide)) fQ3158
        refine WP_iinc (ls' := [(0, _), (1, _), (2, _)]) dX11_copy_14 rfl (by decide) rfl ?_
        have hv3167 : (i3155 + Int32.ofInt (1)).toInt = i3155.toInt + (1) := ia_n rfl (by omega) (by omega)
        generalize i3155 + Int32.ofInt (1) = v3167 at hv3167 ⊢
        refine WP_goto 2 dX11_copy_17 rfl ?_
        refine WP_sub (fc rfl (fc rfl (fc rfl fn))) (ihlp3159 v3167 I3163 fI3165 fQ3166 ?_ ?_)
        · refine ⟨k + 1, by omega, by omega, fun q hq => ?_⟩
          rw [eI3163, show i3155.toInt.toNat = k by omega, pp_at]
          split
          · rename_i e9
            rw [e9, ← ev3162, show i3155.toInt.toNat = k by omega, FC_at hy fB 17 (by decide) (by decide)]
          · exact iA q (by omega)
        · omega
  refine WP_sub (fc rfl (fc rfl (fc rfl fn))) (lp3159 _ v3154 I fI0 fQ0 ?_ (Nat.lt_succ_self _))
  · exact ⟨0, by omega, by omega, fun q h => absurd h (Nat.not_lt_zero _)⟩
set_option maxHeartbeats 4000000 in
set_option maxRecDepth 100000 in
theorem em_copy12 {g : GG} {I : pI} {J : pJ} {R : pR} (hy : Ly g) (hr : Rf g R)    : SP g mX11_copy [.ref (ad g 12), .ref (ad g 18)] I J R (fun r I' J' R' => R' = R ∧ FC g [12] I I' ∧ FC g [] J J' ∧ FQ g [] I I' ∧ r = none ∧ (∀ q, q < 3 → I' (ad g 12) q = I (ad g 18) q)) := by
  refine SP_of ⟨by decide, rfl⟩ (Nat.le_of_ble_eq_true rfl) ?_
  have fI0 : FC g [12] I I := FC_rf
  have fJ0 : FC g [] J J := FC_rf
  have fQ0 : FQ g [] I I := FQ_rf
  refine WQ_iconst (0) (0) dX11_copy_0 rfl rfl (fun v3168 hv3168 => ?_)
  refine WP_istore_n (ls' := [(0, _), (1, _), (2, _)]) dX11_copy_1 (by decide) rfl ?_
  have lp3173 : ∀ (mz : Nat) (i3169 : Int32) (I3170 : pI), FC g [12] I I3170 → FQ g [] I I3170 → (∃ k : Nat, i3169.toInt = (k : Int) ∧ k ≤ 3 ∧ ∀ q, q < k → I3170 (ad g 12) q = I (ad g 18) q) → (4 - i3169.toInt.toNat) < mz → WP g mX11_copy 2 [(0, .ref (ad g 12)), (1, .ref (ad g 18)), (2, .int i3169)] [] I3170 J R (fun r I' J' R' => R' = R ∧ FC g [12] I I' ∧ FC g [] J J' ∧ FQ g [] I I' ∧ r = none ∧ (∀ q, q < 3 → I' (ad g 12) q = I (ad g 18) q)) := by
    intro mz
    induction mz with
    | zero =>
      intro i3169 I3170 fI3171 fQ3172 hvlp3173 hmlp3173
      exact absurd hmlp3173 (Nat.not_lt_zero _)
    | succ mz ihlp3173 =>
      intro i3169 I3170 fI3171 fQ3172 hvlp3173 hmlp3173
      obtain ⟨k, ik, ik4, iA⟩ := hvlp3173
      refine WP_iload_n dX11_copy_2 rfl ?_
      refine WP_aload_n dX11_copy_3 rfl ?_
      refine WP_alen dX11_copy_4 (ly_is hy 12 13 rfl) (by decide) ?_
      rw [(ly_n hy 12 3 rfl)]
      obtain ⟨v3174, hv3174, ev3174⟩ : ∃ v : Int32, v.toInt = 3 ∧ nI 3 = v := ⟨_, nI_toInt (by decide), rfl⟩
      rw [ev3174]; clear ev3174
      refine WQ_icmp_ge 20 dX11_copy_5 rfl (fun c3174 => ?_) (fun c3174 => ?_)
      · exact WP_vret dX11_copy_20 rfl ⟨rfl, fI3171, fJ0, fQ3172, rfl, by
          intro q9 hq9
          exact iA q9 (by omega)⟩
      · refine WP_aload_n dX11_copy_8 rfl ?_
        refine WP_iload_n dX11_copy_9 rfl ?_
        refine WP_aload_n dX11_copy_10 rfl ?_
        refine WP_iload_n dX11_copy_11 rfl ?_
        have fB := fI3171
        refine WE_ia dX11_copy_12 (ly_is hy 18 13 rfl) (ly_n hy 18 3 rfl) (by omega) (by omega) (fun v3176 ev3176 => ?_)
        refine WE_is dX11_copy_13 (ly_is hy 12 13 rfl) (ly_n hy 12 3 rfl) (by omega) (by omega) (fun I3177 eI3177 => ?_)
        have e3178 : I3177 (ad g 18) i3169.toInt.toNat = v3176 := by rw [eI3177, pp_ne _ _ (Or.inl (ly_ne hy (by decide) (by decide) (by decide)))]; exact ev3176
        have fI3179 : FC g [12] I I3177 := by rw [eI3177]; exact FC_pp fI3171 (by decide)
        have fQ3180 : FQ g [] I I3177 := by rw [eI3177]; exact FQ_ppn (ly_ne hy (by decide) (by decide) (by decide)) fQ3172
        refine WP_iinc (ls' := [(0, _), (1, _), (2, _)]) dX11_copy_14 rfl (by decide) rfl ?_
        have hv3181 : (i3169 + Int32.ofInt (1)).toInt = i3169.toInt + (1) := ia_n rfl (by omega) (by omega)
        generalize i3169 + Int32.ofInt (1) = v3181 at hv3181 ⊢
        refine WP_goto 2 dX11_copy_17 rfl ?_
        refine WP_sub (fc rfl (fc rfl (fc rfl fn))) (ihlp3173 v3181 I3177 fI3179 fQ3180 ?_ ?_)
        · refine ⟨k + 1, by omega, by omega, fun q hq => ?_⟩
          rw [eI3177, show i3169.toInt.toNat = k by omega, pp_at]
          split
          · rename_i e9
            rw [e9, ← ev3176, show i3169.toInt.toNat = k by omega, FC_at hy fB 18 (by decide) (by decide)]
          · exact iA q (by omega)
        · omega
  refine WP_sub (fc rfl (fc rfl (fc rfl fn))) (lp3173 _ v3168 I fI0 fQ0 ?_ (Nat.lt_succ_self _))
  · exact ⟨0, by omega, by omega, fun q h => absurd h (Nat.not_lt_zero _)⟩
set_option maxHeartbeats 4000000 in
set_option maxRecDepth 100000 in
theorem em_copy13 {g : GG} {I : pI} {J : pJ} {R : pR} (hy : Ly g) (hr : Rf g R)    : SP g mX11_copy [.ref (ad g 13), .ref (ad g 19)] I J R (fun r I' J' R' => R' = R ∧ FC g [13] I I' ∧ FC g [] J J' ∧ FQ g [] I I' ∧ r = none ∧ (∀ q, q < 3 → I' (ad g 13) q = I (ad g 19) q)) := by
  refine SP_of ⟨by decide, rfl⟩ (Nat.le_of_ble_eq_true rfl) ?_
  have fI0 : FC g [13] I I := FC_rf
  have fJ0 : FC g [] J J := FC_rf
  have fQ0 : FQ g [] I I := FQ_rf
  refine WQ_iconst (0) (0) dX11_copy_0 rfl rfl (fun v3182 hv3182 => ?_)
  refine WP_istore_n (ls' := [(0, _), (1, _), (2, _)]) dX11_copy_1 (by decide) rfl ?_
  have lp3187 : ∀ (mz : Nat) (i3183 : Int32) (I3184 : pI), FC g [13] I I3184 → FQ g [] I I3184 → (∃ k : Nat, i3183.toInt = (k : Int) ∧ k ≤ 3 ∧ ∀ q, q < k → I3184 (ad g 13) q = I (ad g 19) q) → (4 - i3183.toInt.toNat) < mz → WP g mX11_copy 2 [(0, .ref (ad g 13)), (1, .ref (ad g 19)), (2, .int i3183)] [] I3184 J R (fun r I' J' R' => R' = R ∧ FC g [13] I I' ∧ FC g [] J J' ∧ FQ g [] I I' ∧ r = none ∧ (∀ q, q < 3 → I' (ad g 13) q = I (ad g 19) q)) := by
    intro mz
    induction mz with
    | zero =>
      intro i3183 I3184 fI3185 fQ3186 hvlp3187 hmlp3187
      exact absurd hmlp3187 (Nat.not_lt_zero _)
    | succ mz ihlp3187 =>
      intro i3183 I3184 fI3185 fQ3186 hvlp3187 hmlp3187
      obtain ⟨k, ik, ik4, iA⟩ := hvlp3187
      refine WP_iload_n dX11_copy_2 rfl ?_
      refine WP_aload_n dX11_copy_3 rfl ?_
      refine WP_alen dX11_copy_4 (ly_is hy 13 13 rfl) (by decide) ?_
      rw [(ly_n hy 13 3 rfl)]
      obtain ⟨v3188, hv3188, ev3188⟩ : ∃ v : Int32, v.toInt = 3 ∧ nI 3 = v := ⟨_, nI_toInt (by decide), rfl⟩
      rw [ev3188]; clear ev3188
      refine WQ_icmp_ge 20 dX11_copy_5 rfl (fun c3188 => ?_) (fun c3188 => ?_)
      · exact WP_vret dX11_copy_20 rfl ⟨rfl, fI3185, fJ0, fQ3186, rfl, by
          intro q9 hq9
          exact iA q9 (by omega)⟩
      · refine WP_aload_n dX11_copy_8 rfl ?_
        refine WP_iload_n dX11_copy_9 rfl ?_
        refine WP_aload_n dX11_copy_10 rfl ?_
        refine WP_iload_n dX11_copy_11 rfl ?_
        have fB := fI3185
        refine WE_ia dX11_copy_12 (ly_is hy 19 13 rfl) (ly_n hy 19 3 rfl) (by omega) (by omega) (fun v3190 ev3190 => ?_)
        refine WE_is dX11_copy_13 (ly_is hy 13 13 rfl) (ly_n hy 13 3 rfl) (by omega) (by omega) (fun I3191 eI3191 => ?_)
        have e3192 : I3191 (ad g 19) i3183.toInt.toNat = v3190 := by rw [eI3191, pp_ne _ _ (Or.inl (ly_ne hy (by decide) (by decide) (by decide)))]; exact ev3190
        have fI3193 : FC g [13] I I3191 := by rw [eI3191]; exact FC_pp fI3185 (by decide)
        have fQ3194 : FQ g [] I I3191 := by rw [eI3191]; exact FQ_ppn (ly_ne hy (by decide) (by decide) (by decide)) fQ3186
        refine WP_iinc (ls' := [(0, _), (1, _), (2, _)]) dX11_copy_14 rfl (by decide) rfl ?_
        have hv3195 : (i3183 + Int32.ofInt (1)).toInt = i3183.toInt + (1) := ia_n rfl (by omega) (by omega)
        generalize i3183 + Int32.ofInt (1) = v3195 at hv3195 ⊢
        refine WP_goto 2 dX11_copy_17 rfl ?_
        refine WP_sub (fc rfl (fc rfl (fc rfl fn))) (ihlp3187 v3195 I3191 fI3193 fQ3194 ?_ ?_)
        · refine ⟨k + 1, by omega, by omega, fun q hq => ?_⟩
          rw [eI3191, show i3183.toInt.toNat = k by omega, pp_at]
          split
          · rename_i e9
            rw [e9, ← ev3190, show i3183.toInt.toNat = k by omega, FC_at hy fB 19 (by decide) (by decide)]
          · exact iA q (by omega)
        · omega
  refine WP_sub (fc rfl (fc rfl (fc rfl fn))) (lp3187 _ v3182 I fI0 fQ0 ?_ (Nat.lt_succ_self _))
  · exact ⟨0, by omega, by omega, fun q h => absurd h (Nat.not_lt_zero _)⟩
set_option maxHeartbeats 4000000 in
set_option maxRecDepth 100000 in
theorem em_copy20 {g : GG} {I : pI} {J : pJ} {R : pR} (hy : Ly g) (hr : Rf g R)    : SP g mX11_copy [.ref (ad g 20), .ref (ad g 27)] I J R (fun r I' J' R' => R' = R ∧ FC g [20] I I' ∧ FC g [] J J' ∧ FQ g [] I I' ∧ r = none ∧ (∀ q, q < 28 → I' (ad g 20) q = I (ad g 27) q)) := by
  refine SP_of ⟨by decide, rfl⟩ (Nat.le_of_ble_eq_true rfl) ?_
  have fI0 : FC g [20] I I := FC_rf
  have fJ0 : FC g [] J J := FC_rf
  have fQ0 : FQ g [] I I := FQ_rf
  refine WQ_iconst (0) (0) dX11_copy_0 rfl rfl (fun v3196 hv3196 => ?_)
  refine WP_istore_n (ls' := [(0, _), (1, _), (2, _)]) dX11_copy_1 (by decide) rfl ?_
  have lp3201 : ∀ (mz : Nat) (i3197 : Int32) (I3198 : pI), FC g [20] I I3198 → FQ g [] I I3198 → (∃ k : Nat, i3197.toInt = (k : Int) ∧ k ≤ 28 ∧ ∀ q, q < k → I3198 (ad g 20) q = I (ad g 27) q) → (29 - i3197.toInt.toNat) < mz → WP g mX11_copy 2 [(0, .ref (ad g 20)), (1, .ref (ad g 27)), (2, .int i3197)] [] I3198 J R (fun r I' J' R' => R' = R ∧ FC g [20] I I' ∧ FC g [] J J' ∧ FQ g [] I I' ∧ r = none ∧ (∀ q, q < 28 → I' (ad g 20) q = I (ad g 27) q)) := by
    intro mz
    induction mz with
    | zero =>
      intro i3197 I3198 fI3199 fQ3200 hvlp3201 hmlp3201
      exact absurd hmlp3201 (Nat.not_lt_zero _)
    | succ mz ihlp3201 =>
      intro i3197 I3198 fI3199 fQ3200 hvlp3201 hmlp3201
      obtain ⟨k, ik, ik4, iA⟩ := hvlp3201
      refine WP_iload_n dX11_copy_2 rfl ?_
      refine WP_aload_n dX11_copy_3 rfl ?_
      refine WP_alen dX11_copy_4 (ly_is hy 20 13 rfl) (by decide) ?_
      rw [(ly_n hy 20 28 rfl)]
      obtain ⟨v3202, hv3202, ev3202⟩ : ∃ v : Int32, v.toInt = 28 ∧ nI 28 = v := ⟨_, nI_toInt (by decide), rfl⟩
      rw [ev3202]; clear ev3202
      refine WQ_icmp_ge 20 dX11_copy_5 rfl (fun c3202 => ?_) (fun c3202 => ?_)
      · exact WP_vret dX11_copy_20 rfl ⟨rfl, fI3199, fJ0, fQ3200, rfl, by
          intro q9 hq9
          exact iA q9 (by omega)⟩
      · refine WP_aload_n dX11_copy_8 rfl ?_
        refine WP_iload_n dX11_copy_9 rfl ?_
        refine WP_aload_n dX11_copy_10 rfl ?_
        refine WP_iload_n dX11_copy_11 rfl ?_
        have fB := fI3199
        refine WE_ia dX11_copy_12 (ly_is hy 27 13 rfl) (ly_n hy 27 28 rfl) (by omega) (by omega) (fun v3204 ev3204 => ?_)
        refine WE_is dX11_copy_13 (ly_is hy 20 13 rfl) (ly_n hy 20 28 rfl) (by omega) (by omega) (fun I3205 eI3205 => ?_)
        have e3206 : I3205 (ad g 27) i3197.toInt.toNat = v3204 := by rw [eI3205, pp_ne _ _ (Or.inl (ly_ne hy (by decide) (by decide) (by decide)))]; exact ev3204
        have fI3207 : FC g [20] I I3205 := by rw [eI3205]; exact FC_pp fI3199 (by decide)
        have fQ3208 : FQ g [] I I3205 := by rw [eI3205]; exact FQ_ppn (ly_ne hy (by decide) (by decide) (by decide)) fQ3200
        refine WP_iinc (ls' := [(0, _), (1, _), (2, _)]) dX11_copy_14 rfl (by decide) rfl ?_
        have hv3209 : (i3197 + Int32.ofInt (1)).toInt = i3197.toInt + (1) := ia_n rfl (by omega) (by omega)
        generalize i3197 + Int32.ofInt (1) = v3209 at hv3209 ⊢
        refine WP_goto 2 dX11_copy_17 rfl ?_
        refine WP_sub (fc rfl (fc rfl (fc rfl fn))) (ihlp3201 v3209 I3205 fI3207 fQ3208 ?_ ?_)
        · refine ⟨k + 1, by omega, by omega, fun q hq => ?_⟩
          rw [eI3205, show i3197.toInt.toNat = k by omega, pp_at]
          split
          · rename_i e9
            rw [e9, ← ev3204, show i3197.toInt.toNat = k by omega, FC_at hy fB 27 (by decide) (by decide)]
          · exact iA q (by omega)
        · omega
  refine WP_sub (fc rfl (fc rfl (fc rfl fn))) (lp3201 _ v3196 I fI0 fQ0 ?_ (Nat.lt_succ_self _))
  · exact ⟨0, by omega, by omega, fun q h => absurd h (Nat.not_lt_zero _)⟩
set_option maxHeartbeats 4000000 in
set_option maxRecDepth 100000 in
theorem em_copy21 {g : GG} {I : pI} {J : pJ} {R : pR} (hy : Ly g) (hr : Rf g R)    : SP g mX11_copy [.ref (ad g 21), .ref (ad g 28)] I J R (fun r I' J' R' => R' = R ∧ FC g [21] I I' ∧ FC g [] J J' ∧ FQ g [] I I' ∧ r = none ∧ (∀ q, q < 21 → I' (ad g 21) q = I (ad g 28) q)) := by
  refine SP_of ⟨by decide, rfl⟩ (Nat.le_of_ble_eq_true rfl) ?_
  have fI0 : FC g [21] I I := FC_rf
  have fJ0 : FC g [] J J := FC_rf
  have fQ0 : FQ g [] I I := FQ_rf
  refine WQ_iconst (0) (0) dX11_copy_0 rfl rfl (fun v3210 hv3210 => ?_)
  refine WP_istore_n (ls' := [(0, _), (1, _), (2, _)]) dX11_copy_1 (by decide) rfl ?_
  have lp3215 : ∀ (mz : Nat) (i3211 : Int32) (I3212 : pI), FC g [21] I I3212 → FQ g [] I I3212 → (∃ k : Nat, i3211.toInt = (k : Int) ∧ k ≤ 21 ∧ ∀ q, q < k → I3212 (ad g 21) q = I (ad g 28) q) → (22 - i3211.toInt.toNat) < mz → WP g mX11_copy 2 [(0, .ref (ad g 21)), (1, .ref (ad g 28)), (2, .int i3211)] [] I3212 J R (fun r I' J' R' => R' = R ∧ FC g [21] I I' ∧ FC g [] J J' ∧ FQ g [] I I' ∧ r = none ∧ (∀ q, q < 21 → I' (ad g 21) q = I (ad g 28) q)) := by
    intro mz
    induction mz with
    | zero =>
      intro i3211 I3212 fI3213 fQ3214 hvlp3215 hmlp3215
      exact absurd hmlp3215 (Nat.not_lt_zero _)
    | succ mz ihlp3215 =>
      intro i3211 I3212 fI3213 fQ3214 hvlp3215 hmlp3215
      obtain ⟨k, ik, ik4, iA⟩ := hvlp3215
      refine WP_iload_n dX11_copy_2 rfl ?_
      refine WP_aload_n dX11_copy_3 rfl ?_
      refine WP_alen dX11_copy_4 (ly_is hy 21 13 rfl) (by decide) ?_
      rw [(ly_n hy 21 21 rfl)]
      obtain ⟨v3216, hv3216, ev3216⟩ : ∃ v : Int32, v.toInt = 21 ∧ nI 21 = v := ⟨_, nI_toInt (by decide), rfl⟩
      rw [ev3216]; clear ev3216
      refine WQ_icmp_ge 20 dX11_copy_5 rfl (fun c3216 => ?_) (fun c3216 => ?_)
      · exact WP_vret dX11_copy_20 rfl ⟨rfl, fI3213, fJ0, fQ3214, rfl, by
          intro q9 hq9
          exact iA q9 (by omega)⟩
      · refine WP_aload_n dX11_copy_8 rfl ?_
        refine WP_iload_n dX11_copy_9 rfl ?_
        refine WP_aload_n dX11_copy_10 rfl ?_
        refine WP_iload_n dX11_copy_11 rfl ?_
        have fB := fI3213
        refine WE_ia dX11_copy_12 (ly_is hy 28 13 rfl) (ly_n hy 28 21 rfl) (by omega) (by omega) (fun v3218 ev3218 => ?_)
        refine WE_is dX11_copy_13 (ly_is hy 21 13 rfl) (ly_n hy 21 21 rfl) (by omega) (by omega) (fun I3219 eI3219 => ?_)
        have e3220 : I3219 (ad g 28) i3211.toInt.toNat = v3218 := by rw [eI3219, pp_ne _ _ (Or.inl (ly_ne hy (by decide) (by decide) (by decide)))]; exact ev3218
        have fI3221 : FC g [21] I I3219 := by rw [eI3219]; exact FC_pp fI3213 (by decide)
        have fQ3222 : FQ g [] I I3219 := by rw [eI3219]; exact FQ_ppn (ly_ne hy (by decide) (by decide) (by decide)) fQ3214
        refine WP_iinc (ls' := [(0, _), (1, _), (2, _)]) dX11_copy_14 rfl (by decide) rfl ?_
        have hv3223 : (i3211 + Int32.ofInt (1)).toInt = i3211.toInt + (1) := ia_n rfl (by omega) (by omega)
        generalize i3211 + Int32.ofInt (1) = v3223 at hv3223 ⊢
        refine WP_goto 2 dX11_copy_17 rfl ?_
        refine WP_sub (fc rfl (fc rfl (fc rfl fn))) (ihlp3215 v3223 I3219 fI3221 fQ3222 ?_ ?_)
        · refine ⟨k + 1, by omega, by omega, fun q hq => ?_⟩
          rw [eI3219, show i3211.toInt.toNat = k by omega, pp_at]
          split
          · rename_i e9
            rw [e9, ← ev3218, show i3211.toInt.toNat = k by omega, FC_at hy fB 28 (by decide) (by decide)]
          · exact iA q (by omega)
        · omega
  refine WP_sub (fc rfl (fc rfl (fc rfl fn))) (lp3215 _ v3210 I fI0 fQ0 ?_ (Nat.lt_succ_self _))
  · exact ⟨0, by omega, by omega, fun q h => absurd h (Nat.not_lt_zero _)⟩
set_option maxHeartbeats 4000000 in
set_option maxRecDepth 100000 in
theorem em_copy22 {g : GG} {I : pI} {J : pJ} {R : pR} (hy : Ly g) (hr : Rf g R)    : SP g mX11_copy [.ref (ad g 22), .ref (ad g 28)] I J R (fun r I' J' R' => R' = R ∧ FC g [22] I I' ∧ FC g [] J J' ∧ FQ g [] I I' ∧ r = none ∧ (∀ q, q < 21 → I' (ad g 22) q = I (ad g 28) q)) := by
  refine SP_of ⟨by decide, rfl⟩ (Nat.le_of_ble_eq_true rfl) ?_
  have fI0 : FC g [22] I I := FC_rf
  have fJ0 : FC g [] J J := FC_rf
  have fQ0 : FQ g [] I I := FQ_rf
  refine WQ_iconst (0) (0) dX11_copy_0 rfl rfl (fun v3224 hv3224 => ?_)
  refine WP_istore_n (ls' := [(0, _), (1, _), (2, _)]) dX11_copy_1 (by decide) rfl ?_
  have lp3229 : ∀ (mz : Nat) (i3225 : Int32) (I3226 : pI), FC g [22] I I3226 → FQ g [] I I3226 → (∃ k : Nat, i3225.toInt = (k : Int) ∧ k ≤ 21 ∧ ∀ q, q < k → I3226 (ad g 22) q = I (ad g 28) q) → (22 - i3225.toInt.toNat) < mz → WP g mX11_copy 2 [(0, .ref (ad g 22)), (1, .ref (ad g 28)), (2, .int i3225)] [] I3226 J R (fun r I' J' R' => R' = R ∧ FC g [22] I I' ∧ FC g [] J J' ∧ FQ g [] I I' ∧ r = none ∧ (∀ q, q < 21 → I' (ad g 22) q = I (ad g 28) q)) := by
    intro mz
    induction mz with
    | zero =>
      intro i3225 I3226 fI3227 fQ3228 hvlp3229 hmlp3229
      exact absurd hmlp3229 (Nat.not_lt_zero _)
    | succ mz ihlp3229 =>
      intro i3225 I3226 fI3227 fQ3228 hvlp3229 hmlp3229
      obtain ⟨k, ik, ik4, iA⟩ := hvlp3229
      refine WP_iload_n dX11_copy_2 rfl ?_
      refine WP_aload_n dX11_copy_3 rfl ?_
      refine WP_alen dX11_copy_4 (ly_is hy 22 13 rfl) (by decide) ?_
      rw [(ly_n hy 22 21 rfl)]
      obtain ⟨v3230, hv3230, ev3230⟩ : ∃ v : Int32, v.toInt = 21 ∧ nI 21 = v := ⟨_, nI_toInt (by decide), rfl⟩
      rw [ev3230]; clear ev3230
      refine WQ_icmp_ge 20 dX11_copy_5 rfl (fun c3230 => ?_) (fun c3230 => ?_)
      · exact WP_vret dX11_copy_20 rfl ⟨rfl, fI3227, fJ0, fQ3228, rfl, by
          intro q9 hq9
          exact iA q9 (by omega)⟩
      · refine WP_aload_n dX11_copy_8 rfl ?_
        refine WP_iload_n dX11_copy_9 rfl ?_
        refine WP_aload_n dX11_copy_10 rfl ?_
        refine WP_iload_n dX11_copy_11 rfl ?_
        have fB := fI3227
        refine WE_ia dX11_copy_12 (ly_is hy 28 13 rfl) (ly_n hy 28 21 rfl) (by omega) (by omega) (fun v3232 ev3232 => ?_)
        refine WE_is dX11_copy_13 (ly_is hy 22 13 rfl) (ly_n hy 22 21 rfl) (by omega) (by omega) (fun I3233 eI3233 => ?_)
        have e3234 : I3233 (ad g 28) i3225.toInt.toNat = v3232 := by rw [eI3233, pp_ne _ _ (Or.inl (ly_ne hy (by decide) (by decide) (by decide)))]; exact ev3232
        have fI3235 : FC g [22] I I3233 := by rw [eI3233]; exact FC_pp fI3227 (by decide)
        have fQ3236 : FQ g [] I I3233 := by rw [eI3233]; exact FQ_ppn (ly_ne hy (by decide) (by decide) (by decide)) fQ3228
        refine WP_iinc (ls' := [(0, _), (1, _), (2, _)]) dX11_copy_14 rfl (by decide) rfl ?_
        have hv3237 : (i3225 + Int32.ofInt (1)).toInt = i3225.toInt + (1) := ia_n rfl (by omega) (by omega)
        generalize i3225 + Int32.ofInt (1) = v3237 at hv3237 ⊢
        refine WP_goto 2 dX11_copy_17 rfl ?_
        refine WP_sub (fc rfl (fc rfl (fc rfl fn))) (ihlp3229 v3237 I3233 fI3235 fQ3236 ?_ ?_)
        · refine ⟨k + 1, by omega, by omega, fun q hq => ?_⟩
          rw [eI3233, show i3225.toInt.toNat = k by omega, pp_at]
          split
          · rename_i e9
            rw [e9, ← ev3232, show i3225.toInt.toNat = k by omega, FC_at hy fB 28 (by decide) (by decide)]
          · exact iA q (by omega)
        · omega
  refine WP_sub (fc rfl (fc rfl (fc rfl fn))) (lp3229 _ v3224 I fI0 fQ0 ?_ (Nat.lt_succ_self _))
  · exact ⟨0, by omega, by omega, fun q h => absurd h (Nat.not_lt_zero _)⟩
set_option maxHeartbeats 4000000 in
set_option maxRecDepth 100000 in
theorem em_copy23 {g : GG} {I : pI} {J : pJ} {R : pR} (hy : Ly g) (hr : Rf g R)    : SP g mX11_copy [.ref (ad g 23), .ref (ad g 29)] I J R (fun r I' J' R' => R' = R ∧ FC g [23] I I' ∧ FC g [] J J' ∧ FQ g [] I I' ∧ r = none ∧ (∀ q, q < 21 → I' (ad g 23) q = I (ad g 29) q)) := by
  refine SP_of ⟨by decide, rfl⟩ (Nat.le_of_ble_eq_true rfl) ?_
  have fI0 : FC g [23] I I := FC_rf
  have fJ0 : FC g [] J J := FC_rf
  have fQ0 : FQ g [] I I := FQ_rf
  refine WQ_iconst (0) (0) dX11_copy_0 rfl rfl (fun v3238 hv3238 => ?_)
  refine WP_istore_n (ls' := [(0, _), (1, _), (2, _)]) dX11_copy_1 (by decide) rfl ?_
  have lp3243 : ∀ (mz : Nat) (i3239 : Int32) (I3240 : pI), FC g [23] I I3240 → FQ g [] I I3240 → (∃ k : Nat, i3239.toInt = (k : Int) ∧ k ≤ 21 ∧ ∀ q, q < k → I3240 (ad g 23) q = I (ad g 29) q) → (22 - i3239.toInt.toNat) < mz → WP g mX11_copy 2 [(0, .ref (ad g 23)), (1, .ref (ad g 29)), (2, .int i3239)] [] I3240 J R (fun r I' J' R' => R' = R ∧ FC g [23] I I' ∧ FC g [] J J' ∧ FQ g [] I I' ∧ r = none ∧ (∀ q, q < 21 → I' (ad g 23) q = I (ad g 29) q)) := by
    intro mz
    induction mz with
    | zero =>
      intro i3239 I3240 fI3241 fQ3242 hvlp3243 hmlp3243
      exact absurd hmlp3243 (Nat.not_lt_zero _)
    | succ mz ihlp3243 =>
      intro i3239 I3240 fI3241 fQ3242 hvlp3243 hmlp3243
      obtain ⟨k, ik, ik4, iA⟩ := hvlp3243
      refine WP_iload_n dX11_copy_2 rfl ?_
      refine WP_aload_n dX11_copy_3 rfl ?_
      refine WP_alen dX11_copy_4 (ly_is hy 23 13 rfl) (by decide) ?_
      rw [(ly_n hy 23 21 rfl)]
      obtain ⟨v3244, hv3244, ev3244⟩ : ∃ v : Int32, v.toInt = 21 ∧ nI 21 = v := ⟨_, nI_toInt (by decide), rfl⟩
      rw [ev3244]; clear ev3244
      refine WQ_icmp_ge 20 dX11_copy_5 rfl (fun c3244 => ?_) (fun c3244 => ?_)
      · exact WP_vret dX11_copy_20 rfl ⟨rfl, fI3241, fJ0, fQ3242, rfl, by
          intro q9 hq9
          exact iA q9 (by omega)⟩
      · refine WP_aload_n dX11_copy_8 rfl ?_
        refine WP_iload_n dX11_copy_9 rfl ?_
        refine WP_aload_n dX11_copy_10 rfl ?_
        refine WP_iload_n dX11_copy_11 rfl ?_
        have fB := fI3241
        refine WE_ia dX11_copy_12 (ly_is hy 29 13 rfl) (ly_n hy 29 21 rfl) (by omega) (by omega) (fun v3246 ev3246 => ?_)
        refine WE_is dX11_copy_13 (ly_is hy 23 13 rfl) (ly_n hy 23 21 rfl) (by omega) (by omega) (fun I3247 eI3247 => ?_)
        have e3248 : I3247 (ad g 29) i3239.toInt.toNat = v3246 := by rw [eI3247, pp_ne _ _ (Or.inl (ly_ne hy (by decide) (by decide) (by decide)))]; exact ev3246
        have fI3249 : FC g [23] I I3247 := by rw [eI3247]; exact FC_pp fI3241 (by decide)
        have fQ3250 : FQ g [] I I3247 := by rw [eI3247]; exact FQ_ppn (ly_ne hy (by decide) (by decide) (by decide)) fQ3242
        refine WP_iinc (ls' := [(0, _), (1, _), (2, _)]) dX11_copy_14 rfl (by decide) rfl ?_
        have hv3251 : (i3239 + Int32.ofInt (1)).toInt = i3239.toInt + (1) := ia_n rfl (by omega) (by omega)
        generalize i3239 + Int32.ofInt (1) = v3251 at hv3251 ⊢
        refine WP_goto 2 dX11_copy_17 rfl ?_
        refine WP_sub (fc rfl (fc rfl (fc rfl fn))) (ihlp3243 v3251 I3247 fI3249 fQ3250 ?_ ?_)
        · refine ⟨k + 1, by omega, by omega, fun q hq => ?_⟩
          rw [eI3247, show i3239.toInt.toNat = k by omega, pp_at]
          split
          · rename_i e9
            rw [e9, ← ev3246, show i3239.toInt.toNat = k by omega, FC_at hy fB 29 (by decide) (by decide)]
          · exact iA q (by omega)
        · omega
  refine WP_sub (fc rfl (fc rfl (fc rfl fn))) (lp3243 _ v3238 I fI0 fQ0 ?_ (Nat.lt_succ_self _))
  · exact ⟨0, by omega, by omega, fun q h => absurd h (Nat.not_lt_zero _)⟩
set_option maxHeartbeats 4000000 in
set_option maxRecDepth 100000 in
theorem em_copy24 {g : GG} {I : pI} {J : pJ} {R : pR} (hy : Ly g) (hr : Rf g R)    : SP g mX11_copy [.ref (ad g 24), .ref (ad g 30)] I J R (fun r I' J' R' => R' = R ∧ FC g [24] I I' ∧ FC g [] J J' ∧ FQ g [] I I' ∧ r = none ∧ (∀ q, q < 28 → I' (ad g 24) q = I (ad g 30) q)) := by
  refine SP_of ⟨by decide, rfl⟩ (Nat.le_of_ble_eq_true rfl) ?_
  have fI0 : FC g [24] I I := FC_rf
  have fJ0 : FC g [] J J := FC_rf
  have fQ0 : FQ g [] I I := FQ_rf
  refine WQ_iconst (0) (0) dX11_copy_0 rfl rfl (fun v3252 hv3252 => ?_)
  refine WP_istore_n (ls' := [(0, _), (1, _), (2, _)]) dX11_copy_1 (by decide) rfl ?_
  have lp3257 : ∀ (mz : Nat) (i3253 : Int32) (I3254 : pI), FC g [24] I I3254 → FQ g [] I I3254 → (∃ k : Nat, i3253.toInt = (k : Int) ∧ k ≤ 28 ∧ ∀ q, q < k → I3254 (ad g 24) q = I (ad g 30) q) → (29 - i3253.toInt.toNat) < mz → WP g mX11_copy 2 [(0, .ref (ad g 24)), (1, .ref (ad g 30)), (2, .int i3253)] [] I3254 J R (fun r I' J' R' => R' = R ∧ FC g [24] I I' ∧ FC g [] J J' ∧ FQ g [] I I' ∧ r = none ∧ (∀ q, q < 28 → I' (ad g 24) q = I (ad g 30) q)) := by
    intro mz
    induction mz with
    | zero =>
      intro i3253 I3254 fI3255 fQ3256 hvlp3257 hmlp3257
      exact absurd hmlp3257 (Nat.not_lt_zero _)
    | succ mz ihlp3257 =>
      intro i3253 I3254 fI3255 fQ3256 hvlp3257 hmlp3257
      obtain ⟨k, ik, ik4, iA⟩ := hvlp3257
      refine WP_iload_n dX11_copy_2 rfl ?_
      refine WP_aload_n dX11_copy_3 rfl ?_
      refine WP_alen dX11_copy_4 (ly_is hy 24 13 rfl) (by decide) ?_
      rw [(ly_n hy 24 28 rfl)]
      obtain ⟨v3258, hv3258, ev3258⟩ : ∃ v : Int32, v.toInt = 28 ∧ nI 28 = v := ⟨_, nI_toInt (by decide), rfl⟩
      rw [ev3258]; clear ev3258
      refine WQ_icmp_ge 20 dX11_copy_5 rfl (fun c3258 => ?_) (fun c3258 => ?_)
      · exact WP_vret dX11_copy_20 rfl ⟨rfl, fI3255, fJ0, fQ3256, rfl, by
          intro q9 hq9
          exact iA q9 (by omega)⟩
      · refine WP_aload_n dX11_copy_8 rfl ?_
        refine WP_iload_n dX11_copy_9 rfl ?_
        refine WP_aload_n dX11_copy_10 rfl ?_
        refine WP_iload_n dX11_copy_11 rfl ?_
        have fB := fI3255
        refine WE_ia dX11_copy_12 (ly_is hy 30 13 rfl) (ly_n hy 30 28 rfl) (by omega) (by omega) (fun v3260 ev3260 => ?_)
        refine WE_is dX11_copy_13 (ly_is hy 24 13 rfl) (ly_n hy 24 28 rfl) (by omega) (by omega) (fun I3261 eI3261 => ?_)
        have e3262 : I3261 (ad g 30) i3253.toInt.toNat = v3260 := by rw [eI3261, pp_ne _ _ (Or.inl (ly_ne hy (by decide) (by decide) (by decide)))]; exact ev3260
        have fI3263 : FC g [24] I I3261 := by rw [eI3261]; exact FC_pp fI3255 (by decide)
        have fQ3264 : FQ g [] I I3261 := by rw [eI3261]; exact FQ_ppn (ly_ne hy (by decide) (by decide) (by decide)) fQ3256
        refine WP_iinc (ls' := [(0, _), (1, _), (2, _)]) dX11_copy_14 rfl (by decide) rfl ?_
        have hv3265 : (i3253 + Int32.ofInt (1)).toInt = i3253.toInt + (1) := ia_n rfl (by omega) (by omega)
        generalize i3253 + Int32.ofInt (1) = v3265 at hv3265 ⊢
        refine WP_goto 2 dX11_copy_17 rfl ?_
        refine WP_sub (fc rfl (fc rfl (fc rfl fn))) (ihlp3257 v3265 I3261 fI3263 fQ3264 ?_ ?_)
        · refine ⟨k + 1, by omega, by omega, fun q hq => ?_⟩
          rw [eI3261, show i3253.toInt.toNat = k by omega, pp_at]
          split
          · rename_i e9
            rw [e9, ← ev3260, show i3253.toInt.toNat = k by omega, FC_at hy fB 30 (by decide) (by decide)]
          · exact iA q (by omega)
        · omega
  refine WP_sub (fc rfl (fc rfl (fc rfl fn))) (lp3257 _ v3252 I fI0 fQ0 ?_ (Nat.lt_succ_self _))
  · exact ⟨0, by omega, by omega, fun q h => absurd h (Nat.not_lt_zero _)⟩
set_option maxHeartbeats 4000000 in
set_option maxRecDepth 100000 in
theorem em_copy25 {g : GG} {I : pI} {J : pJ} {R : pR} (hy : Ly g) (hr : Rf g R)    : SP g mX11_copy [.ref (ad g 25), .ref (ad g 31)] I J R (fun r I' J' R' => R' = R ∧ FC g [25] I I' ∧ FC g [] J J' ∧ FQ g [] I I' ∧ r = none ∧ (∀ q, q < 28 → I' (ad g 25) q = I (ad g 31) q)) := by
  refine SP_of ⟨by decide, rfl⟩ (Nat.le_of_ble_eq_true rfl) ?_
  have fI0 : FC g [25] I I := FC_rf
  have fJ0 : FC g [] J J := FC_rf
  have fQ0 : FQ g [] I I := FQ_rf
  refine WQ_iconst (0) (0) dX11_copy_0 rfl rfl (fun v3266 hv3266 => ?_)
  refine WP_istore_n (ls' := [(0, _), (1, _), (2, _)]) dX11_copy_1 (by decide) rfl ?_
  have lp3271 : ∀ (mz : Nat) (i3267 : Int32) (I3268 : pI), FC g [25] I I3268 → FQ g [] I I3268 → (∃ k : Nat, i3267.toInt = (k : Int) ∧ k ≤ 28 ∧ ∀ q, q < k → I3268 (ad g 25) q = I (ad g 31) q) → (29 - i3267.toInt.toNat) < mz → WP g mX11_copy 2 [(0, .ref (ad g 25)), (1, .ref (ad g 31)), (2, .int i3267)] [] I3268 J R (fun r I' J' R' => R' = R ∧ FC g [25] I I' ∧ FC g [] J J' ∧ FQ g [] I I' ∧ r = none ∧ (∀ q, q < 28 → I' (ad g 25) q = I (ad g 31) q)) := by
    intro mz
    induction mz with
    | zero =>
      intro i3267 I3268 fI3269 fQ3270 hvlp3271 hmlp3271
      exact absurd hmlp3271 (Nat.not_lt_zero _)
    | succ mz ihlp3271 =>
      intro i3267 I3268 fI3269 fQ3270 hvlp3271 hmlp3271
      obtain ⟨k, ik, ik4, iA⟩ := hvlp3271
      refine WP_iload_n dX11_copy_2 rfl ?_
      refine WP_aload_n dX11_copy_3 rfl ?_
      refine WP_alen dX11_copy_4 (ly_is hy 25 13 rfl) (by decide) ?_
      rw [(ly_n hy 25 28 rfl)]
      obtain ⟨v3272, hv3272, ev3272⟩ : ∃ v : Int32, v.toInt = 28 ∧ nI 28 = v := ⟨_, nI_toInt (by decide), rfl⟩
      rw [ev3272]; clear ev3272
      refine WQ_icmp_ge 20 dX11_copy_5 rfl (fun c3272 => ?_) (fun c3272 => ?_)
      · exact WP_vret dX11_copy_20 rfl ⟨rfl, fI3269, fJ0, fQ3270, rfl, by
          intro q9 hq9
          exact iA q9 (by omega)⟩
      · refine WP_aload_n dX11_copy_8 rfl ?_
        refine WP_iload_n dX11_copy_9 rfl ?_
        refine WP_aload_n dX11_copy_10 rfl ?_
        refine WP_iload_n dX11_copy_11 rfl ?_
        have fB := fI3269
        refine WE_ia dX11_copy_12 (ly_is hy 31 13 rfl) (ly_n hy 31 28 rfl) (by omega) (by omega) (fun v3274 ev3274 => ?_)
        refine WE_is dX11_copy_13 (ly_is hy 25 13 rfl) (ly_n hy 25 28 rfl) (by omega) (by omega) (fun I3275 eI3275 => ?_)
        have e3276 : I3275 (ad g 31) i3267.toInt.toNat = v3274 := by rw [eI3275, pp_ne _ _ (Or.inl (ly_ne hy (by decide) (by decide) (by decide)))]; exact ev3274
        have fI3277 : FC g [25] I I3275 := by rw [eI3275]; exact FC_pp fI3269 (by decide)
        have fQ3278 : FQ g [] I I3275 := by rw [eI3275]; exact FQ_ppn (ly_ne hy (by decide) (by decide) (by decide)) fQ3270
        refine WP_iinc (ls' := [(0, _), (1, _), (2, _)]) dX11_copy_14 rfl (by decide) rfl ?_
        have hv3279 : (i3267 + Int32.ofInt (1)).toInt = i3267.toInt + (1) := ia_n rfl (by omega) (by omega)
        generalize i3267 + Int32.ofInt (1) = v3279 at hv3279 ⊢
        refine WP_goto 2 dX11_copy_17 rfl ?_
        refine WP_sub (fc rfl (fc rfl (fc rfl fn))) (ihlp3271 v3279 I3275 fI3277 fQ3278 ?_ ?_)
        · refine ⟨k + 1, by omega, by omega, fun q hq => ?_⟩
          rw [eI3275, show i3267.toInt.toNat = k by omega, pp_at]
          split
          · rename_i e9
            rw [e9, ← ev3274, show i3267.toInt.toNat = k by omega, FC_at hy fB 31 (by decide) (by decide)]
          · exact iA q (by omega)
        · omega
  refine WP_sub (fc rfl (fc rfl (fc rfl fn))) (lp3271 _ v3266 I fI0 fQ0 ?_ (Nat.lt_succ_self _))
  · exact ⟨0, by omega, by omega, fun q h => absurd h (Nat.not_lt_zero _)⟩
set_option maxHeartbeats 4000000 in
set_option maxRecDepth 100000 in
theorem em_copy26 {g : GG} {I : pI} {J : pJ} {R : pR} (hy : Ly g) (hr : Rf g R)    : SP g mX11_copy [.ref (ad g 26), .ref (ad g 32)] I J R (fun r I' J' R' => R' = R ∧ FC g [26] I I' ∧ FC g [] J J' ∧ FQ g [] I I' ∧ r = none ∧ (∀ q, q < 28 → I' (ad g 26) q = I (ad g 32) q)) := by
  refine SP_of ⟨by decide, rfl⟩ (Nat.le_of_ble_eq_true rfl) ?_
  have fI0 : FC g [26] I I := FC_rf
  have fJ0 : FC g [] J J := FC_rf
  have fQ0 : FQ g [] I I := FQ_rf
  refine WQ_iconst (0) (0) dX11_copy_0 rfl rfl (fun v3280 hv3280 => ?_)
  refine WP_istore_n (ls' := [(0, _), (1, _), (2, _)]) dX11_copy_1 (by decide) rfl ?_
  have lp3285 : ∀ (mz : Nat) (i3281 : Int32) (I3282 : pI), FC g [26] I I3282 → FQ g [] I I3282 → (∃ k : Nat, i3281.toInt = (k : Int) ∧ k ≤ 28 ∧ ∀ q, q < k → I3282 (ad g 26) q = I (ad g 32) q) → (29 - i3281.toInt.toNat) < mz → WP g mX11_copy 2 [(0, .ref (ad g 26)), (1, .ref (ad g 32)), (2, .int i3281)] [] I3282 J R (fun r I' J' R' => R' = R ∧ FC g [26] I I' ∧ FC g [] J J' ∧ FQ g [] I I' ∧ r = none ∧ (∀ q, q < 28 → I' (ad g 26) q = I (ad g 32) q)) := by
    intro mz
    induction mz with
    | zero =>
      intro i3281 I3282 fI3283 fQ3284 hvlp3285 hmlp3285
      exact absurd hmlp3285 (Nat.not_lt_zero _)
    | succ mz ihlp3285 =>
      intro i3281 I3282 fI3283 fQ3284 hvlp3285 hmlp3285
      obtain ⟨k, ik, ik4, iA⟩ := hvlp3285
      refine WP_iload_n dX11_copy_2 rfl ?_
      refine WP_aload_n dX11_copy_3 rfl ?_
      refine WP_alen dX11_copy_4 (ly_is hy 26 13 rfl) (by decide) ?_
      rw [(ly_n hy 26 28 rfl)]
      obtain ⟨v3286, hv3286, ev3286⟩ : ∃ v : Int32, v.toInt = 28 ∧ nI 28 = v := ⟨_, nI_toInt (by decide), rfl⟩
      rw [ev3286]; clear ev3286
      refine WQ_icmp_ge 20 dX11_copy_5 rfl (fun c3286 => ?_) (fun c3286 => ?_)
      · exact WP_vret dX11_copy_20 rfl ⟨rfl, fI3283, fJ0, fQ3284, rfl, by
          intro q9 hq9
          exact iA q9 (by omega)⟩
      · refine WP_aload_n dX11_copy_8 rfl ?_
        refine WP_iload_n dX11_copy_9 rfl ?_
        refine WP_aload_n dX11_copy_10 rfl ?_
        refine WP_iload_n dX11_copy_11 rfl ?_
        have fB := fI3283
        refine WE_ia dX11_copy_12 (ly_is hy 32 13 rfl) (ly_n hy 32 28 rfl) (by omega) (by omega) (fun v3288 ev3288 => ?_)
        refine WE_is dX11_copy_13 (ly_is hy 26 13 rfl) (ly_n hy 26 28 rfl) (by omega) (by omega) (fun I3289 eI3289 => ?_)
        have e3290 : I3289 (ad g 32) i3281.toInt.toNat = v3288 := by rw [eI3289, pp_ne _ _ (Or.inl (ly_ne hy (by decide) (by decide) (by decide)))]; exact ev3288
        have fI3291 : FC g [26] I I3289 := by rw [eI3289]; exact FC_pp fI3283 (by decide)
        have fQ3292 : FQ g [] I I3289 := by rw [eI3289]; exact FQ_ppn (ly_ne hy (by decide) (by decide) (by decide)) fQ3284
        refine WP_iinc (ls' := [(0, _), (1, _), (2, _)]) dX11_copy_14 rfl (by decide) rfl ?_
        have hv3293 : (i3281 + Int32.ofInt (1)).toInt = i3281.toInt + (1) := ia_n rfl (by omega) (by omega)
        generalize i3281 + Int32.ofInt (1) = v3293 at hv3293 ⊢
        refine WP_goto 2 dX11_copy_17 rfl ?_
        refine WP_sub (fc rfl (fc rfl (fc rfl fn))) (ihlp3285 v3293 I3289 fI3291 fQ3292 ?_ ?_)
        · refine ⟨k + 1, by omega, by omega, fun q hq => ?_⟩
          rw [eI3289, show i3281.toInt.toNat = k by omega, pp_at]
          split
          · rename_i e9
            rw [e9, ← ev3288, show i3281.toInt.toNat = k by omega, FC_at hy fB 32 (by decide) (by decide)]
          · exact iA q (by omega)
        · omega
  refine WP_sub (fc rfl (fc rfl (fc rfl fn))) (lp3285 _ v3280 I fI0 fQ0 ?_ (Nat.lt_succ_self _))
  · exact ⟨0, by omega, by omega, fun q h => absurd h (Nat.not_lt_zero _)⟩
set_option maxHeartbeats 4000000 in
set_option maxRecDepth 100000 in
theorem em_begin38 {g : GG} {I : pI} {J : pJ} {R : pR} (hy : Ly g) (hr : Rf g R) {mm : Int}  (hs : (I (ad g 0) 10).toInt = mm) (hm : 0 ≤ mm ∧ mm ≤ 4) : SP g mX11_begin [.ref (ad g 0), .ref (ad g 38)] I J R (fun r I' J' R' => R' = R ∧ FC g [38] I I' ∧ FC g [] J J' ∧ FQ g [] I I' ∧ r = none ∧ ((∀ q : Nat, q < 35 → (q < 28 ∨ 32 ≤ q) → (I' (ad g 38) q).toInt = if (q : Int) < mm then (I (ad g 10) q).toInt else 0) ∧ (∀ q, 28 ≤ q → q < 32 → I' (ad g 38) q = I (ad g 38) q))) := by
  refine SP_of ⟨by decide, rfl⟩ (Nat.le_of_ble_eq_true rfl) ?_
  have fI0 : FC g [38] I I := FC_rf
  have fJ0 : FC g [] J J := FC_rf
  have fQ0 : FQ g [] I I := FQ_rf
  have hs0 := hs
  obtain ⟨w3294, ew3294⟩ : ∃ w : Int32, I (ad g 0) 10 = w := ⟨_, rfl⟩
  try simp only [ew3294] at hs
  refine WQ_iconst (0) (0) dX11_begin_0 rfl rfl (fun v3295 hv3295 => ?_)
  refine WP_istore_n (ls' := [(0, _), (1, _), (2, _)]) dX11_begin_1 (by decide) rfl ?_
  have lp3300 : ∀ (mz : Nat) (i3296 : Int32) (I3297 : pI), FC g [38] I I3297 → FQ g [] I I3297 → (∃ k : Nat, i3296.toInt = (k : Int) ∧ k ≤ 35 ∧ (∀ q, q < k → (q < 28 ∨ 32 ≤ q) → (I3297 (ad g 38) q).toInt = 0) ∧ (∀ q, 28 ≤ q → q < 32 → I3297 (ad g 38) q = I (ad g 38) q)) → (36 - i3296.toInt.toNat) < mz → WP g mX11_begin 2 [(0, .ref (ad g 0)), (1, .ref (ad g 38)), (2, .int i3296)] [] I3297 J R (fun r I' J' R' => R' = R ∧ FC g [38] I I' ∧ FC g [] J J' ∧ FQ g [] I I' ∧ r = none ∧ ((∀ q : Nat, q < 35 → (q < 28 ∨ 32 ≤ q) → (I' (ad g 38) q).toInt = if (q : Int) < mm then (I (ad g 10) q).toInt else 0) ∧ (∀ q, 28 ≤ q → q < 32 → I' (ad g 38) q = I (ad g 38) q))) := by
    intro mz
    induction mz with
    | zero =>
      intro i3296 I3297 fI3298 fQ3299 hvlp3300 hmlp3300
      exact absurd hmlp3300 (Nat.not_lt_zero _)
    | succ mz ihlp3300 =>
      intro i3296 I3297 fI3298 fQ3299 hvlp3300 hmlp3300
      obtain ⟨w3301, ew3301⟩ : ∃ w : Int32, I3297 (ad g 0) 10 = w := ⟨_, rfl⟩
      try simp only [ew3301, ew3294] at hvlp3300 hmlp3300
      obtain ⟨k, ik, ik4, iA, iB⟩ := hvlp3300
      have hs2 := hs0
      rw [← FC_at hy fI3298 0 (by decide) (by decide), ew3301] at hs2
      refine WP_iload_n dX11_begin_2 rfl ?_
      refine WQ_bipush (35) (35) dX11_begin_3 rfl rfl (fun v3302 hv3302 => ?_)
      refine WQ_icmp_ge 30 dX11_begin_5 rfl (fun c3302 => ?_) (fun c3302 => ?_)
      · refine WQ_iconst (0) (0) dX11_begin_30 rfl rfl (fun v3304 hv3304 => ?_)
        refine WP_istore_n (ls' := [(0, _), (1, _), (2, _)]) dX11_begin_31 (by decide) rfl ?_
        have lp3309 : ∀ (mz : Nat) (i3305 : Int32) (I3306 : pI), FC g [38] I I3306 → FQ g [] I I3306 → (∃ k : Nat, i3305.toInt = (k : Int) ∧ (k : Int) ≤ mm ∧ (∀ q, q < 35 → (q < 28 ∨ 32 ≤ q) → (I3306 (ad g 38) q).toInt = if q < k then (I (ad g 10) q).toInt else 0) ∧ (∀ q, 28 ≤ q → q < 32 → I3306 (ad g 38) q = I (ad g 38) q)) → (5 - i3305.toInt.toNat) < mz → WP g mX11_begin 32 [(0, .ref (ad g 0)), (1, .ref (ad g 38)), (2, .int i3305)] [] I3306 J R (fun r I' J' R' => R' = R ∧ FC g [38] I I' ∧ FC g [] J J' ∧ FQ g [] I I' ∧ r = none ∧ ((∀ q : Nat, q < 35 → (q < 28 ∨ 32 ≤ q) → (I' (ad g 38) q).toInt = if (q : Int) < mm then (I (ad g 10) q).toInt else 0) ∧ (∀ q, 28 ≤ q → q < 32 → I' (ad g 38) q = I (ad g 38) q))) := by
          intro mz
          induction mz with
          | zero =>
            intro i3305 I3306 fI3307 fQ3308 hvlp3309 hmlp3309
            exact absurd hmlp3309 (Nat.not_lt_zero _)
          | succ mz ihlp3309 =>
            intro i3305 I3306 fI3307 fQ3308 hvlp3309 hmlp3309
            obtain ⟨w3310, ew3310⟩ : ∃ w : Int32, I3306 (ad g 0) 10 = w := ⟨_, rfl⟩
            try simp only [ew3310, ew3294] at hvlp3309 hmlp3309
            obtain ⟨k, ik, ik4, jA, jB⟩ := hvlp3309
            have hs2 := hs0
            rw [← FC_at hy fI3307 0 (by decide) (by decide), ew3310] at hs2
            refine WP_iload_n dX11_begin_32 rfl ?_
            refine WP_aload_n dX11_begin_33 rfl ?_
            refine WQ_getim dX11_begin_34 fX11_329 rfl (ly_is hy 0 11 rfl) ew3310 ?_
            refine WQ_icmp_ge 57 dX11_begin_37 rfl (fun c3310 => ?_) (fun c3310 => ?_)
            · exact WP_vret dX11_begin_57 rfl ⟨rfl, fI3307, fJ0, fQ3308, rfl, by
                try simp only [ew3310, ew3294]
                refine ⟨fun q hq h9 => ?_, jB⟩
                rw [jA q hq h9]
                by_cases e8 : q < k
                · rw [if_pos e8, if_pos (by omega)]
                · rw [if_neg e8, if_neg (by omega)]⟩
            · refine WP_aload_n dX11_begin_40 rfl ?_
              refine WQ_iconst (0) (0) dX11_begin_41 rfl rfl (fun v3312 hv3312 => ?_)
              refine WP_iload_n dX11_begin_42 rfl ?_
              refine WQ_iadd dX11_begin_43 (by omega) (by omega) (fun v3313 hv3313 => ?_)
              refine WP_aload_n dX11_begin_44 rfl ?_
              refine WP_getr dX11_begin_45 fX11_241 rfl (ly_is hy 0 11 rfl) (rf hr 0 28 10 (by decide)) ?_
              refine WP_iload_n dX11_begin_48 rfl ?_
              have fB := fI3307
              refine WE_ia dX11_begin_49 (ly_is hy 10 13 rfl) (ly_n hy 10 4 rfl) (by omega) (by omega) (fun v3314 ev3314 => ?_)
              refine WE_is dX11_begin_50 (ly_is hy 38 13 rfl) (ly_n hy 38 35 rfl) (by omega) (by omega) (fun I3315 eI3315 => ?_)
              have e3316 : I3315 (ad g 0) 10 = w3310 := by rw [eI3315, pp_ne _ _ (Or.inl (ly_ne hy (by decide) (by decide) (by decide)))]; exact ew3310
              have e3317 : I3315 (ad g 10) i3305.toInt.toNat = v3314 := by rw [eI3315, pp_ne _ _ (Or.inl (ly_ne hy (by decide) (by decide) (by decide)))]; exact ev3314
              have fI3318 : FC g [38] I I3315 := by rw [eI3315]; exact FC_pp fI3307 (by decide)
              have fQ3319 : FQ g [] I I3315 := by rw [eI3315]; exact FQ_ppn (ly_ne hy (by decide) (by decide) (by decide)) fQ3308
              refine WP_iinc (ls' := [(0, _), (1, _), (2, _)]) dX11_begin_51 rfl (by decide) rfl ?_
              have hv3320 : (i3305 + Int32.ofInt (1)).toInt = i3305.toInt + (1) := ia_n rfl (by omega) (by omega)
              generalize i3305 + Int32.ofInt (1) = v3320 at hv3320 ⊢
              refine WP_goto 32 dX11_begin_54 rfl ?_
              refine WP_sub (fc rfl (fc rfl (fc rfl fn))) (ihlp3309 v3320 I3315 fI3318 fQ3319 ?_ ?_)
              · try simp only [e3316, ew3294]
                refine ⟨k + 1, by omega, by omega, fun q hq h9 => ?_, fun q h8 h9 => ?_⟩
                · rw [eI3315, show v3313.toInt.toNat = k by omega, pp_at]
                  split
                  · rename_i e9
                    rw [e9, if_pos (by omega), ← ev3314, show i3305.toInt.toNat = k by omega, FC_at hy fB 10 (by decide) (by decide)]
                  · rename_i e9
                    rw [jA q hq h9]
                    by_cases e8 : q < k
                    · rw [if_pos e8, if_pos (by omega)]
                    · rw [if_neg e8, if_neg (by omega)]
                · rw [eI3315, show v3313.toInt.toNat = k by omega, pp_at, if_neg (by omega)]; exact jB q h8 h9
              · try simp only [e3316, ew3294]
                omega
        refine WP_sub (fc rfl (fc rfl (fc rfl fn))) (lp3309 _ v3304 I3297 fI3298 fQ3299 ?_ (Nat.lt_succ_self _))
        · try simp only [ew3301, ew3294]
          refine ⟨0, by omega, by omega, fun q hq h9 => ?_, iB⟩
          rw [if_neg (Nat.not_lt_zero _)]
          exact iA q (by omega) h9
      · refine WP_iload_n dX11_begin_8 rfl ?_
        refine WQ_bipush (28) (28) dX11_begin_9 rfl rfl (fun v3321 hv3321 => ?_)
        refine WQ_icmp_lt 20 dX11_begin_11 rfl (fun c3321 => ?_) (fun c3321 => ?_)
        · refine WP_aload_n dX11_begin_20 rfl ?_
          refine WP_iload_n dX11_begin_21 rfl ?_
          refine WQ_iconst (0) (0) dX11_begin_22 rfl rfl (fun v3323 hv3323 => ?_)
          refine WE_is dX11_begin_23 (ly_is hy 38 13 rfl) (ly_n hy 38 35 rfl) (by omega) (by omega) (fun I3324 eI3324 => ?_)
          have e3325 : I3324 (ad g 0) 10 = w3301 := by rw [eI3324, pp_ne _ _ (Or.inl (ly_ne hy (by decide) (by decide) (by decide)))]; exact ew3301
          have fI3326 : FC g [38] I I3324 := by rw [eI3324]; exact FC_pp fI3298 (by decide)
          have fQ3327 : FQ g [] I I3324 := by rw [eI3324]; exact FQ_ppn (ly_ne hy (by decide) (by decide) (by decide)) fQ3299
          refine WP_iinc (ls' := [(0, _), (1, _), (2, _)]) dX11_begin_24 rfl (by decide) rfl ?_
          have hv3328 : (i3296 + Int32.ofInt (1)).toInt = i3296.toInt + (1) := ia_n rfl (by omega) (by omega)
          generalize i3296 + Int32.ofInt (1) = v3328 at hv3328 ⊢
          refine WP_goto 2 dX11_begin_27 rfl ?_
          refine WP_sub (fc rfl (fc rfl (fc rfl fn))) (ihlp3300 v3328 I3324 fI3326 fQ3327 ?_ ?_)
          · try simp only [e3325, ew3294]
            refine ⟨k + 1, by omega, by omega, fun q hq h9 => ?_, fun q h8 h9 => ?_⟩
            · rw [eI3324, show i3296.toInt.toNat = k by omega, pp_at]
              split
              · omega
              · exact iA q (by omega) h9
            · rw [eI3324, show i3296.toInt.toNat = k by omega, pp_at, if_neg (by omega)]; exact iB q h8 h9
          · try simp only [e3325, ew3294]
            omega
        · refine WP_iload_n dX11_begin_14 rfl ?_
          refine WQ_bipush (32) (32) dX11_begin_15 rfl rfl (fun v3329 hv3329 => ?_)
          refine WQ_icmp_lt 24 dX11_begin_17 rfl (fun c3329 => ?_) (fun c3329 => ?_)
          · refine WP_iinc (ls' := [(0, _), (1, _), (2, _)]) dX11_begin_24 rfl (by decide) rfl ?_
            have hv3331 : (i3296 + Int32.ofInt (1)).toInt = i3296.toInt + (1) := ia_n rfl (by omega) (by omega)
            generalize i3296 + Int32.ofInt (1) = v3331 at hv3331 ⊢
            refine WP_goto 2 dX11_begin_27 rfl ?_
            refine WP_sub (fc rfl (fc rfl (fc rfl fn))) (ihlp3300 v3331 I3297 fI3298 fQ3299 ?_ ?_)
            · try simp only [ew3301, ew3294]
              refine ⟨k + 1, by omega, by omega, fun q hq h9 => iA q (by omega) h9, iB⟩
            · try simp only [ew3301, ew3294]
              omega
          · refine WP_aload_n dX11_begin_20 rfl ?_
            refine WP_iload_n dX11_begin_21 rfl ?_
            refine WQ_iconst (0) (0) dX11_begin_22 rfl rfl (fun v3332 hv3332 => ?_)
            refine WE_is dX11_begin_23 (ly_is hy 38 13 rfl) (ly_n hy 38 35 rfl) (by omega) (by omega) (fun I3333 eI3333 => ?_)
            have e3334 : I3333 (ad g 0) 10 = w3301 := by rw [eI3333, pp_ne _ _ (Or.inl (ly_ne hy (by decide) (by decide) (by decide)))]; exact ew3301
            have fI3335 : FC g [38] I I3333 := by rw [eI3333]; exact FC_pp fI3298 (by decide)
            have fQ3336 : FQ g [] I I3333 := by rw [eI3333]; exact FQ_ppn (ly_ne hy (by decide) (by decide) (by decide)) fQ3299
            refine WP_iinc (ls' := [(0, _), (1, _), (2, _)]) dX11_begin_24 rfl (by decide) rfl ?_
            have hv3337 : (i3296 + Int32.ofInt (1)).toInt = i3296.toInt + (1) := ia_n rfl (by omega) (by omega)
            generalize i3296 + Int32.ofInt (1) = v3337 at hv3337 ⊢
            refine WP_goto 2 dX11_begin_27 rfl ?_
            refine WP_sub (fc rfl (fc rfl (fc rfl fn))) (ihlp3300 v3337 I3333 fI3335 fQ3336 ?_ ?_)
            · try simp only [e3334, ew3294]
              refine ⟨k + 1, by omega, by omega, fun q hq h9 => ?_, fun q h8 h9 => ?_⟩
              · rw [eI3333, show i3296.toInt.toNat = k by omega, pp_at]
                split
                · omega
                · exact iA q (by omega) h9
              · rw [eI3333, show i3296.toInt.toNat = k by omega, pp_at, if_neg (by omega)]; exact iB q h8 h9
            · try simp only [e3334, ew3294]
              omega
  refine WP_sub (fc rfl (fc rfl (fc rfl fn))) (lp3300 _ v3295 I fI0 fQ0 ?_ (Nat.lt_succ_self _))
  · try simp only [ew3294]
    exact ⟨0, by omega, by omega, fun q h => absurd h (Nat.not_lt_zero _), by simp⟩
set_option maxHeartbeats 4000000 in
set_option maxRecDepth 100000 in
theorem em_begin39 {g : GG} {I : pI} {J : pJ} {R : pR} (hy : Ly g) (hr : Rf g R) {mm : Int}  (hs : (I (ad g 0) 10).toInt = mm) (hm : 0 ≤ mm ∧ mm ≤ 4) : SP g mX11_begin [.ref (ad g 0), .ref (ad g 39)] I J R (fun r I' J' R' => R' = R ∧ FC g [39] I I' ∧ FC g [] J J' ∧ FQ g [] I I' ∧ r = none ∧ ((∀ q : Nat, q < 35 → (q < 28 ∨ 32 ≤ q) → (I' (ad g 39) q).toInt = if (q : Int) < mm then (I (ad g 10) q).toInt else 0) ∧ (∀ q, 28 ≤ q → q < 32 → I' (ad g 39) q = I (ad g 39) q))) := by
  refine SP_of ⟨by decide, rfl⟩ (Nat.le_of_ble_eq_true rfl) ?_
  have fI0 : FC g [39] I I := FC_rf
  have fJ0 : FC g [] J J := FC_rf
  have fQ0 : FQ g [] I I := FQ_rf
  have hs0 := hs
  obtain ⟨w3338, ew3338⟩ : ∃ w : Int32, I (ad g 0) 10 = w := ⟨_, rfl⟩
  try simp only [ew3338] at hs
  refine WQ_iconst (0) (0) dX11_begin_0 rfl rfl (fun v3339 hv3339 => ?_)
  refine WP_istore_n (ls' := [(0, _), (1, _), (2, _)]) dX11_begin_1 (by decide) rfl ?_
  have lp3344 : ∀ (mz : Nat) (i3340 : Int32) (I3341 : pI), FC g [39] I I3341 → FQ g [] I I3341 → (∃ k : Nat, i3340.toInt = (k : Int) ∧ k ≤ 35 ∧ (∀ q, q < k → (q < 28 ∨ 32 ≤ q) → (I3341 (ad g 39) q).toInt = 0) ∧ (∀ q, 28 ≤ q → q < 32 → I3341 (ad g 39) q = I (ad g 39) q)) → (36 - i3340.toInt.toNat) < mz → WP g mX11_begin 2 [(0, .ref (ad g 0)), (1, .ref (ad g 39)), (2, .int i3340)] [] I3341 J R (fun r I' J' R' => R' = R ∧ FC g [39] I I' ∧ FC g [] J J' ∧ FQ g [] I I' ∧ r = none ∧ ((∀ q : Nat, q < 35 → (q < 28 ∨ 32 ≤ q) → (I' (ad g 39) q).toInt = if (q : Int) < mm then (I (ad g 10) q).toInt else 0) ∧ (∀ q, 28 ≤ q → q < 32 → I' (ad g 39) q = I (ad g 39) q))) := by
    intro mz
    induction mz with
    | zero =>
      intro i3340 I3341 fI3342 fQ3343 hvlp3344 hmlp3344
      exact absurd hmlp3344 (Nat.not_lt_zero _)
    | succ mz ihlp3344 =>
      intro i3340 I3341 fI3342 fQ3343 hvlp3344 hmlp3344
      obtain ⟨w3345, ew3345⟩ : ∃ w : Int32, I3341 (ad g 0) 10 = w := ⟨_, rfl⟩
      try simp only [ew3345, ew3338] at hvlp3344 hmlp3344
      obtain ⟨k, ik, ik4, iA, iB⟩ := hvlp3344
      have hs2 := hs0
      rw [← FC_at hy fI3342 0 (by decide) (by decide), ew3345] at hs2
      refine WP_iload_n dX11_begin_2 rfl ?_
      refine WQ_bipush (35) (35) dX11_begin_3 rfl rfl (fun v3346 hv3346 => ?_)
      refine WQ_icmp_ge 30 dX11_begin_5 rfl (fun c3346 => ?_) (fun c3346 => ?_)
      · refine WQ_iconst (0) (0) dX11_begin_30 rfl rfl (fun v3348 hv3348 => ?_)
        refine WP_istore_n (ls' := [(0, _), (1, _), (2, _)]) dX11_begin_31 (by decide) rfl ?_
        have lp3353 : ∀ (mz : Nat) (i3349 : Int32) (I3350 : pI), FC g [39] I I3350 → FQ g [] I I3350 → (∃ k : Nat, i3349.toInt = (k : Int) ∧ (k : Int) ≤ mm ∧ (∀ q, q < 35 → (q < 28 ∨ 32 ≤ q) → (I3350 (ad g 39) q).toInt = if q < k then (I (ad g 10) q).toInt else 0) ∧ (∀ q, 28 ≤ q → q < 32 → I3350 (ad g 39) q = I (ad g 39) q)) → (5 - i3349.toInt.toNat) < mz → WP g mX11_begin 32 [(0, .ref (ad g 0)), (1, .ref (ad g 39)), (2, .int i3349)] [] I3350 J R (fun r I' J' R' => R' = R ∧ FC g [39] I I' ∧ FC g [] J J' ∧ FQ g [] I I' ∧ r = none ∧ ((∀ q : Nat, q < 35 → (q < 28 ∨ 32 ≤ q) → (I' (ad g 39) q).toInt = if (q : Int) < mm then (I (ad g 10) q).toInt else 0) ∧ (∀ q, 28 ≤ q → q < 32 → I' (ad g 39) q = I (ad g 39) q))) := by
          intro mz
          induction mz with
          | zero =>
            intro i3349 I3350 fI3351 fQ3352 hvlp3353 hmlp3353
            exact absurd hmlp3353 (Nat.not_lt_zero _)
          | succ mz ihlp3353 =>
            intro i3349 I3350 fI3351 fQ3352 hvlp3353 hmlp3353
            obtain ⟨w3354, ew3354⟩ : ∃ w : Int32, I3350 (ad g 0) 10 = w := ⟨_, rfl⟩
            try simp only [ew3354, ew3338] at hvlp3353 hmlp3353
            obtain ⟨k, ik, ik4, jA, jB⟩ := hvlp3353
            have hs2 := hs0
            rw [← FC_at hy fI3351 0 (by decide) (by decide), ew3354] at hs2
            refine WP_iload_n dX11_begin_32 rfl ?_
            refine WP_aload_n dX11_begin_33 rfl ?_
            refine WQ_getim dX11_begin_34 fX11_329 rfl (ly_is hy 0 11 rfl) ew3354 ?_
            refine WQ_icmp_ge 57 dX11_begin_37 rfl (fun c3354 => ?_) (fun c3354 => ?_)
            · exact WP_vret dX11_begin_57 rfl ⟨rfl, fI3351, fJ0, fQ3352, rfl, by
                try simp only [ew3354, ew3338]
                refine ⟨fun q hq h9 => ?_, jB⟩
                rw [jA q hq h9]
                by_cases e8 : q < k
                · rw [if_pos e8, if_pos (by omega)]
                · rw [if_neg e8, if_neg (by omega)]⟩
            · refine WP_aload_n dX11_begin_40 rfl ?_
              refine WQ_iconst (0) (0) dX11_begin_41 rfl rfl (fun v3356 hv3356 => ?_)
              refine WP_iload_n dX11_begin_42 rfl ?_
              refine WQ_iadd dX11_begin_43 (by omega) (by omega) (fun v3357 hv3357 => ?_)
              refine WP_aload_n dX11_begin_44 rfl ?_
              refine WP_getr dX11_begin_45 fX11_241 rfl (ly_is hy 0 11 rfl) (rf hr 0 28 10 (by decide)) ?_
              refine WP_iload_n dX11_begin_48 rfl ?_
              have fB := fI3351
              refine WE_ia dX11_begin_49 (ly_is hy 10 13 rfl) (ly_n hy 10 4 rfl) (by omega) (by omega) (fun v3358 ev3358 => ?_)
              refine WE_is dX11_begin_50 (ly_is hy 39 13 rfl) (ly_n hy 39 35 rfl) (by omega) (by omega) (fun I3359 eI3359 => ?_)
              have e3360 : I3359 (ad g 0) 10 = w3354 := by rw [eI3359, pp_ne _ _ (Or.inl (ly_ne hy (by decide) (by decide) (by decide)))]; exact ew3354
              have e3361 : I3359 (ad g 10) i3349.toInt.toNat = v3358 := by rw [eI3359, pp_ne _ _ (Or.inl (ly_ne hy (by decide) (by decide) (by decide)))]; exact ev3358
              have fI3362 : FC g [39] I I3359 := by rw [eI3359]; exact FC_pp fI3351 (by decide)
              have fQ3363 : FQ g [] I I3359 := by rw [eI3359]; exact FQ_ppn (ly_ne hy (by decide) (by decide) (by decide)) fQ3352
              refine WP_iinc (ls' := [(0, _), (1, _), (2, _)]) dX11_begin_51 rfl (by decide) rfl ?_
              have hv3364 : (i3349 + Int32.ofInt (1)).toInt = i3349.toInt + (1) := ia_n rfl (by omega) (by omega)
              generalize i3349 + Int32.ofInt (1) = v3364 at hv3364 ⊢
              refine WP_goto 32 dX11_begin_54 rfl ?_
              refine WP_sub (fc rfl (fc rfl (fc rfl fn))) (ihlp3353 v3364 I3359 fI3362 fQ3363 ?_ ?_)
              · try simp only [e3360, ew3338]
                refine ⟨k + 1, by omega, by omega, fun q hq h9 => ?_, fun q h8 h9 => ?_⟩
                · rw [eI3359, show v3357.toInt.toNat = k by omega, pp_at]
                  split
                  · rename_i e9
                    rw [e9, if_pos (by omega), ← ev3358, show i3349.toInt.toNat = k by omega, FC_at hy fB 10 (by decide) (by decide)]
                  · rename_i e9
                    rw [jA q hq h9]
                    by_cases e8 : q < k
                    · rw [if_pos e8, if_pos (by omega)]
                    · rw [if_neg e8, if_neg (by omega)]
                · rw [eI3359, show v3357.toInt.toNat = k by omega, pp_at, if_neg (by omega)]; exact jB q h8 h9
              · try simp only [e3360, ew3338]
                omega
        refine WP_sub (fc rfl (fc rfl (fc rfl fn))) (lp3353 _ v3348 I3341 fI3342 fQ3343 ?_ (Nat.lt_succ_self _))
        · try simp only [ew3345, ew3338]
          refine ⟨0, by omega, by omega, fun q hq h9 => ?_, iB⟩
          rw [if_neg (Nat.not_lt_zero _)]
          exact iA q (by omega) h9
      · refine WP_iload_n dX11_begin_8 rfl ?_
        refine WQ_bipush (28) (28) dX11_begin_9 rfl rfl (fun v3365 hv3365 => ?_)
        refine WQ_icmp_lt 20 dX11_begin_11 rfl (fun c3365 => ?_) (fun c3365 => ?_)
        · refine WP_aload_n dX11_begin_20 rfl ?_
          refine WP_iload_n dX11_begin_21 rfl ?_
          refine WQ_iconst (0) (0) dX11_begin_22 rfl rfl (fun v3367 hv3367 => ?_)
          refine WE_is dX11_begin_23 (ly_is hy 39 13 rfl) (ly_n hy 39 35 rfl) (by omega) (by omega) (fun I3368 eI3368 => ?_)
          have e3369 : I3368 (ad g 0) 10 = w3345 := by rw [eI3368, pp_ne _ _ (Or.inl (ly_ne hy (by decide) (by decide) (by decide)))]; exact ew3345
          have fI3370 : FC g [39] I I3368 := by rw [eI3368]; exact FC_pp fI3342 (by decide)
          have fQ3371 : FQ g [] I I3368 := by rw [eI3368]; exact FQ_ppn (ly_ne hy (by decide) (by decide) (by decide)) fQ3343
          refine WP_iinc (ls' := [(0, _), (1, _), (2, _)]) dX11_begin_24 rfl (by decide) rfl ?_
          have hv3372 : (i3340 + Int32.ofInt (1)).toInt = i3340.toInt + (1) := ia_n rfl (by omega) (by omega)
          generalize i3340 + Int32.ofInt (1) = v3372 at hv3372 ⊢
          refine WP_goto 2 dX11_begin_27 rfl ?_
          refine WP_sub (fc rfl (fc rfl (fc rfl fn))) (ihlp3344 v3372 I3368 fI3370 fQ3371 ?_ ?_)
          · try simp only [e3369, ew3338]
            refine ⟨k + 1, by omega, by omega, fun q hq h9 => ?_, fun q h8 h9 => ?_⟩
            · rw [eI3368, show i3340.toInt.toNat = k by omega, pp_at]
              split
              · omega
              · exact iA q (by omega) h9
            · rw [eI3368, show i3340.toInt.toNat = k by omega, pp_at, if_neg (by omega)]; exact iB q h8 h9
          · try simp only [e3369, ew3338]
            omega
        · refine WP_iload_n dX11_begin_14 rfl ?_
          refine WQ_bipush (32) (32) dX11_begin_15 rfl rfl (fun v3373 hv3373 => ?_)
          refine WQ_icmp_lt 24 dX11_begin_17 rfl (fun c3373 => ?_) (fun c3373 => ?_)
          · refine WP_iinc (ls' := [(0, _), (1, _), (2, _)]) dX11_begin_24 rfl (by decide) rfl ?_
            have hv3375 : (i3340 + Int32.ofInt (1)).toInt = i3340.toInt + (1) := ia_n rfl (by omega) (by omega)
            generalize i3340 + Int32.ofInt (1) = v3375 at hv3375 ⊢
            refine WP_goto 2 dX11_begin_27 rfl ?_
            refine WP_sub (fc rfl (fc rfl (fc rfl fn))) (ihlp3344 v3375 I3341 fI3342 fQ3343 ?_ ?_)
            · try simp only [ew3345, ew3338]
              refine ⟨k + 1, by omega, by omega, fun q hq h9 => iA q (by omega) h9, iB⟩
            · try simp only [ew3345, ew3338]
              omega
          · refine WP_aload_n dX11_begin_20 rfl ?_
            refine WP_iload_n dX11_begin_21 rfl ?_
            refine WQ_iconst (0) (0) dX11_begin_22 rfl rfl (fun v3376 hv3376 => ?_)
            refine WE_is dX11_begin_23 (ly_is hy 39 13 rfl) (ly_n hy 39 35 rfl) (by omega) (by omega) (fun I3377 eI3377 => ?_)
            have e3378 : I3377 (ad g 0) 10 = w3345 := by rw [eI3377, pp_ne _ _ (Or.inl (ly_ne hy (by decide) (by decide) (by decide)))]; exact ew3345
            have fI3379 : FC g [39] I I3377 := by rw [eI3377]; exact FC_pp fI3342 (by decide)
            have fQ3380 : FQ g [] I I3377 := by rw [eI3377]; exact FQ_ppn (ly_ne hy (by decide) (by decide) (by decide)) fQ3343
            refine WP_iinc (ls' := [(0, _), (1, _), (2, _)]) dX11_begin_24 rfl (by decide) rfl ?_
            have hv3381 : (i3340 + Int32.ofInt (1)).toInt = i3340.toInt + (1) := ia_n rfl (by omega) (by omega)
            generalize i3340 + Int32.ofInt (1) = v3381 at hv3381 ⊢
            refine WP_goto 2 dX11_begin_27 rfl ?_
            refine WP_sub (fc rfl (fc rfl (fc rfl fn))) (ihlp3344 v3381 I3377 fI3379 fQ3380 ?_ ?_)
            · try simp only [e3378, ew3338]
              refine ⟨k + 1, by omega, by omega, fun q hq h9 => ?_, fun q h8 h9 => ?_⟩
              · rw [eI3377, show i3340.toInt.toNat = k by omega, pp_at]
                split
                · omega
                · exact iA q (by omega) h9
              · rw [eI3377, show i3340.toInt.toNat = k by omega, pp_at, if_neg (by omega)]; exact iB q h8 h9
            · try simp only [e3378, ew3338]
              omega
  refine WP_sub (fc rfl (fc rfl (fc rfl fn))) (lp3344 _ v3339 I fI0 fQ0 ?_ (Nat.lt_succ_self _))
  · try simp only [ew3338]
    exact ⟨0, by omega, by omega, fun q h => absurd h (Nat.not_lt_zero _), by simp⟩
set_option maxHeartbeats 4000000 in
set_option maxRecDepth 100000 in
theorem em_forgetWeeks {g : GG} {I : pI} {J : pJ} {R : pR} (hy : Ly g) (hr : Rf g R)    : SP g mX11_forgetWeeks [.ref (ad g 0)] I J R (fun r I' J' R' => R' = R ∧ FC g [37] I I' ∧ FC g [] J J' ∧ FQ g [] I I' ∧ r = none ∧ (∀ q, q < 28 → (I' (ad g 37) q).toInt = 0)) := by
  refine SP_of ⟨by decide, rfl⟩ (Nat.le_of_ble_eq_true rfl) ?_
  have fI0 : FC g [37] I I := FC_rf
  have fJ0 : FC g [] J J := FC_rf
  have fQ0 : FQ g [] I I := FQ_rf
  refine WQ_iconst (0) (0) dX11_forgetWeeks_0 rfl rfl (fun v3382 hv3382 => ?_)
  refine WP_istore_n (ls' := [(0, _), (1, _)]) dX11_forgetWeeks_1 (by decide) rfl ?_
  have lp3387 : ∀ (mz : Nat) (i3383 : Int32) (I3384 : pI), FC g [37] I I3384 → FQ g [] I I3384 → (∃ k : Nat, i3383.toInt = (k : Int) ∧ k ≤ 28 ∧ ∀ q, q < k → (I3384 (ad g 37) q).toInt = 0) → (29 - i3383.toInt.toNat) < mz → WP g mX11_forgetWeeks 2 [(0, .ref (ad g 0)), (1, .int i3383)] [] I3384 J R (fun r I' J' R' => R' = R ∧ FC g [37] I I' ∧ FC g [] J J' ∧ FQ g [] I I' ∧ r = none ∧ (∀ q, q < 28 → (I' (ad g 37) q).toInt = 0)) := by
    intro mz
    induction mz with
    | zero =>
      intro i3383 I3384 fI3385 fQ3386 hvlp3387 hmlp3387
      exact absurd hmlp3387 (Nat.not_lt_zero _)
    | succ mz ihlp3387 =>
      intro i3383 I3384 fI3385 fQ3386 hvlp3387 hmlp3387
      obtain ⟨k, ik, ik4, iA⟩ := hvlp3387
      refine WP_iload_n dX11_forgetWeeks_2 rfl ?_
      refine WQ_bipush (28) (28) dX11_forgetWeeks_3 rfl rfl (fun v3388 hv3388 => ?_)
      refine WQ_icmp_ge 21 dX11_forgetWeeks_5 rfl (fun c3388 => ?_) (fun c3388 => ?_)
      · exact WP_vret dX11_forgetWeeks_21 rfl ⟨rfl, fI3385, fJ0, fQ3386, rfl, by
          intro q9 hq9
          exact iA q9 (by omega)⟩
      · refine WP_aload_n dX11_forgetWeeks_8 rfl ?_
        refine WP_getr dX11_forgetWeeks_9 fX11_279 rfl (ly_is hy 0 11 rfl) (rf hr 0 58 37 (by decide)) ?_
        refine WP_iload_n dX11_forgetWeeks_12 rfl ?_
        refine WQ_iconst (0) (0) dX11_forgetWeeks_13 rfl rfl (fun v3390 hv3390 => ?_)
        refine WE_zs dX11_forgetWeeks_14 (ly_is hy 37 15 rfl) (ly_n hy 37 28 rfl) (by omega) (by omega) (fun I3391 eI3391 => ?_)
        have fI3392 : FC g [37] I I3391 := by rw [eI3391]; exact FC_pp fI3385 (by decide)
        have fQ3393 : FQ g [] I I3391 := by rw [eI3391]; exact FQ_ppn (ly_ne hy (by decide) (by decide) (by decide)) fQ3386
        refine WP_iinc (ls' := [(0, _), (1, _)]) dX11_forgetWeeks_15 rfl (by decide) rfl ?_
        have hv3394 : (i3383 + Int32.ofInt (1)).toInt = i3383.toInt + (1) := ia_n rfl (by omega) (by omega)
        generalize i3383 + Int32.ofInt (1) = v3394 at hv3394 ⊢
        refine WP_goto 2 dX11_forgetWeeks_18 rfl ?_
        refine WP_sub (fc rfl (fc rfl fn)) (ihlp3387 v3394 I3391 fI3392 fQ3393 ?_ ?_)
        · refine ⟨k + 1, by omega, by omega, fun q hq => ?_⟩
          rw [eI3391, show i3383.toInt.toNat = k by omega, pp_at]
          split
          · exact narz (by omega)
          · exact iA q (by omega)
        · omega
  refine WP_sub (fc rfl (fc rfl fn)) (lp3387 _ v3382 I fI0 fQ0 ?_ (Nat.lt_succ_self _))
  · exact ⟨0, by omega, by omega, fun q h => absurd h (Nat.not_lt_zero _)⟩
set_option maxHeartbeats 4000000 in
set_option maxRecDepth 100000 in
theorem em_town {g : GG} {I : pI} {J : pJ} {R : pR} (hy : Ly g) (hr : Rf g R) {aK aV : Nat → Nat} {fo : Option Nat} (hz : HZ g aK aV fo) {B : Nat → Int} {n : Nat} (j : Nat → Nat → Int)  (h1 : (I (ad g 0) 1).toInt = (n : Int)) (hbt : ∀ q, q < 900 → (I (ad g 1) q).toInt = B q) (hn : n ≤ 900) (hB : ∀ q, -128 ≤ B q ∧ B q ≤ 127) : SP g mX11_town [.ref (ad g 0)] I J R (fun r I' J' R' => R' = R ∧ FC g [0, 6, 7, 8, 9, 10, 11, 12, 13, 14, 15, 16, 17, 18, 19, 20, 21, 22, 23, 24, 25, 26, 27, 28, 29, 30, 31, 32, 33, 34, 37, 38, 44, 46, 47] I I' ∧ FC g [0, 2, 3, 4, 5] J J' ∧ FQ g [1, 2, 3, 4, 5, 6, 7, 8, 9, 10, 11, 12, 13, 14, 15, 16, 17, 18, 19, 51, 68] I I' ∧ ∃ v : Int32, r = some (.int v) ∧ ((v.toInt = -1 ∧ ERR g (town B n j) I' ∧ FC g [0, 7, 14, 15, 16, 17, 18, 19, 27, 28, 29, 30, 31, 32, 33, 34] I I' ∧ FC g [4, 5] J J' ∧ FQ g [1, 2, 3, 4, 5, 6, 7, 8, 9, 15, 16, 17, 18, 19, 51] I I') ∨ (∃ S2 : TwS, town B n j = .ok S2 ∧ v.toInt = S2.1 0 0 ∧ RTT g S2 I' J' ∧ STM g S2 I' J'))) := by
  refine SP_of ⟨by decide, rfl⟩ (Nat.le_of_ble_eq_true rfl) ?_
  have fI0 : FC g [0, 6, 7, 8, 9, 10, 11, 12, 13, 14, 15, 16, 17, 18, 19, 20, 21, 22, 23, 24, 25, 26, 27, 28, 29, 30, 31, 32, 33, 34, 37, 38, 44, 46, 47] I I := FC_rf
  have fJ0 : FC g [0, 2, 3, 4, 5] J J := FC_rf
  have fQ0 : FQ g [1, 2, 3, 4, 5, 6, 7, 8, 9, 10, 11, 12, 13, 14, 15, 16, 17, 18, 19, 51, 68] I I := FQ_rf
  obtain ⟨w3395, ew3395⟩ : ∃ w : Int32, I (ad g 0) 1 = w := ⟨_, rfl⟩
  obtain ⟨w3396, ew3396⟩ : ∃ w : Int32, I (ad g 0) 8 = w := ⟨_, rfl⟩
  obtain ⟨w3397, ew3397⟩ : ∃ w : Int32, I (ad g 0) 9 = w := ⟨_, rfl⟩
  obtain ⟨w3398, ew3398⟩ : ∃ w : Int32, I (ad g 0) 10 = w := ⟨_, rfl⟩
  obtain ⟨w3399, ew3399⟩ : ∃ w : Int32, I (ad g 0) 11 = w := ⟨_, rfl⟩
  obtain ⟨w3400, ew3400⟩ : ∃ w : Int32, I (ad g 0) 13 = w := ⟨_, rfl⟩
  obtain ⟨w3401, ew3401⟩ : ∃ w : Int32, I (ad g 0) 14 = w := ⟨_, rfl⟩
  obtain ⟨w3402, ew3402⟩ : ∃ w : Int32, I (ad g 0) 15 = w := ⟨_, rfl⟩
  obtain ⟨w3403, ew3403⟩ : ∃ w : Int32, I (ad g 0) 16 = w := ⟨_, rfl⟩
  obtain ⟨w3404, ew3404⟩ : ∃ w : Int32, I (ad g 0) 17 = w := ⟨_, rfl⟩
  obtain ⟨w3405, ew3405⟩ : ∃ w : Int32, I (ad g 0) 18 = w := ⟨_, rfl⟩
  obtain ⟨w3406, ew3406⟩ : ∃ w : Int32, I (ad g 0) 19 = w := ⟨_, rfl⟩
  refine WP_aload_n dX11_town_0 rfl ?_
  refine WP_callV0 (k := 11) dX11_town_1 ⟨⟨⟨by decide, by decide⟩, zX11_open⟩, lX11_323, by decide, rfl, vX11_open.1, vX11_open.2⟩ (ly_is hy 0 11 rfl) (em_open hy hr   h1 hbt hn hB) (Nat.le_of_ble_eq_true rfl) ?_
  intro r I3408 J3409 Ra hq
  obtain ⟨ec, g3410, g3411, g3412, er, p3407⟩ := hq
  rw [ec, er]
  clear ec er Ra r
  have e3413 : I3408 (ad g 0) 10 = w3398 := by rw [g3412 10 (by decide)]; exact ew3398
  have e3414 : I3408 (ad g 0) 11 = w3399 := by rw [g3412 11 (by decide)]; exact ew3399
  have e3415 : I3408 (ad g 0) 13 = w3400 := by rw [g3412 13 (by decide)]; exact ew3400
  have e3416 : I3408 (ad g 0) 14 = w3401 := by rw [g3412 14 (by decide)]; exact ew3401
  have e3417 : I3408 (ad g 0) 15 = w3402 := by rw [g3412 15 (by decide)]; exact ew3402
  have e3418 : I3408 (ad g 0) 16 = w3403 := by rw [g3412 16 (by decide)]; exact ew3403
  have e3419 : I3408 (ad g 0) 17 = w3404 := by rw [g3412 17 (by decide)]; exact ew3404
  have e3420 : I3408 (ad g 0) 18 = w3405 := by rw [g3412 18 (by decide)]; exact ew3405
  have e3421 : I3408 (ad g 0) 19 = w3406 := by rw [g3412 19 (by decide)]; exact ew3406
  have fI3422 : FC g [0, 6, 7, 8, 9, 10, 11, 12, 13, 14, 15, 16, 17, 18, 19, 20, 21, 22, 23, 24, 25, 26, 27, 28, 29, 30, 31, 32, 33, 34, 37, 38, 44, 46, 47] I I3408 := FC_tr fI0 (FC_mono g3410 (by decide))
  have fJ3423 : FC g [0, 2, 3, 4, 5] J J3409 := FC_tr fJ0 (FC_mono g3411 (by decide))
  have fQ3424 : FQ g [1, 2, 3, 4, 5, 6, 7, 8, 9, 10, 11, 12, 13, 14, 15, 16, 17, 18, 19, 51, 68] I I3408 := FQ_tr fQ0 (FQ_mono g3412 (by decide))
  obtain ⟨w3425, ew3425⟩ : ∃ w : Int32, I3408 (ad g 0) 1 = w := ⟨_, rfl⟩
  obtain ⟨w3426, ew3426⟩ : ∃ w : Int32, I3408 (ad g 0) 8 = w := ⟨_, rfl⟩
  obtain ⟨w3427, ew3427⟩ : ∃ w : Int32, I3408 (ad g 0) 9 = w := ⟨_, rfl⟩
  try simp only [ew3425, ew3426, ew3427, e3413, e3414, e3415, e3416, e3417, e3418, e3419, e3420, e3421, ew3395, ew3396, ew3397, ew3398, ew3399, ew3400, ew3401, ew3402, ew3403, ew3404, ew3405, ew3406] at p3407
  obtain ⟨hT1, hC1, ht1, hf8, hf9⟩ := p3407
  refine WP_aload_n dX11_town_4 rfl ?_
  refine WP_callV0 (k := 11) dX11_town_5 ⟨⟨⟨by decide, by decide⟩, zX11_readTown⟩, lX11_326, by decide, rfl, vX11_readTown.1, vX11_readTown.2⟩ (ly_is hy 0 11 rfl) (em_readTown hy hr hz   j hT1 hC1 hn hB (Nat.zero_le _) rfl) (Nat.le_of_ble_eq_true rfl) ?_
  intro r I3430 J3431 Ra hq
  obtain ⟨ec, g3432, g3433, g3434, v3429, er, p3428⟩ := hq
  rw [ec, er]
  clear ec er Ra r
  have e3435 : I3430 (ad g 0) 10 = w3398 := by rw [g3434 10 (by decide)]; exact e3413
  have e3436 : I3430 (ad g 0) 11 = w3399 := by rw [g3434 11 (by decide)]; exact e3414
  have e3437 : I3430 (ad g 0) 13 = w3400 := by rw [g3434 13 (by decide)]; exact e3415
  have e3438 : I3430 (ad g 0) 14 = w3401 := by rw [g3434 14 (by decide)]; exact e3416
  have e3439 : I3430 (ad g 0) 1 = w3425 := by rw [g3434 1 (by decide)]; exact ew3425
  have fI3440 : FC g [0, 6, 7, 8, 9, 10, 11, 12, 13, 14, 15, 16, 17, 18, 19, 20, 21, 22, 23, 24, 25, 26, 27, 28, 29, 30, 31, 32, 33, 34, 37, 38, 44, 46, 47] I I3430 := FC_tr fI3422 (FC_mono g3432 (by decide))
  have fJ3441 : FC g [0, 2, 3, 4, 5] J J3431 := FC_tr fJ3423 (FC_mono g3433 (by decide))
  have fQ3442 : FQ g [1, 2, 3, 4, 5, 6, 7, 8, 9, 10, 11, 12, 13, 14, 15, 16, 17, 18, 19, 51, 68] I I3430 := FQ_tr fQ3424 (FQ_mono g3434 (by decide))
  obtain ⟨w3443, ew3443⟩ : ∃ w : Int32, I3430 (ad g 0) 8 = w := ⟨_, rfl⟩
  obtain ⟨w3444, ew3444⟩ : ∃ w : Int32, I3430 (ad g 0) 9 = w := ⟨_, rfl⟩
  obtain ⟨w3445, ew3445⟩ : ∃ w : Int32, I3430 (ad g 0) 15 = w := ⟨_, rfl⟩
  obtain ⟨w3446, ew3446⟩ : ∃ w : Int32, I3430 (ad g 0) 16 = w := ⟨_, rfl⟩
  obtain ⟨w3447, ew3447⟩ : ∃ w : Int32, I3430 (ad g 0) 17 = w := ⟨_, rfl⟩
  obtain ⟨w3448, ew3448⟩ : ∃ w : Int32, I3430 (ad g 0) 18 = w := ⟨_, rfl⟩
  obtain ⟨w3449, ew3449⟩ : ∃ w : Int32, I3430 (ad g 0) 19 = w := ⟨_, rfl⟩
  try simp only [e3439, ew3443, ew3444, e3435, e3436, e3437, e3438, ew3445, ew3446, ew3447, ew3448, ew3449, ew3395, ew3396, ew3397, ew3398, ew3399, ew3400, ew3401, ew3402, ew3403, ew3404, ew3405, ew3406] at p3428
  refine WQ_if_ne 13 dX11_town_8 rfl (fun c3449 => ?_) (fun c3449 => ?_)
  · obtain ⟨S2, hok, hR, hPI, hPJ, hSB, h19, hNF⟩ := (Or.resolve_left p3428 (by rintro ⟨z, -⟩; omega)).2
    have hg := town_all hok
    have hR1 := hR.1
    simp only [ew3445, ew3446, ew3447, ew3448] at hR1
    have h19b := h19
    try simp only [ew3449] at h19b
    have hbb := hSB
    unfold SBn at hbb
    obtain ⟨hb1, hb2, hb3, hb6⟩ := hbb
    have hst : S2.2 36 0 = true → S2.1 0 4 ≠ -1 := fun z => by have z2 := hPJ z; omega
    have hst2 := hPI.2.2.2.2.2.2.2.2.2
    refine WP_aload_n dX11_town_13 rfl ?_
    refine WP_aload_n dX11_town_14 rfl ?_
    refine WQ_getim dX11_town_15 fX11_88 rfl (ly_is hy 0 11 rfl) ew3445 ?_
    refine WQ_puti dX11_town_18 fX11_329 rfl rfl (ly_is hy 0 11 rfl) (fun I3451 eI3451 => ?_)
    have e3452 : I3451 (ad g 0) 11 = w3399 := by rw [eI3451, pp_ne _ _ (Or.inr (by decide))]; exact e3436
    have e3453 : I3451 (ad g 0) 13 = w3400 := by rw [eI3451, pp_ne _ _ (Or.inr (by decide))]; exact e3437
    have e3454 : I3451 (ad g 0) 14 = w3401 := by rw [eI3451, pp_ne _ _ (Or.inr (by decide))]; exact e3438
    have e3455 : I3451 (ad g 0) 1 = w3425 := by rw [eI3451, pp_ne _ _ (Or.inr (by decide))]; exact e3439
    have e3456 : I3451 (ad g 0) 8 = w3443 := by rw [eI3451, pp_ne _ _ (Or.inr (by decide))]; exact ew3443
    have e3457 : I3451 (ad g 0) 9 = w3444 := by rw [eI3451, pp_ne _ _ (Or.inr (by decide))]; exact ew3444
    have e3458 : I3451 (ad g 0) 15 = w3445 := by rw [eI3451, pp_ne _ _ (Or.inr (by decide))]; exact ew3445
    have e3459 : I3451 (ad g 0) 16 = w3446 := by rw [eI3451, pp_ne _ _ (Or.inr (by decide))]; exact ew3446
    have e3460 : I3451 (ad g 0) 17 = w3447 := by rw [eI3451, pp_ne _ _ (Or.inr (by decide))]; exact ew3447
    have e3461 : I3451 (ad g 0) 18 = w3448 := by rw [eI3451, pp_ne _ _ (Or.inr (by decide))]; exact ew3448
    have e3462 : I3451 (ad g 0) 19 = w3449 := by rw [eI3451, pp_ne _ _ (Or.inr (by decide))]; exact ew3449
    have e3463 : I3451 (ad g 0) 10 = w3445 := by rw [eI3451, pp_self]
    have fI3464 : FC g [0, 6, 7, 8, 9, 10, 11, 12, 13, 14, 15, 16, 17, 18, 19, 20, 21, 22, 23, 24, 25, 26, 27, 28, 29, 30, 31, 32, 33, 34, 37, 38, 44, 46, 47] I I3451 := by rw [eI3451]; exact FC_pp fI3440 (by decide)
    have fQ3465 : FQ g [1, 2, 3, 4, 5, 6, 7, 8, 9, 10, 11, 12, 13, 14, 15, 16, 17, 18, 19, 51, 68] I I3451 := by rw [eI3451]; exact FQ_pp0 fQ3442 (by decide)
    refine WP_aload_n dX11_town_21 rfl ?_
    refine WP_aload_n dX11_town_22 rfl ?_
    refine WQ_getim dX11_town_23 fX11_126 rfl (ly_is hy 0 11 rfl) e3459 ?_
    refine WQ_puti dX11_town_26 fX11_332 rfl rfl (ly_is hy 0 11 rfl) (fun I3466 eI3466 => ?_)
    have e3467 : I3466 (ad g 0) 13 = w3400 := by rw [eI3466, pp_ne _ _ (Or.inr (by decide))]; exact e3453
    have e3468 : I3466 (ad g 0) 14 = w3401 := by rw [eI3466, pp_ne _ _ (Or.inr (by decide))]; exact e3454
    have e3469 : I3466 (ad g 0) 1 = w3425 := by rw [eI3466, pp_ne _ _ (Or.inr (by decide))]; exact e3455
    have e3470 : I3466 (ad g 0) 8 = w3443 := by rw [eI3466, pp_ne _ _ (Or.inr (by decide))]; exact e3456
    have e3471 : I3466 (ad g 0) 9 = w3444 := by rw [eI3466, pp_ne _ _ (Or.inr (by decide))]; exact e3457
    have e3472 : I3466 (ad g 0) 15 = w3445 := by rw [eI3466, pp_ne _ _ (Or.inr (by decide))]; exact e3458
    have e3473 : I3466 (ad g 0) 16 = w3446 := by rw [eI3466, pp_ne _ _ (Or.inr (by decide))]; exact e3459
    have e3474 : I3466 (ad g 0) 17 = w3447 := by rw [eI3466, pp_ne _ _ (Or.inr (by decide))]; exact e3460
    have e3475 : I3466 (ad g 0) 18 = w3448 := by rw [eI3466, pp_ne _ _ (Or.inr (by decide))]; exact e3461
    have e3476 : I3466 (ad g 0) 19 = w3449 := by rw [eI3466, pp_ne _ _ (Or.inr (by decide))]; exact e3462
    have e3477 : I3466 (ad g 0) 10 = w3445 := by rw [eI3466, pp_ne _ _ (Or.inr (by decide))]; exact e3463
    have e3478 : I3466 (ad g 0) 11 = w3446 := by rw [eI3466, pp_self]
    have fI3479 : FC g [0, 6, 7, 8, 9, 10, 11, 12, 13, 14, 15, 16, 17, 18, 19, 20, 21, 22, 23, 24, 25, 26, 27, 28, 29, 30, 31, 32, 33, 34, 37, 38, 44, 46, 47] I I3466 := by rw [eI3466]; exact FC_pp fI3464 (by decide)
    have fQ3480 : FQ g [1, 2, 3, 4, 5, 6, 7, 8, 9, 10, 11, 12, 13, 14, 15, 16, 17, 18, 19, 51, 68] I I3466 := by rw [eI3466]; exact FQ_pp0 fQ3465 (by decide)
    refine WP_aload_n dX11_town_29 rfl ?_
    refine WP_aload_n dX11_town_30 rfl ?_
    refine WQ_getim dX11_town_31 fX11_158 rfl (ly_is hy 0 11 rfl) e3474 ?_
    refine WQ_puti dX11_town_34 fX11_221 rfl rfl (ly_is hy 0 11 rfl) (fun I3481 eI3481 => ?_)
    have e3482 : I3481 (ad g 0) 14 = w3401 := by rw [eI3481, pp_ne _ _ (Or.inr (by decide))]; exact e3468
    have e3483 : I3481 (ad g 0) 1 = w3425 := by rw [eI3481, pp_ne _ _ (Or.inr (by decide))]; exact e3469
    have e3484 : I3481 (ad g 0) 8 = w3443 := by rw [eI3481, pp_ne _ _ (Or.inr (by decide))]; exact e3470
    have e3485 : I3481 (ad g 0) 9 = w3444 := by rw [eI3481, pp_ne _ _ (Or.inr (by decide))]; exact e3471
    have e3486 : I3481 (ad g 0) 15 = w3445 := by rw [eI3481, pp_ne _ _ (Or.inr (by decide))]; exact e3472
    have e3487 : I3481 (ad g 0) 16 = w3446 := by rw [eI3481, pp_ne _ _ (Or.inr (by decide))]; exact e3473
    have e3488 : I3481 (ad g 0) 17 = w3447 := by rw [eI3481, pp_ne _ _ (Or.inr (by decide))]; exact e3474
    have e3489 : I3481 (ad g 0) 18 = w3448 := by rw [eI3481, pp_ne _ _ (Or.inr (by decide))]; exact e3475
    have e3490 : I3481 (ad g 0) 19 = w3449 := by rw [eI3481, pp_ne _ _ (Or.inr (by decide))]; exact e3476
    have e3491 : I3481 (ad g 0) 10 = w3445 := by rw [eI3481, pp_ne _ _ (Or.inr (by decide))]; exact e3477
    have e3492 : I3481 (ad g 0) 11 = w3446 := by rw [eI3481, pp_ne _ _ (Or.inr (by decide))]; exact e3478
    have e3493 : I3481 (ad g 0) 13 = w3447 := by rw [eI3481, pp_self]
    have fI3494 : FC g [0, 6, 7, 8, 9, 10, 11, 12, 13, 14, 15, 16, 17, 18, 19, 20, 21, 22, 23, 24, 25, 26, 27, 28, 29, 30, 31, 32, 33, 34, 37, 38, 44, 46, 47] I I3481 := by rw [eI3481]; exact FC_pp fI3479 (by decide)
    have fQ3495 : FQ g [1, 2, 3, 4, 5, 6, 7, 8, 9, 10, 11, 12, 13, 14, 15, 16, 17, 18, 19, 51, 68] I I3481 := by rw [eI3481]; exact FQ_pp0 fQ3480 (by decide)
    have jn3499 : ∀ (I3496 : pI), FC g [0, 6, 7, 8, 9, 10, 11, 12, 13, 14, 15, 16, 17, 18, 19, 20, 21, 22, 23, 24, 25, 26, 27, 28, 29, 30, 31, 32, 33, 34, 37, 38, 44, 46, 47] I I3496 → FQ g [1, 2, 3, 4, 5, 6, 7, 8, 9, 10, 11, 12, 13, 14, 15, 16, 17, 18, 19, 51, 68] I I3496 → (FC g [0] I3430 I3496 ∧ (I3496 (ad g 0) 10).toInt = S2.1 0 1 ∧ (I3496 (ad g 0) 11).toInt = S2.1 0 2 ∧ (I3496 (ad g 0) 13).toInt = S2.1 0 3 ∧ (I3496 (ad g 0) 14).toInt = S2.1 0 4 ∧ (I3496 (ad g 0) 19).toInt = S2.1 0 0) → WP g mX11_town 68 [(0, .ref (ad g 0))] [] I3496 J3431 R (fun r I' J' R' => R' = R ∧ FC g [0, 6, 7, 8, 9, 10, 11, 12, 13, 14, 15, 16, 17, 18, 19, 20, 21, 22, 23, 24, 25, 26, 27, 28, 29, 30, 31, 32, 33, 34, 37, 38, 44, 46, 47] I I' ∧ FC g [0, 2, 3, 4, 5] J J' ∧ FQ g [1, 2, 3, 4, 5, 6, 7, 8, 9, 10, 11, 12, 13, 14, 15, 16, 17, 18, 19, 51, 68] I I' ∧ ∃ v : Int32, r = some (.int v) ∧ ((v.toInt = -1 ∧ ERR g (town B n j) I' ∧ FC g [0, 7, 14, 15, 16, 17, 18, 19, 27, 28, 29, 30, 31, 32, 33, 34] I I' ∧ FC g [4, 5] J J' ∧ FQ g [1, 2, 3, 4, 5, 6, 7, 8, 9, 15, 16, 17, 18, 19, 51] I I') ∨ (∃ S2 : TwS, town B n j = .ok S2 ∧ v.toInt = S2.1 0 0 ∧ RTT g S2 I' J' ∧ STM g S2 I' J'))) := by
      intro I3496 fI3497 fQ3498 hvjn3499
      obtain ⟨w3500, ew3500⟩ : ∃ w : Int32, I3496 (ad g 0) 1 = w := ⟨_, rfl⟩
      obtain ⟨w3501, ew3501⟩ : ∃ w : Int32, I3496 (ad g 0) 8 = w := ⟨_, rfl⟩
      obtain ⟨w3502, ew3502⟩ : ∃ w : Int32, I3496 (ad g 0) 9 = w := ⟨_, rfl⟩
      obtain ⟨w3503, ew3503⟩ : ∃ w : Int32, I3496 (ad g 0) 10 = w := ⟨_, rfl⟩
      obtain ⟨w3504, ew3504⟩ : ∃ w : Int32, I3496 (ad g 0) 11 = w := ⟨_, rfl⟩
      obtain ⟨w3505, ew3505⟩ : ∃ w : Int32, I3496 (ad g 0) 13 = w := ⟨_, rfl⟩
      obtain ⟨w3506, ew3506⟩ : ∃ w : Int32, I3496 (ad g 0) 14 = w := ⟨_, rfl⟩
      obtain ⟨w3507, ew3507⟩ : ∃ w : Int32, I3496 (ad g 0) 15 = w := ⟨_, rfl⟩
      obtain ⟨w3508, ew3508⟩ : ∃ w : Int32, I3496 (ad g 0) 16 = w := ⟨_, rfl⟩
      obtain ⟨w3509, ew3509⟩ : ∃ w : Int32, I3496 (ad g 0) 17 = w := ⟨_, rfl⟩
      obtain ⟨w3510, ew3510⟩ : ∃ w : Int32, I3496 (ad g 0) 18 = w := ⟨_, rfl⟩
      obtain ⟨w3511, ew3511⟩ : ∃ w : Int32, I3496 (ad g 0) 19 = w := ⟨_, rfl⟩
      try simp only [ew3500, ew3501, ew3502, ew3503, ew3504, ew3505, ew3506, ew3507, ew3508, ew3509, ew3510, ew3511, ew3395, ew3396, ew3397, ew3398, ew3399, ew3400, ew3401, ew3402, ew3403, ew3404, ew3405, ew3406] at hvjn3499
      obtain ⟨jF1, j10, j11, j13, j14, j19⟩ := hvjn3499
      refine WP_aload_n dX11_town_68 rfl ?_
      refine WP_aload_n dX11_town_69 rfl ?_
      refine WQ_getim dX11_town_70 fX11_207 rfl (ly_is hy 0 11 rfl) ew3511 ?_
      refine WQ_puti dX11_town_73 fX11_335 rfl rfl (ly_is hy 0 11 rfl) (fun I3512 eI3512 => ?_)
      have e3513 : I3512 (ad g 0) 1 = w3500 := by rw [eI3512, pp_ne _ _ (Or.inr (by decide))]; exact ew3500
      have e3514 : I3512 (ad g 0) 8 = w3501 := by rw [eI3512, pp_ne _ _ (Or.inr (by decide))]; exact ew3501
      have e3515 : I3512 (ad g 0) 9 = w3502 := by rw [eI3512, pp_ne _ _ (Or.inr (by decide))]; exact ew3502
      have e3516 : I3512 (ad g 0) 10 = w3503 := by rw [eI3512, pp_ne _ _ (Or.inr (by decide))]; exact ew3503
      have e3517 : I3512 (ad g 0) 11 = w3504 := by rw [eI3512, pp_ne _ _ (Or.inr (by decide))]; exact ew3504
      have e3518 : I3512 (ad g 0) 13 = w3505 := by rw [eI3512, pp_ne _ _ (Or.inr (by decide))]; exact ew3505
      have e3519 : I3512 (ad g 0) 14 = w3506 := by rw [eI3512, pp_ne _ _ (Or.inr (by decide))]; exact ew3506
      have e3520 : I3512 (ad g 0) 15 = w3507 := by rw [eI3512, pp_ne _ _ (Or.inr (by decide))]; exact ew3507
      have e3521 : I3512 (ad g 0) 16 = w3508 := by rw [eI3512, pp_ne _ _ (Or.inr (by decide))]; exact ew3508
      have e3522 : I3512 (ad g 0) 17 = w3509 := by rw [eI3512, pp_ne _ _ (Or.inr (by decide))]; exact ew3509
      have e3523 : I3512 (ad g 0) 18 = w3510 := by rw [eI3512, pp_ne _ _ (Or.inr (by decide))]; exact ew3510
      have e3524 : I3512 (ad g 0) 19 = w3511 := by rw [eI3512, pp_ne _ _ (Or.inr (by decide))]; exact ew3511
      have e3525 : I3512 (ad g 0) 12 = w3511 := by rw [eI3512, pp_self]
      have fI3526 : FC g [0, 6, 7, 8, 9, 10, 11, 12, 13, 14, 15, 16, 17, 18, 19, 20, 21, 22, 23, 24, 25, 26, 27, 28, 29, 30, 31, 32, 33, 34, 37, 38, 44, 46, 47] I I3512 := by rw [eI3512]; exact FC_pp fI3497 (by decide)
      have fQ3527 : FQ g [1, 2, 3, 4, 5, 6, 7, 8, 9, 10, 11, 12, 13, 14, 15, 16, 17, 18, 19, 51, 68] I I3512 := by rw [eI3512]; exact FQ_pp0 fQ3498 (by decide)
      refine WQ_iconst (0) (0) dX11_town_76 rfl rfl (fun v3528 hv3528 => ?_)
      refine WP_istore_n (ls' := [(0, _), (1, _)]) dX11_town_77 (by decide) rfl ?_
      have lp3532 : ∀ (mz : Nat) (i3529 : Int32) (J3530 : pJ), FC g [0, 2, 3, 4, 5] J J3530 → (∃ k : Nat, i3529.toInt = (k : Int) ∧ (k : Int) ≤ S2.1 0 1 ∧ (∀ q, q < k → J3530 (ad g 2) q = J3431 (ad g 4) q) ∧ FC g [2] J3431 J3530) → (5 - i3529.toInt.toNat) < mz → WP g mX11_town 78 [(0, .ref (ad g 0)), (1, .int i3529)] [] I3512 J3530 R (fun r I' J' R' => R' = R ∧ FC g [0, 6, 7, 8, 9, 10, 11, 12, 13, 14, 15, 16, 17, 18, 19, 20, 21, 22, 23, 24, 25, 26, 27, 28, 29, 30, 31, 32, 33, 34, 37, 38, 44, 46, 47] I I' ∧ FC g [0, 2, 3, 4, 5] J J' ∧ FQ g [1, 2, 3, 4, 5, 6, 7, 8, 9, 10, 11, 12, 13, 14, 15, 16, 17, 18, 19, 51, 68] I I' ∧ ∃ v : Int32, r = some (.int v) ∧ ((v.toInt = -1 ∧ ERR g (town B n j) I' ∧ FC g [0, 7, 14, 15, 16, 17, 18, 19, 27, 28, 29, 30, 31, 32, 33, 34] I I' ∧ FC g [4, 5] J J' ∧ FQ g [1, 2, 3, 4, 5, 6, 7, 8, 9, 15, 16, 17, 18, 19, 51] I I') ∨ (∃ S2 : TwS, town B n j = .ok S2 ∧ v.toInt = S2.1 0 0 ∧ RTT g S2 I' J' ∧ STM g S2 I' J'))) := by
        intro mz
        induction mz with
        | zero =>
          intro i3529 J3530 fJ3531 hvlp3532 hmlp3532
          exact absurd hmlp3532 (Nat.not_lt_zero _)
        | succ mz ihlp3532 =>
          intro i3529 J3530 fJ3531 hvlp3532 hmlp3532
          try simp only [e3513, e3514, e3515, e3516, e3517, e3518, e3519, e3520, e3521, e3522, e3523, e3524, ew3395, ew3396, ew3397, ew3398, ew3399, ew3400, ew3401, ew3402, ew3403, ew3404, ew3405, ew3406] at hvlp3532 hmlp3532
          obtain ⟨k, ik, ik4, jA, jF⟩ := hvlp3532
          refine WP_iload_n dX11_town_78 rfl ?_
          refine WP_aload_n dX11_town_79 rfl ?_
          refine WQ_getim dX11_town_80 fX11_329 rfl (ly_is hy 0 11 rfl) e3516 ?_
          refine WQ_icmp_ge 104 dX11_town_83 rfl (fun c3532 => ?_) (fun c3532 => ?_)
          · refine WQ_iconst (0) (0) dX11_town_104 rfl rfl (fun v3534 hv3534 => ?_)
            refine WP_istore_n (ls' := [(0, _), (1, _)]) dX11_town_105 (by decide) rfl ?_
            have k78 : (k : Int) = S2.1 0 1 := by omega
            have lp3538 : ∀ (mz : Nat) (i3535 : Int32) (J3536 : pJ), FC g [0, 2, 3, 4, 5] J J3536 → (∃ k : Nat, i3535.toInt = (k : Int) ∧ (k : Int) ≤ S2.1 0 2 ∧ (∀ q, q < k → J3536 (ad g 3) q = J3431 (ad g 5) q) ∧ FC g [2, 3] J3431 J3536 ∧ FC g [3] J3530 J3536) → (4 - i3535.toInt.toNat) < mz → WP g mX11_town 106 [(0, .ref (ad g 0)), (1, .int i3535)] [] I3512 J3536 R (fun r I' J' R' => R' = R ∧ FC g [0, 6, 7, 8, 9, 10, 11, 12, 13, 14, 15, 16, 17, 18, 19, 20, 21, 22, 23, 24, 25, 26, 27, 28, 29, 30, 31, 32, 33, 34, 37, 38, 44, 46, 47] I I' ∧ FC g [0, 2, 3, 4, 5] J J' ∧ FQ g [1, 2, 3, 4, 5, 6, 7, 8, 9, 10, 11, 12, 13, 14, 15, 16, 17, 18, 19, 51, 68] I I' ∧ ∃ v : Int32, r = some (.int v) ∧ ((v.toInt = -1 ∧ ERR g (town B n j) I' ∧ FC g [0, 7, 14, 15, 16, 17, 18, 19, 27, 28, 29, 30, 31, 32, 33, 34] I I' ∧ FC g [4, 5] J J' ∧ FQ g [1, 2, 3, 4, 5, 6, 7, 8, 9, 15, 16, 17, 18, 19, 51] I I') ∨ (∃ S2 : TwS, town B n j = .ok S2 ∧ v.toInt = S2.1 0 0 ∧ RTT g S2 I' J' ∧ STM g S2 I' J'))) := by
              intro mz
              induction mz with
              | zero =>
                intro i3535 J3536 fJ3537 hvlp3538 hmlp3538
                exact absurd hmlp3538 (Nat.not_lt_zero _)
              | succ mz ihlp3538 =>
                intro i3535 J3536 fJ3537 hvlp3538 hmlp3538
                try simp only [e3513, e3514, e3515, e3516, e3517, e3518, e3519, e3520, e3521, e3522, e3523, e3524, ew3395, ew3396, ew3397, ew3398, ew3399, ew3400, ew3401, ew3402, ew3403, ew3404, ew3405, ew3406] at hvlp3538 hmlp3538
                obtain ⟨k2, ik2, ik42, kA, kF, kG⟩ := hvlp3538
                refine WP_iload_n dX11_town_106 rfl ?_
                refine WP_aload_n dX11_town_107 rfl ?_
                refine WQ_getim dX11_town_108 fX11_332 rfl (ly_is hy 0 11 rfl) e3517 ?_
                refine WQ_icmp_ge 132 dX11_town_111 rfl (fun c3538 => ?_) (fun c3538 => ?_)
                · refine WP_aload_n dX11_town_132 rfl ?_
                  refine WP_getr dX11_town_133 fX11_233 rfl (ly_is hy 0 11 rfl) (rf hr 0 24 6 (by decide)) ?_
                  refine WP_aload_n dX11_town_136 rfl ?_
                  refine WP_getr dX11_town_137 fX11_84 rfl (ly_is hy 0 11 rfl) (rf hr 0 25 7 (by decide)) ?_
                  refine WP_callS2 dX11_town_140 ⟨⟨⟨by decide, by decide⟩, zX11_copy⟩, lX11_338, tX11_copy⟩ (em_copy6 hy hr   ) (Nat.le_of_ble_eq_true rfl) ?_
                  intro r I3541 J3542 Ra hq
                  obtain ⟨ec, g3543, g3544, g3545, er, p3540⟩ := hq
                  rw [ec, er]
                  clear ec er Ra r
                  have e3546 : I3541 (ad g 0) 1 = w3500 := by rw [FC_at hy g3543 0 (by decide) (by decide)]; exact e3513
                  have e3547 : I3541 (ad g 0) 8 = w3501 := by rw [FC_at hy g3543 0 (by decide) (by decide)]; exact e3514
                  have e3548 : I3541 (ad g 0) 9 = w3502 := by rw [FC_at hy g3543 0 (by decide) (by decide)]; exact e3515
                  have e3549 : I3541 (ad g 0) 10 = w3503 := by rw [FC_at hy g3543 0 (by decide) (by decide)]; exact e3516
                  have e3550 : I3541 (ad g 0) 11 = w3504 := by rw [FC_at hy g3543 0 (by decide) (by decide)]; exact e3517
                  have e3551 : I3541 (ad g 0) 13 = w3505 := by rw [FC_at hy g3543 0 (by decide) (by decide)]; exact e3518
                  have e3552 : I3541 (ad g 0) 14 = w3506 := by rw [FC_at hy g3543 0 (by decide) (by decide)]; exact e3519
                  have e3553 : I3541 (ad g 0) 15 = w3507 := by rw [FC_at hy g3543 0 (by decide) (by decide)]; exact e3520
                  have e3554 : I3541 (ad g 0) 16 = w3508 := by rw [FC_at hy g3543 0 (by decide) (by decide)]; exact e3521
                  have e3555 : I3541 (ad g 0) 17 = w3509 := by rw [FC_at hy g3543 0 (by decide) (by decide)]; exact e3522
                  have e3556 : I3541 (ad g 0) 18 = w3510 := by rw [FC_at hy g3543 0 (by decide) (by decide)]; exact e3523
                  have e3557 : I3541 (ad g 0) 19 = w3511 := by rw [FC_at hy g3543 0 (by decide) (by decide)]; exact e3524
                  have e3558 : I3541 (ad g 0) 12 = w3511 := by rw [FC_at hy g3543 0 (by decide) (by decide)]; exact e3525
                  have fI3559 : FC g [0, 6, 7, 8, 9, 10, 11, 12, 13, 14, 15, 16, 17, 18, 19, 20, 21, 22, 23, 24, 25, 26, 27, 28, 29, 30, 31, 32, 33, 34, 37, 38, 44, 46, 47] I I3541 := FC_tr fI3526 (FC_mono g3543 (by decide))
                  have fJ3560 : FC g [0, 2, 3, 4, 5] J J3542 := FC_tr fJ3537 (FC_mono g3544 (by decide))
                  have fQ3561 : FQ g [1, 2, 3, 4, 5, 6, 7, 8, 9, 10, 11, 12, 13, 14, 15, 16, 17, 18, 19, 51, 68] I I3541 := FQ_tr fQ3527 (FQ_mono g3545 (by decide))
                  try simp only [e3546, e3547, e3548, e3549, e3550, e3551, e3552, e3553, e3554, e3555, e3556, e3557, ew3395, ew3396, ew3397, ew3398, ew3399, ew3400, ew3401, ew3402, ew3403, ew3404, ew3405, ew3406] at p3540
                  have d6 : ∀ q, q < 7 → I3541 (ad g 6) q = I3430 (ad g 7) q := fun q hq => by rw [p3540 q hq, eI3512, pp_off _ _ (ly_ne hy (by decide) (by decide) (by decide)), FC_at hy jF1 7 (by decide) (by decide)]
                  refine WP_aload_n dX11_town_143 rfl ?_
                  refine WP_getr dX11_town_144 fX11_235 rfl (ly_is hy 0 11 rfl) (rf hr 0 26 8 (by decide)) ?_
                  refine WP_aload_n dX11_town_147 rfl ?_
                  refine WP_getr dX11_town_148 fX11_99 rfl (ly_is hy 0 11 rfl) (rf hr 0 32 14 (by decide)) ?_
                  refine WP_callS2 dX11_town_151 ⟨⟨⟨by decide, by decide⟩, zX11_copy⟩, lX11_338, tX11_copy⟩ (em_copy8 hy hr   ) (Nat.le_of_ble_eq_true rfl) ?_
                  intro r I3563 J3564 Ra hq
                  obtain ⟨ec, g3565, g3566, g3567, er, p3562⟩ := hq
                  rw [ec, er]
                  clear ec er Ra r
                  have e3568 : I3563 (ad g 0) 1 = w3500 := by rw [FC_at hy g3565 0 (by decide) (by decide)]; exact e3546
                  have e3569 : I3563 (ad g 0) 8 = w3501 := by rw [FC_at hy g3565 0 (by decide) (by decide)]; exact e3547
                  have e3570 : I3563 (ad g 0) 9 = w3502 := by rw [FC_at hy g3565 0 (by decide) (by decide)]; exact e3548
                  have e3571 : I3563 (ad g 0) 10 = w3503 := by rw [FC_at hy g3565 0 (by decide) (by decide)]; exact e3549
                  have e3572 : I3563 (ad g 0) 11 = w3504 := by rw [FC_at hy g3565 0 (by decide) (by decide)]; exact e3550
                  have e3573 : I3563 (ad g 0) 13 = w3505 := by rw [FC_at hy g3565 0 (by decide) (by decide)]; exact e3551
                  have e3574 : I3563 (ad g 0) 14 = w3506 := by rw [FC_at hy g3565 0 (by decide) (by decide)]; exact e3552
                  have e3575 : I3563 (ad g 0) 15 = w3507 := by rw [FC_at hy g3565 0 (by decide) (by decide)]; exact e3553
                  have e3576 : I3563 (ad g 0) 16 = w3508 := by rw [FC_at hy g3565 0 (by decide) (by decide)]; exact e3554
                  have e3577 : I3563 (ad g 0) 17 = w3509 := by rw [FC_at hy g3565 0 (by decide) (by decide)]; exact e3555
                  have e3578 : I3563 (ad g 0) 18 = w3510 := by rw [FC_at hy g3565 0 (by decide) (by decide)]; exact e3556
                  have e3579 : I3563 (ad g 0) 19 = w3511 := by rw [FC_at hy g3565 0 (by decide) (by decide)]; exact e3557
                  have e3580 : I3563 (ad g 0) 12 = w3511 := by rw [FC_at hy g3565 0 (by decide) (by decide)]; exact e3558
                  have fI3581 : FC g [0, 6, 7, 8, 9, 10, 11, 12, 13, 14, 15, 16, 17, 18, 19, 20, 21, 22, 23, 24, 25, 26, 27, 28, 29, 30, 31, 32, 33, 34, 37, 38, 44, 46, 47] I I3563 := FC_tr fI3559 (FC_mono g3565 (by decide))
                  have fJ3582 : FC g [0, 2, 3, 4, 5] J J3564 := FC_tr fJ3560 (FC_mono g3566 (by decide))
                  have fQ3583 : FQ g [1, 2, 3, 4, 5, 6, 7, 8, 9, 10, 11, 12, 13, 14, 15, 16, 17, 18, 19, 51, 68] I I3563 := FQ_tr fQ3561 (FQ_mono g3567 (by decide))
                  try simp only [e3568, e3569, e3570, e3571, e3572, e3573, e3574, e3575, e3576, e3577, e3578, e3579, ew3395, ew3396, ew3397, ew3398, ew3399, ew3400, ew3401, ew3402, ew3403, ew3404, ew3405, ew3406] at p3562
                  have d8 : ∀ q, q < 4 → I3563 (ad g 8) q = I3430 (ad g 14) q := fun q hq => by rw [p3562 q hq, FC_at hy g3543 14 (by decide) (by decide), eI3512, pp_off _ _ (ly_ne hy (by decide) (by decide) (by decide)), FC_at hy jF1 14 (by decide) (by decide)]
                  refine WP_aload_n dX11_town_154 rfl ?_
                  refine WP_getr dX11_town_155 fX11_238 rfl (ly_is hy 0 11 rfl) (rf hr 0 27 9 (by decide)) ?_
                  refine WP_aload_n dX11_town_158 rfl ?_
                  refine WP_getr dX11_town_159 fX11_102 rfl (ly_is hy 0 11 rfl) (rf hr 0 33 15 (by decide)) ?_
                  refine WP_callS2 dX11_town_162 ⟨⟨⟨by decide, by decide⟩, zX11_copy⟩, lX11_338, tX11_copy⟩ (em_copy9 hy hr   ) (Nat.le_of_ble_eq_true rfl) ?_
                  intro r I3585 J3586 Ra hq
                  obtain ⟨ec, g3587, g3588, g3589, er, p3584⟩ := hq
                  rw [ec, er]
                  clear ec er Ra r
                  have e3590 : I3585 (ad g 0) 1 = w3500 := by rw [FC_at hy g3587 0 (by decide) (by decide)]; exact e3568
                  have e3591 : I3585 (ad g 0) 8 = w3501 := by rw [FC_at hy g3587 0 (by decide) (by decide)]; exact e3569
                  have e3592 : I3585 (ad g 0) 9 = w3502 := by rw [FC_at hy g3587 0 (by decide) (by decide)]; exact e3570
                  have e3593 : I3585 (ad g 0) 10 = w3503 := by rw [FC_at hy g3587 0 (by decide) (by decide)]; exact e3571
                  have e3594 : I3585 (ad g 0) 11 = w3504 := by rw [FC_at hy g3587 0 (by decide) (by decide)]; exact e3572
                  have e3595 : I3585 (ad g 0) 13 = w3505 := by rw [FC_at hy g3587 0 (by decide) (by decide)]; exact e3573
                  have e3596 : I3585 (ad g 0) 14 = w3506 := by rw [FC_at hy g3587 0 (by decide) (by decide)]; exact e3574
                  have e3597 : I3585 (ad g 0) 15 = w3507 := by rw [FC_at hy g3587 0 (by decide) (by decide)]; exact e3575
                  have e3598 : I3585 (ad g 0) 16 = w3508 := by rw [FC_at hy g3587 0 (by decide) (by decide)]; exact e3576
                  have e3599 : I3585 (ad g 0) 17 = w3509 := by rw [FC_at hy g3587 0 (by decide) (by decide)]; exact e3577
                  have e3600 : I3585 (ad g 0) 18 = w3510 := by rw [FC_at hy g3587 0 (by decide) (by decide)]; exact e3578
                  have e3601 : I3585 (ad g 0) 19 = w3511 := by rw [FC_at hy g3587 0 (by decide) (by decide)]; exact e3579
                  have e3602 : I3585 (ad g 0) 12 = w3511 := by rw [FC_at hy g3587 0 (by decide) (by decide)]; exact e3580
                  have fI3603 : FC g [0, 6, 7, 8, 9, 10, 11, 12, 13, 14, 15, 16, 17, 18, 19, 20, 21, 22, 23, 24, 25, 26, 27, 28, 29, 30, 31, 32, 33, 34, 37, 38, 44, 46, 47] I I3585 := FC_tr fI3581 (FC_mono g3587 (by decide))
                  have fJ3604 : FC g [0, 2, 3, 4, 5] J J3586 := FC_tr fJ3582 (FC_mono g3588 (by decide))
                  have fQ3605 : FQ g [1, 2, 3, 4, 5, 6, 7, 8, 9, 10, 11, 12, 13, 14, 15, 16, 17, 18, 19, 51, 68] I I3585 := FQ_tr fQ3583 (FQ_mono g3589 (by decide))
                  try simp only [e3590, e3591, e3592, e3593, e3594, e3595, e3596, e3597, e3598, e3599, e3600, e3601, ew3395, ew3396, ew3397, ew3398, ew3399, ew3400, ew3401, ew3402, ew3403, ew3404, ew3405, ew3406] at p3584
                  have d9 : ∀ q, q < 4 → I3585 (ad g 9) q = I3430 (ad g 15) q := fun q hq => by rw [p3584 q hq, FC_at hy g3565 15 (by decide) (by decide), FC_at hy g3543 15 (by decide) (by decide), eI3512, pp_off _ _ (ly_ne hy (by decide) (by decide) (by decide)), FC_at hy jF1 15 (by decide) (by decide)]
                  refine WP_aload_n dX11_town_165 rfl ?_
                  refine WP_getr dX11_town_166 fX11_241 rfl (ly_is hy 0 11 rfl) (rf hr 0 28 10 (by decide)) ?_
                  refine WP_aload_n dX11_town_169 rfl ?_
                  refine WP_getr dX11_town_170 fX11_105 rfl (ly_is hy 0 11 rfl) (rf hr 0 34 16 (by decide)) ?_
                  refine WP_callS2 dX11_town_173 ⟨⟨⟨by decide, by decide⟩, zX11_copy⟩, lX11_338, tX11_copy⟩ (em_copy10 hy hr   ) (Nat.le_of_ble_eq_true rfl) ?_
                  intro r I3607 J3608 Ra hq
                  obtain ⟨ec, g3609, g3610, g3611, er, p3606⟩ := hq
                  rw [ec, er]
                  clear ec er Ra r
                  have e3612 : I3607 (ad g 0) 1 = w3500 := by rw [FC_at hy g3609 0 (by decide) (by decide)]; exact e3590
                  have e3613 : I3607 (ad g 0) 8 = w3501 := by rw [FC_at hy g3609 0 (by decide) (by decide)]; exact e3591
                  have e3614 : I3607 (ad g 0) 9 = w3502 := by rw [FC_at hy g3609 0 (by decide) (by decide)]; exact e3592
                  have e3615 : I3607 (ad g 0) 10 = w3503 := by rw [FC_at hy g3609 0 (by decide) (by decide)]; exact e3593
                  have e3616 : I3607 (ad g 0) 11 = w3504 := by rw [FC_at hy g3609 0 (by decide) (by decide)]; exact e3594
                  have e3617 : I3607 (ad g 0) 13 = w3505 := by rw [FC_at hy g3609 0 (by decide) (by decide)]; exact e3595
                  have e3618 : I3607 (ad g 0) 14 = w3506 := by rw [FC_at hy g3609 0 (by decide) (by decide)]; exact e3596
                  have e3619 : I3607 (ad g 0) 15 = w3507 := by rw [FC_at hy g3609 0 (by decide) (by decide)]; exact e3597
                  have e3620 : I3607 (ad g 0) 16 = w3508 := by rw [FC_at hy g3609 0 (by decide) (by decide)]; exact e3598
                  have e3621 : I3607 (ad g 0) 17 = w3509 := by rw [FC_at hy g3609 0 (by decide) (by decide)]; exact e3599
                  have e3622 : I3607 (ad g 0) 18 = w3510 := by rw [FC_at hy g3609 0 (by decide) (by decide)]; exact e3600
                  have e3623 : I3607 (ad g 0) 19 = w3511 := by rw [FC_at hy g3609 0 (by decide) (by decide)]; exact e3601
                  have e3624 : I3607 (ad g 0) 12 = w3511 := by rw [FC_at hy g3609 0 (by decide) (by decide)]; exact e3602
                  have fI3625 : FC g [0, 6, 7, 8, 9, 10, 11, 12, 13, 14, 15, 16, 17, 18, 19, 20, 21, 22, 23, 24, 25, 26, 27, 28, 29, 30, 31, 32, 33, 34, 37, 38, 44, 46, 47] I I3607 := FC_tr fI3603 (FC_mono g3609 (by decide))
                  have fJ3626 : FC g [0, 2, 3, 4, 5] J J3608 := FC_tr fJ3604 (FC_mono g3610 (by decide))
                  have fQ3627 : FQ g [1, 2, 3, 4, 5, 6, 7, 8, 9, 10, 11, 12, 13, 14, 15, 16, 17, 18, 19, 51, 68] I I3607 := FQ_tr fQ3605 (FQ_mono g3611 (by decide))
                  try simp only [e3612, e3613, e3614, e3615, e3616, e3617, e3618, e3619, e3620, e3621, e3622, e3623, ew3395, ew3396, ew3397, ew3398, ew3399, ew3400, ew3401, ew3402, ew3403, ew3404, ew3405, ew3406] at p3606
                  have d10 : ∀ q, q < 4 → I3607 (ad g 10) q = I3430 (ad g 16) q := fun q hq => by rw [p3606 q hq, FC_at hy g3587 16 (by decide) (by decide), FC_at hy g3565 16 (by decide) (by decide), FC_at hy g3543 16 (by decide) (by decide), eI3512, pp_off _ _ (ly_ne hy (by decide) (by decide) (by decide)), FC_at hy jF1 16 (by decide) (by decide)]
                  refine WP_aload_n dX11_town_176 rfl ?_
                  refine WP_getr dX11_town_177 fX11_244 rfl (ly_is hy 0 11 rfl) (rf hr 0 29 11 (by decide)) ?_
                  refine WP_aload_n dX11_town_180 rfl ?_
                  refine WP_getr dX11_town_181 fX11_108 rfl (ly_is hy 0 11 rfl) (rf hr 0 35 17 (by decide)) ?_
                  refine WP_callS2 dX11_town_184 ⟨⟨⟨by decide, by decide⟩, zX11_copy⟩, lX11_338, tX11_copy⟩ (em_copy11 hy hr   ) (Nat.le_of_ble_eq_true rfl) ?_
                  intro r I3629 J3630 Ra hq
                  obtain ⟨ec, g3631, g3632, g3633, er, p3628⟩ := hq
                  rw [ec, er]
                  clear ec er Ra r
                  have e3634 : I3629 (ad g 0) 1 = w3500 := by rw [FC_at hy g3631 0 (by decide) (by decide)]; exact e3612
                  have e3635 : I3629 (ad g 0) 8 = w3501 := by rw [FC_at hy g3631 0 (by decide) (by decide)]; exact e3613
                  have e3636 : I3629 (ad g 0) 9 = w3502 := by rw [FC_at hy g3631 0 (by decide) (by decide)]; exact e3614
                  have e3637 : I3629 (ad g 0) 10 = w3503 := by rw [FC_at hy g3631 0 (by decide) (by decide)]; exact e3615
                  have e3638 : I3629 (ad g 0) 11 = w3504 := by rw [FC_at hy g3631 0 (by decide) (by decide)]; exact e3616
                  have e3639 : I3629 (ad g 0) 13 = w3505 := by rw [FC_at hy g3631 0 (by decide) (by decide)]; exact e3617
                  have e3640 : I3629 (ad g 0) 14 = w3506 := by rw [FC_at hy g3631 0 (by decide) (by decide)]; exact e3618
                  have e3641 : I3629 (ad g 0) 15 = w3507 := by rw [FC_at hy g3631 0 (by decide) (by decide)]; exact e3619
                  have e3642 : I3629 (ad g 0) 16 = w3508 := by rw [FC_at hy g3631 0 (by decide) (by decide)]; exact e3620
                  have e3643 : I3629 (ad g 0) 17 = w3509 := by rw [FC_at hy g3631 0 (by decide) (by decide)]; exact e3621
                  have e3644 : I3629 (ad g 0) 18 = w3510 := by rw [FC_at hy g3631 0 (by decide) (by decide)]; exact e3622
                  have e3645 : I3629 (ad g 0) 19 = w3511 := by rw [FC_at hy g3631 0 (by decide) (by decide)]; exact e3623
                  have e3646 : I3629 (ad g 0) 12 = w3511 := by rw [FC_at hy g3631 0 (by decide) (by decide)]; exact e3624
                  have fI3647 : FC g [0, 6, 7, 8, 9, 10, 11, 12, 13, 14, 15, 16, 17, 18, 19, 20, 21, 22, 23, 24, 25, 26, 27, 28, 29, 30, 31, 32, 33, 34, 37, 38, 44, 46, 47] I I3629 := FC_tr fI3625 (FC_mono g3631 (by decide))
                  have fJ3648 : FC g [0, 2, 3, 4, 5] J J3630 := FC_tr fJ3626 (FC_mono g3632 (by decide))
                  have fQ3649 : FQ g [1, 2, 3, 4, 5, 6, 7, 8, 9, 10, 11, 12, 13, 14, 15, 16, 17, 18, 19, 51, 68] I I3629 := FQ_tr fQ3627 (FQ_mono g3633 (by decide))
                  try simp only [e3634, e3635, e3636, e3637, e3638, e3639, e3640, e3641, e3642, e3643, e3644, e3645, ew3395, ew3396, ew3397, ew3398, ew3399, ew3400, ew3401, ew3402, ew3403, ew3404, ew3405, ew3406] at p3628
                  have d11 : ∀ q, q < 4 → I3629 (ad g 11) q = I3430 (ad g 17) q := fun q hq => by rw [p3628 q hq, FC_at hy g3609 17 (by decide) (by decide), FC_at hy g3587 17 (by decide) (by decide), FC_at hy g3565 17 (by decide) (by decide), FC_at hy g3543 17 (by decide) (by decide), eI3512, pp_off _ _ (ly_ne hy (by decide) (by decide) (by decide)), FC_at hy jF1 17 (by decide) (by decide)]
                  refine WP_aload_n dX11_town_187 rfl ?_
                  refine WP_getr dX11_town_188 fX11_246 rfl (ly_is hy 0 11 rfl) (rf hr 0 30 12 (by decide)) ?_
                  refine WP_aload_n dX11_town_191 rfl ?_
                  refine WP_getr dX11_town_192 fX11_132 rfl (ly_is hy 0 11 rfl) (rf hr 0 36 18 (by decide)) ?_
                  refine WP_callS2 dX11_town_195 ⟨⟨⟨by decide, by decide⟩, zX11_copy⟩, lX11_338, tX11_copy⟩ (em_copy12 hy hr   ) (Nat.le_of_ble_eq_true rfl) ?_
                  intro r I3651 J3652 Ra hq
                  obtain ⟨ec, g3653, g3654, g3655, er, p3650⟩ := hq
                  rw [ec, er]
                  clear ec er Ra r
                  have e3656 : I3651 (ad g 0) 1 = w3500 := by rw [FC_at hy g3653 0 (by decide) (by decide)]; exact e3634
                  have e3657 : I3651 (ad g 0) 8 = w3501 := by rw [FC_at hy g3653 0 (by decide) (by decide)]; exact e3635
                  have e3658 : I3651 (ad g 0) 9 = w3502 := by rw [FC_at hy g3653 0 (by decide) (by decide)]; exact e3636
                  have e3659 : I3651 (ad g 0) 10 = w3503 := by rw [FC_at hy g3653 0 (by decide) (by decide)]; exact e3637
                  have e3660 : I3651 (ad g 0) 11 = w3504 := by rw [FC_at hy g3653 0 (by decide) (by decide)]; exact e3638
                  have e3661 : I3651 (ad g 0) 13 = w3505 := by rw [FC_at hy g3653 0 (by decide) (by decide)]; exact e3639
                  have e3662 : I3651 (ad g 0) 14 = w3506 := by rw [FC_at hy g3653 0 (by decide) (by decide)]; exact e3640
                  have e3663 : I3651 (ad g 0) 15 = w3507 := by rw [FC_at hy g3653 0 (by decide) (by decide)]; exact e3641
                  have e3664 : I3651 (ad g 0) 16 = w3508 := by rw [FC_at hy g3653 0 (by decide) (by decide)]; exact e3642
                  have e3665 : I3651 (ad g 0) 17 = w3509 := by rw [FC_at hy g3653 0 (by decide) (by decide)]; exact e3643
                  have e3666 : I3651 (ad g 0) 18 = w3510 := by rw [FC_at hy g3653 0 (by decide) (by decide)]; exact e3644
                  have e3667 : I3651 (ad g 0) 19 = w3511 := by rw [FC_at hy g3653 0 (by decide) (by decide)]; exact e3645
                  have e3668 : I3651 (ad g 0) 12 = w3511 := by rw [FC_at hy g3653 0 (by decide) (by decide)]; exact e3646
                  have fI3669 : FC g [0, 6, 7, 8, 9, 10, 11, 12, 13, 14, 15, 16, 17, 18, 19, 20, 21, 22, 23, 24, 25, 26, 27, 28, 29, 30, 31, 32, 33, 34, 37, 38, 44, 46, 47] I I3651 := FC_tr fI3647 (FC_mono g3653 (by decide))
                  have fJ3670 : FC g [0, 2, 3, 4, 5] J J3652 := FC_tr fJ3648 (FC_mono g3654 (by decide))
                  have fQ3671 : FQ g [1, 2, 3, 4, 5, 6, 7, 8, 9, 10, 11, 12, 13, 14, 15, 16, 17, 18, 19, 51, 68] I I3651 := FQ_tr fQ3649 (FQ_mono g3655 (by decide))
                  try simp only [e3656, e3657, e3658, e3659, e3660, e3661, e3662, e3663, e3664, e3665, e3666, e3667, ew3395, ew3396, ew3397, ew3398, ew3399, ew3400, ew3401, ew3402, ew3403, ew3404, ew3405, ew3406] at p3650
                  have d12 : ∀ q, q < 3 → I3651 (ad g 12) q = I3430 (ad g 18) q := fun q hq => by rw [p3650 q hq, FC_at hy g3631 18 (by decide) (by decide), FC_at hy g3609 18 (by decide) (by decide), FC_at hy g3587 18 (by decide) (by decide), FC_at hy g3565 18 (by decide) (by decide), FC_at hy g3543 18 (by decide) (by decide), eI3512, pp_off _ _ (ly_ne hy (by decide) (by decide) (by decide)), FC_at hy jF1 18 (by decide) (by decide)]
                  refine WP_aload_n dX11_town_198 rfl ?_
                  refine WP_getr dX11_town_199 fX11_249 rfl (ly_is hy 0 11 rfl) (rf hr 0 31 13 (by decide)) ?_
                  refine WP_aload_n dX11_town_202 rfl ?_
                  refine WP_getr dX11_town_203 fX11_135 rfl (ly_is hy 0 11 rfl) (rf hr 0 37 19 (by decide)) ?_
                  refine WP_callS2 dX11_town_206 ⟨⟨⟨by decide, by decide⟩, zX11_copy⟩, lX11_338, tX11_copy⟩ (em_copy13 hy hr   ) (Nat.le_of_ble_eq_true rfl) ?_
                  intro r I3673 J3674 Ra hq
                  obtain ⟨ec, g3675, g3676, g3677, er, p3672⟩ := hq
                  rw [ec, er]
                  clear ec er Ra r
                  have e3678 : I3673 (ad g 0) 1 = w3500 := by rw [FC_at hy g3675 0 (by decide) (by decide)]; exact e3656
                  have e3679 : I3673 (ad g 0) 8 = w3501 := by rw [FC_at hy g3675 0 (by decide) (by decide)]; exact e3657
                  have e3680 : I3673 (ad g 0) 9 = w3502 := by rw [FC_at hy g3675 0 (by decide) (by decide)]; exact e3658
                  have e3681 : I3673 (ad g 0) 10 = w3503 := by rw [FC_at hy g3675 0 (by decide) (by decide)]; exact e3659
                  have e3682 : I3673 (ad g 0) 11 = w3504 := by rw [FC_at hy g3675 0 (by decide) (by decide)]; exact e3660
                  have e3683 : I3673 (ad g 0) 13 = w3505 := by rw [FC_at hy g3675 0 (by decide) (by decide)]; exact e3661
                  have e3684 : I3673 (ad g 0) 14 = w3506 := by rw [FC_at hy g3675 0 (by decide) (by decide)]; exact e3662
                  have e3685 : I3673 (ad g 0) 15 = w3507 := by rw [FC_at hy g3675 0 (by decide) (by decide)]; exact e3663
                  have e3686 : I3673 (ad g 0) 16 = w3508 := by rw [FC_at hy g3675 0 (by decide) (by decide)]; exact e3664
                  have e3687 : I3673 (ad g 0) 17 = w3509 := by rw [FC_at hy g3675 0 (by decide) (by decide)]; exact e3665
                  have e3688 : I3673 (ad g 0) 18 = w3510 := by rw [FC_at hy g3675 0 (by decide) (by decide)]; exact e3666
                  have e3689 : I3673 (ad g 0) 19 = w3511 := by rw [FC_at hy g3675 0 (by decide) (by decide)]; exact e3667
                  have e3690 : I3673 (ad g 0) 12 = w3511 := by rw [FC_at hy g3675 0 (by decide) (by decide)]; exact e3668
                  have fI3691 : FC g [0, 6, 7, 8, 9, 10, 11, 12, 13, 14, 15, 16, 17, 18, 19, 20, 21, 22, 23, 24, 25, 26, 27, 28, 29, 30, 31, 32, 33, 34, 37, 38, 44, 46, 47] I I3673 := FC_tr fI3669 (FC_mono g3675 (by decide))
                  have fJ3692 : FC g [0, 2, 3, 4, 5] J J3674 := FC_tr fJ3670 (FC_mono g3676 (by decide))
                  have fQ3693 : FQ g [1, 2, 3, 4, 5, 6, 7, 8, 9, 10, 11, 12, 13, 14, 15, 16, 17, 18, 19, 51, 68] I I3673 := FQ_tr fQ3671 (FQ_mono g3677 (by decide))
                  try simp only [e3678, e3679, e3680, e3681, e3682, e3683, e3684, e3685, e3686, e3687, e3688, e3689, ew3395, ew3396, ew3397, ew3398, ew3399, ew3400, ew3401, ew3402, ew3403, ew3404, ew3405, ew3406] at p3672
                  have d13 : ∀ q, q < 3 → I3673 (ad g 13) q = I3430 (ad g 19) q := fun q hq => by rw [p3672 q hq, FC_at hy g3653 19 (by decide) (by decide), FC_at hy g3631 19 (by decide) (by decide), FC_at hy g3609 19 (by decide) (by decide), FC_at hy g3587 19 (by decide) (by decide), FC_at hy g3565 19 (by decide) (by decide), FC_at hy g3543 19 (by decide) (by decide), eI3512, pp_off _ _ (ly_ne hy (by decide) (by decide) (by decide)), FC_at hy jF1 19 (by decide) (by decide)]
                  refine WP_aload_n dX11_town_209 rfl ?_
                  refine WP_getr dX11_town_210 fX11_252 rfl (ly_is hy 0 11 rfl) (rf hr 0 38 20 (by decide)) ?_
                  refine WP_aload_n dX11_town_213 rfl ?_
                  refine WP_getr dX11_town_214 fX11_114 rfl (ly_is hy 0 11 rfl) (rf hr 0 45 27 (by decide)) ?_
                  refine WP_callS2 dX11_town_217 ⟨⟨⟨by decide, by decide⟩, zX11_copy⟩, lX11_338, tX11_copy⟩ (em_copy20 hy hr   ) (Nat.le_of_ble_eq_true rfl) ?_
                  intro r I3695 J3696 Ra hq
                  obtain ⟨ec, g3697, g3698, g3699, er, p3694⟩ := hq
                  rw [ec, er]
                  clear ec er Ra r
                  have e3700 : I3695 (ad g 0) 1 = w3500 := by rw [FC_at hy g3697 0 (by decide) (by decide)]; exact e3678
                  have e3701 : I3695 (ad g 0) 8 = w3501 := by rw [FC_at hy g3697 0 (by decide) (by decide)]; exact e3679
                  have e3702 : I3695 (ad g 0) 9 = w3502 := by rw [FC_at hy g3697 0 (by decide) (by decide)]; exact e3680
                  have e3703 : I3695 (ad g 0) 10 = w3503 := by rw [FC_at hy g3697 0 (by decide) (by decide)]; exact e3681
                  have e3704 : I3695 (ad g 0) 11 = w3504 := by rw [FC_at hy g3697 0 (by decide) (by decide)]; exact e3682
                  have e3705 : I3695 (ad g 0) 13 = w3505 := by rw [FC_at hy g3697 0 (by decide) (by decide)]; exact e3683
                  have e3706 : I3695 (ad g 0) 14 = w3506 := by rw [FC_at hy g3697 0 (by decide) (by decide)]; exact e3684
                  have e3707 : I3695 (ad g 0) 15 = w3507 := by rw [FC_at hy g3697 0 (by decide) (by decide)]; exact e3685
                  have e3708 : I3695 (ad g 0) 16 = w3508 := by rw [FC_at hy g3697 0 (by decide) (by decide)]; exact e3686
                  have e3709 : I3695 (ad g 0) 17 = w3509 := by rw [FC_at hy g3697 0 (by decide) (by decide)]; exact e3687
                  have e3710 : I3695 (ad g 0) 18 = w3510 := by rw [FC_at hy g3697 0 (by decide) (by decide)]; exact e3688
                  have e3711 : I3695 (ad g 0) 19 = w3511 := by rw [FC_at hy g3697 0 (by decide) (by decide)]; exact e3689
                  have e3712 : I3695 (ad g 0) 12 = w3511 := by rw [FC_at hy g3697 0 (by decide) (by decide)]; exact e3690
                  have fI3713 : FC g [0, 6, 7, 8, 9, 10, 11, 12, 13, 14, 15, 16, 17, 18, 19, 20, 21, 22, 23, 24, 25, 26, 27, 28, 29, 30, 31, 32, 33, 34, 37, 38, 44, 46, 47] I I3695 := FC_tr fI3691 (FC_mono g3697 (by decide))
                  have fJ3714 : FC g [0, 2, 3, 4, 5] J J3696 := FC_tr fJ3692 (FC_mono g3698 (by decide))
                  have fQ3715 : FQ g [1, 2, 3, 4, 5, 6, 7, 8, 9, 10, 11, 12, 13, 14, 15, 16, 17, 18, 19, 51, 68] I I3695 := FQ_tr fQ3693 (FQ_mono g3699 (by decide))
                  try simp only [e3700, e3701, e3702, e3703, e3704, e3705, e3706, e3707, e3708, e3709, e3710, e3711, ew3395, ew3396, ew3397, ew3398, ew3399, ew3400, ew3401, ew3402, ew3403, ew3404, ew3405, ew3406] at p3694
                  have d20 : ∀ q, q < 28 → I3695 (ad g 20) q = I3430 (ad g 27) q := fun q hq => by rw [p3694 q hq, FC_at hy g3675 27 (by decide) (by decide), FC_at hy g3653 27 (by decide) (by decide), FC_at hy g3631 27 (by decide) (by decide), FC_at hy g3609 27 (by decide) (by decide), FC_at hy g3587 27 (by decide) (by decide), FC_at hy g3565 27 (by decide) (by decide), FC_at hy g3543 27 (by decide) (by decide), eI3512, pp_off _ _ (ly_ne hy (by decide) (by decide) (by decide)), FC_at hy jF1 27 (by decide) (by decide)]
                  refine WP_aload_n dX11_town_220 rfl ?_
                  refine WP_getr dX11_town_221 fX11_254 rfl (ly_is hy 0 11 rfl) (rf hr 0 39 21 (by decide)) ?_
                  refine WP_aload_n dX11_town_224 rfl ?_
                  refine WP_getr dX11_town_225 fX11_141 rfl (ly_is hy 0 11 rfl) (rf hr 0 46 28 (by decide)) ?_
                  refine WP_callS2 dX11_town_228 ⟨⟨⟨by decide, by decide⟩, zX11_copy⟩, lX11_338, tX11_copy⟩ (em_copy21 hy hr   ) (Nat.le_of_ble_eq_true rfl) ?_
                  intro r I3717 J3718 Ra hq
                  obtain ⟨ec, g3719, g3720, g3721, er, p3716⟩ := hq
                  rw [ec, er]
                  clear ec er Ra r
                  have e3722 : I3717 (ad g 0) 1 = w3500 := by rw [FC_at hy g3719 0 (by decide) (by decide)]; exact e3700
                  have e3723 : I3717 (ad g 0) 8 = w3501 := by rw [FC_at hy g3719 0 (by decide) (by decide)]; exact e3701
                  have e3724 : I3717 (ad g 0) 9 = w3502 := by rw [FC_at hy g3719 0 (by decide) (by decide)]; exact e3702
                  have e3725 : I3717 (ad g 0) 10 = w3503 := by rw [FC_at hy g3719 0 (by decide) (by decide)]; exact e3703
                  have e3726 : I3717 (ad g 0) 11 = w3504 := by rw [FC_at hy g3719 0 (by decide) (by decide)]; exact e3704
                  have e3727 : I3717 (ad g 0) 13 = w3505 := by rw [FC_at hy g3719 0 (by decide) (by decide)]; exact e3705
                  have e3728 : I3717 (ad g 0) 14 = w3506 := by rw [FC_at hy g3719 0 (by decide) (by decide)]; exact e3706
                  have e3729 : I3717 (ad g 0) 15 = w3507 := by rw [FC_at hy g3719 0 (by decide) (by decide)]; exact e3707
                  have e3730 : I3717 (ad g 0) 16 = w3508 := by rw [FC_at hy g3719 0 (by decide) (by decide)]; exact e3708
                  have e3731 : I3717 (ad g 0) 17 = w3509 := by rw [FC_at hy g3719 0 (by decide) (by decide)]; exact e3709
                  have e3732 : I3717 (ad g 0) 18 = w3510 := by rw [FC_at hy g3719 0 (by decide) (by decide)]; exact e3710
                  have e3733 : I3717 (ad g 0) 19 = w3511 := by rw [FC_at hy g3719 0 (by decide) (by decide)]; exact e3711
                  have e3734 : I3717 (ad g 0) 12 = w3511 := by rw [FC_at hy g3719 0 (by decide) (by decide)]; exact e3712
                  have fI3735 : FC g [0, 6, 7, 8, 9, 10, 11, 12, 13, 14, 15, 16, 17, 18, 19, 20, 21, 22, 23, 24, 25, 26, 27, 28, 29, 30, 31, 32, 33, 34, 37, 38, 44, 46, 47] I I3717 := FC_tr fI3713 (FC_mono g3719 (by decide))
                  have fJ3736 : FC g [0, 2, 3, 4, 5] J J3718 := FC_tr fJ3714 (FC_mono g3720 (by decide))
                  have fQ3737 : FQ g [1, 2, 3, 4, 5, 6, 7, 8, 9, 10, 11, 12, 13, 14, 15, 16, 17, 18, 19, 51, 68] I I3717 := FQ_tr fQ3715 (FQ_mono g3721 (by decide))
                  try simp only [e3722, e3723, e3724, e3725, e3726, e3727, e3728, e3729, e3730, e3731, e3732, e3733, ew3395, ew3396, ew3397, ew3398, ew3399, ew3400, ew3401, ew3402, ew3403, ew3404, ew3405, ew3406] at p3716
                  have d21 : ∀ q, q < 21 → I3717 (ad g 21) q = I3430 (ad g 28) q := fun q hq => by rw [p3716 q hq, FC_at hy g3697 28 (by decide) (by decide), FC_at hy g3675 28 (by decide) (by decide), FC_at hy g3653 28 (by decide) (by decide), FC_at hy g3631 28 (by decide) (by decide), FC_at hy g3609 28 (by decide) (by decide), FC_at hy g3587 28 (by decide) (by decide), FC_at hy g3565 28 (by decide) (by decide), FC_at hy g3543 28 (by decide) (by decide), eI3512, pp_off _ _ (ly_ne hy (by decide) (by decide) (by decide)), FC_at hy jF1 28 (by decide) (by decide)]
                  refine WP_aload_n dX11_town_231 rfl ?_
                  refine WP_getr dX11_town_232 fX11_257 rfl (ly_is hy 0 11 rfl) (rf hr 0 40 22 (by decide)) ?_
                  refine WP_aload_n dX11_town_235 rfl ?_
                  refine WP_getr dX11_town_236 fX11_141 rfl (ly_is hy 0 11 rfl) (rf hr 0 46 28 (by decide)) ?_
                  refine WP_callS2 dX11_town_239 ⟨⟨⟨by decide, by decide⟩, zX11_copy⟩, lX11_338, tX11_copy⟩ (em_copy22 hy hr   ) (Nat.le_of_ble_eq_true rfl) ?_
                  intro r I3739 J3740 Ra hq
                  obtain ⟨ec, g3741, g3742, g3743, er, p3738⟩ := hq
                  rw [ec, er]
                  clear ec er Ra r
                  have e3744 : I3739 (ad g 0) 1 = w3500 := by rw [FC_at hy g3741 0 (by decide) (by decide)]; exact e3722
                  have e3745 : I3739 (ad g 0) 8 = w3501 := by rw [FC_at hy g3741 0 (by decide) (by decide)]; exact e3723
                  have e3746 : I3739 (ad g 0) 9 = w3502 := by rw [FC_at hy g3741 0 (by decide) (by decide)]; exact e3724
                  have e3747 : I3739 (ad g 0) 10 = w3503 := by rw [FC_at hy g3741 0 (by decide) (by decide)]; exact e3725
                  have e3748 : I3739 (ad g 0) 11 = w3504 := by rw [FC_at hy g3741 0 (by decide) (by decide)]; exact e3726
                  have e3749 : I3739 (ad g 0) 13 = w3505 := by rw [FC_at hy g3741 0 (by decide) (by decide)]; exact e3727
                  have e3750 : I3739 (ad g 0) 14 = w3506 := by rw [FC_at hy g3741 0 (by decide) (by decide)]; exact e3728
                  have e3751 : I3739 (ad g 0) 15 = w3507 := by rw [FC_at hy g3741 0 (by decide) (by decide)]; exact e3729
                  have e3752 : I3739 (ad g 0) 16 = w3508 := by rw [FC_at hy g3741 0 (by decide) (by decide)]; exact e3730
                  have e3753 : I3739 (ad g 0) 17 = w3509 := by rw [FC_at hy g3741 0 (by decide) (by decide)]; exact e3731
                  have e3754 : I3739 (ad g 0) 18 = w3510 := by rw [FC_at hy g3741 0 (by decide) (by decide)]; exact e3732
                  have e3755 : I3739 (ad g 0) 19 = w3511 := by rw [FC_at hy g3741 0 (by decide) (by decide)]; exact e3733
                  have e3756 : I3739 (ad g 0) 12 = w3511 := by rw [FC_at hy g3741 0 (by decide) (by decide)]; exact e3734
                  have fI3757 : FC g [0, 6, 7, 8, 9, 10, 11, 12, 13, 14, 15, 16, 17, 18, 19, 20, 21, 22, 23, 24, 25, 26, 27, 28, 29, 30, 31, 32, 33, 34, 37, 38, 44, 46, 47] I I3739 := FC_tr fI3735 (FC_mono g3741 (by decide))
                  have fJ3758 : FC g [0, 2, 3, 4, 5] J J3740 := FC_tr fJ3736 (FC_mono g3742 (by decide))
                  have fQ3759 : FQ g [1, 2, 3, 4, 5, 6, 7, 8, 9, 10, 11, 12, 13, 14, 15, 16, 17, 18, 19, 51, 68] I I3739 := FQ_tr fQ3737 (FQ_mono g3743 (by decide))
                  try simp only [e3744, e3745, e3746, e3747, e3748, e3749, e3750, e3751, e3752, e3753, e3754, e3755, ew3395, ew3396, ew3397, ew3398, ew3399, ew3400, ew3401, ew3402, ew3403, ew3404, ew3405, ew3406] at p3738
                  have d22 : ∀ q, q < 21 → I3739 (ad g 22) q = I3430 (ad g 28) q := fun q hq => by rw [p3738 q hq, FC_at hy g3719 28 (by decide) (by decide), FC_at hy g3697 28 (by decide) (by decide), FC_at hy g3675 28 (by decide) (by decide), FC_at hy g3653 28 (by decide) (by decide), FC_at hy g3631 28 (by decide) (by decide), FC_at hy g3609 28 (by decide) (by decide), FC_at hy g3587 28 (by decide) (by decide), FC_at hy g3565 28 (by decide) (by decide), FC_at hy g3543 28 (by decide) (by decide), eI3512, pp_off _ _ (ly_ne hy (by decide) (by decide) (by decide)), FC_at hy jF1 28 (by decide) (by decide)]
                  refine WP_aload_n dX11_town_242 rfl ?_
                  refine WP_getr dX11_town_243 fX11_259 rfl (ly_is hy 0 11 rfl) (rf hr 0 41 23 (by decide)) ?_
                  refine WP_aload_n dX11_town_246 rfl ?_
                  refine WP_getr dX11_town_247 fX11_144 rfl (ly_is hy 0 11 rfl) (rf hr 0 47 29 (by decide)) ?_
                  refine WP_callS2 dX11_town_250 ⟨⟨⟨by decide, by decide⟩, zX11_copy⟩, lX11_338, tX11_copy⟩ (em_copy23 hy hr   ) (Nat.le_of_ble_eq_true rfl) ?_
                  intro r I3761 J3762 Ra hq
                  obtain ⟨ec, g3763, g3764, g3765, er, p3760⟩ := hq
                  rw [ec, er]
                  clear ec er Ra r
                  have e3766 : I3761 (ad g 0) 1 = w3500 := by rw [FC_at hy g3763 0 (by decide) (by decide)]; exact e3744
                  have e3767 : I3761 (ad g 0) 8 = w3501 := by rw [FC_at hy g3763 0 (by decide) (by decide)]; exact e3745
                  have e3768 : I3761 (ad g 0) 9 = w3502 := by rw [FC_at hy g3763 0 (by decide) (by decide)]; exact e3746
                  have e3769 : I3761 (ad g 0) 10 = w3503 := by rw [FC_at hy g3763 0 (by decide) (by decide)]; exact e3747
                  have e3770 : I3761 (ad g 0) 11 = w3504 := by rw [FC_at hy g3763 0 (by decide) (by decide)]; exact e3748
                  have e3771 : I3761 (ad g 0) 13 = w3505 := by rw [FC_at hy g3763 0 (by decide) (by decide)]; exact e3749
                  have e3772 : I3761 (ad g 0) 14 = w3506 := by rw [FC_at hy g3763 0 (by decide) (by decide)]; exact e3750
                  have e3773 : I3761 (ad g 0) 15 = w3507 := by rw [FC_at hy g3763 0 (by decide) (by decide)]; exact e3751
                  have e3774 : I3761 (ad g 0) 16 = w3508 := by rw [FC_at hy g3763 0 (by decide) (by decide)]; exact e3752
                  have e3775 : I3761 (ad g 0) 17 = w3509 := by rw [FC_at hy g3763 0 (by decide) (by decide)]; exact e3753
                  have e3776 : I3761 (ad g 0) 18 = w3510 := by rw [FC_at hy g3763 0 (by decide) (by decide)]; exact e3754
                  have e3777 : I3761 (ad g 0) 19 = w3511 := by rw [FC_at hy g3763 0 (by decide) (by decide)]; exact e3755
                  have e3778 : I3761 (ad g 0) 12 = w3511 := by rw [FC_at hy g3763 0 (by decide) (by decide)]; exact e3756
                  have fI3779 : FC g [0, 6, 7, 8, 9, 10, 11, 12, 13, 14, 15, 16, 17, 18, 19, 20, 21, 22, 23, 24, 25, 26, 27, 28, 29, 30, 31, 32, 33, 34, 37, 38, 44, 46, 47] I I3761 := FC_tr fI3757 (FC_mono g3763 (by decide))
                  have fJ3780 : FC g [0, 2, 3, 4, 5] J J3762 := FC_tr fJ3758 (FC_mono g3764 (by decide))
                  have fQ3781 : FQ g [1, 2, 3, 4, 5, 6, 7, 8, 9, 10, 11, 12, 13, 14, 15, 16, 17, 18, 19, 51, 68] I I3761 := FQ_tr fQ3759 (FQ_mono g3765 (by decide))
                  try simp only [e3766, e3767, e3768, e3769, e3770, e3771, e3772, e3773, e3774, e3775, e3776, e3777, ew3395, ew3396, ew3397, ew3398, ew3399, ew3400, ew3401, ew3402, ew3403, ew3404, ew3405, ew3406] at p3760
                  have d23 : ∀ q, q < 21 → I3761 (ad g 23) q = I3430 (ad g 29) q := fun q hq => by rw [p3760 q hq, FC_at hy g3741 29 (by decide) (by decide), FC_at hy g3719 29 (by decide) (by decide), FC_at hy g3697 29 (by decide) (by decide), FC_at hy g3675 29 (by decide) (by decide), FC_at hy g3653 29 (by decide) (by decide), FC_at hy g3631 29 (by decide) (by decide), FC_at hy g3609 29 (by decide) (by decide), FC_at hy g3587 29 (by decide) (by decide), FC_at hy g3565 29 (by decide) (by decide), FC_at hy g3543 29 (by decide) (by decide), eI3512, pp_off _ _ (ly_ne hy (by decide) (by decide) (by decide)), FC_at hy jF1 29 (by decide) (by decide)]
                  refine WP_aload_n dX11_town_253 rfl ?_
                  refine WP_getr dX11_town_254 fX11_261 rfl (ly_is hy 0 11 rfl) (rf hr 0 42 24 (by decide)) ?_
                  refine WP_aload_n dX11_town_257 rfl ?_
                  refine WP_getr dX11_town_258 fX11_117 rfl (ly_is hy 0 11 rfl) (rf hr 0 48 30 (by decide)) ?_
                  refine WP_callS2 dX11_town_261 ⟨⟨⟨by decide, by decide⟩, zX11_copy⟩, lX11_338, tX11_copy⟩ (em_copy24 hy hr   ) (Nat.le_of_ble_eq_true rfl) ?_
                  intro r I3783 J3784 Ra hq
                  obtain ⟨ec, g3785, g3786, g3787, er, p3782⟩ := hq
                  rw [ec, er]
                  clear ec er Ra r
                  have e3788 : I3783 (ad g 0) 1 = w3500 := by rw [FC_at hy g3785 0 (by decide) (by decide)]; exact e3766
                  have e3789 : I3783 (ad g 0) 8 = w3501 := by rw [FC_at hy g3785 0 (by decide) (by decide)]; exact e3767
                  have e3790 : I3783 (ad g 0) 9 = w3502 := by rw [FC_at hy g3785 0 (by decide) (by decide)]; exact e3768
                  have e3791 : I3783 (ad g 0) 10 = w3503 := by rw [FC_at hy g3785 0 (by decide) (by decide)]; exact e3769
                  have e3792 : I3783 (ad g 0) 11 = w3504 := by rw [FC_at hy g3785 0 (by decide) (by decide)]; exact e3770
                  have e3793 : I3783 (ad g 0) 13 = w3505 := by rw [FC_at hy g3785 0 (by decide) (by decide)]; exact e3771
                  have e3794 : I3783 (ad g 0) 14 = w3506 := by rw [FC_at hy g3785 0 (by decide) (by decide)]; exact e3772
                  have e3795 : I3783 (ad g 0) 15 = w3507 := by rw [FC_at hy g3785 0 (by decide) (by decide)]; exact e3773
                  have e3796 : I3783 (ad g 0) 16 = w3508 := by rw [FC_at hy g3785 0 (by decide) (by decide)]; exact e3774
                  have e3797 : I3783 (ad g 0) 17 = w3509 := by rw [FC_at hy g3785 0 (by decide) (by decide)]; exact e3775
                  have e3798 : I3783 (ad g 0) 18 = w3510 := by rw [FC_at hy g3785 0 (by decide) (by decide)]; exact e3776
                  have e3799 : I3783 (ad g 0) 19 = w3511 := by rw [FC_at hy g3785 0 (by decide) (by decide)]; exact e3777
                  have e3800 : I3783 (ad g 0) 12 = w3511 := by rw [FC_at hy g3785 0 (by decide) (by decide)]; exact e3778
                  have fI3801 : FC g [0, 6, 7, 8, 9, 10, 11, 12, 13, 14, 15, 16, 17, 18, 19, 20, 21, 22, 23, 24, 25, 26, 27, 28, 29, 30, 31, 32, 33, 34, 37, 38, 44, 46, 47] I I3783 := FC_tr fI3779 (FC_mono g3785 (by decide))
                  have fJ3802 : FC g [0, 2, 3, 4, 5] J J3784 := FC_tr fJ3780 (FC_mono g3786 (by decide))
                  have fQ3803 : FQ g [1, 2, 3, 4, 5, 6, 7, 8, 9, 10, 11, 12, 13, 14, 15, 16, 17, 18, 19, 51, 68] I I3783 := FQ_tr fQ3781 (FQ_mono g3787 (by decide))
                  try simp only [e3788, e3789, e3790, e3791, e3792, e3793, e3794, e3795, e3796, e3797, e3798, e3799, ew3395, ew3396, ew3397, ew3398, ew3399, ew3400, ew3401, ew3402, ew3403, ew3404, ew3405, ew3406] at p3782
                  have d24 : ∀ q, q < 28 → I3783 (ad g 24) q = I3430 (ad g 30) q := fun q hq => by rw [p3782 q hq, FC_at hy g3763 30 (by decide) (by decide), FC_at hy g3741 30 (by decide) (by decide), FC_at hy g3719 30 (by decide) (by decide), FC_at hy g3697 30 (by decide) (by decide), FC_at hy g3675 30 (by decide) (by decide), FC_at hy g3653 30 (by decide) (by decide), FC_at hy g3631 30 (by decide) (by decide), FC_at hy g3609 30 (by decide) (by decide), FC_at hy g3587 30 (by decide) (by decide), FC_at hy g3565 30 (by decide) (by decide), FC_at hy g3543 30 (by decide) (by decide), eI3512, pp_off _ _ (ly_ne hy (by decide) (by decide) (by decide)), FC_at hy jF1 30 (by decide) (by decide)]
                  refine WP_aload_n dX11_town_264 rfl ?_
                  refine WP_getr dX11_town_265 fX11_264 rfl (ly_is hy 0 11 rfl) (rf hr 0 43 25 (by decide)) ?_
                  refine WP_aload_n dX11_town_268 rfl ?_
                  refine WP_getr dX11_town_269 fX11_120 rfl (ly_is hy 0 11 rfl) (rf hr 0 49 31 (by decide)) ?_
                  refine WP_callS2 dX11_town_272 ⟨⟨⟨by decide, by decide⟩, zX11_copy⟩, lX11_338, tX11_copy⟩ (em_copy25 hy hr   ) (Nat.le_of_ble_eq_true rfl) ?_
                  intro r I3805 J3806 Ra hq
                  obtain ⟨ec, g3807, g3808, g3809, er, p3804⟩ := hq
                  rw [ec, er]
                  clear ec er Ra r
                  have e3810 : I3805 (ad g 0) 1 = w3500 := by rw [FC_at hy g3807 0 (by decide) (by decide)]; exact e3788
                  have e3811 : I3805 (ad g 0) 8 = w3501 := by rw [FC_at hy g3807 0 (by decide) (by decide)]; exact e3789
                  have e3812 : I3805 (ad g 0) 9 = w3502 := by rw [FC_at hy g3807 0 (by decide) (by decide)]; exact e3790
                  have e3813 : I3805 (ad g 0) 10 = w3503 := by rw [FC_at hy g3807 0 (by decide) (by decide)]; exact e3791
                  have e3814 : I3805 (ad g 0) 11 = w3504 := by rw [FC_at hy g3807 0 (by decide) (by decide)]; exact e3792
                  have e3815 : I3805 (ad g 0) 13 = w3505 := by rw [FC_at hy g3807 0 (by decide) (by decide)]; exact e3793
                  have e3816 : I3805 (ad g 0) 14 = w3506 := by rw [FC_at hy g3807 0 (by decide) (by decide)]; exact e3794
                  have e3817 : I3805 (ad g 0) 15 = w3507 := by rw [FC_at hy g3807 0 (by decide) (by decide)]; exact e3795
                  have e3818 : I3805 (ad g 0) 16 = w3508 := by rw [FC_at hy g3807 0 (by decide) (by decide)]; exact e3796
                  have e3819 : I3805 (ad g 0) 17 = w3509 := by rw [FC_at hy g3807 0 (by decide) (by decide)]; exact e3797
                  have e3820 : I3805 (ad g 0) 18 = w3510 := by rw [FC_at hy g3807 0 (by decide) (by decide)]; exact e3798
                  have e3821 : I3805 (ad g 0) 19 = w3511 := by rw [FC_at hy g3807 0 (by decide) (by decide)]; exact e3799
                  have e3822 : I3805 (ad g 0) 12 = w3511 := by rw [FC_at hy g3807 0 (by decide) (by decide)]; exact e3800
                  have fI3823 : FC g [0, 6, 7, 8, 9, 10, 11, 12, 13, 14, 15, 16, 17, 18, 19, 20, 21, 22, 23, 24, 25, 26, 27, 28, 29, 30, 31, 32, 33, 34, 37, 38, 44, 46, 47] I I3805 := FC_tr fI3801 (FC_mono g3807 (by decide))
                  have fJ3824 : FC g [0, 2, 3, 4, 5] J J3806 := FC_tr fJ3802 (FC_mono g3808 (by decide))
                  have fQ3825 : FQ g [1, 2, 3, 4, 5, 6, 7, 8, 9, 10, 11, 12, 13, 14, 15, 16, 17, 18, 19, 51, 68] I I3805 := FQ_tr fQ3803 (FQ_mono g3809 (by decide))
                  try simp only [e3810, e3811, e3812, e3813, e3814, e3815, e3816, e3817, e3818, e3819, e3820, e3821, ew3395, ew3396, ew3397, ew3398, ew3399, ew3400, ew3401, ew3402, ew3403, ew3404, ew3405, ew3406] at p3804
                  have d25 : ∀ q, q < 28 → I3805 (ad g 25) q = I3430 (ad g 31) q := fun q hq => by rw [p3804 q hq, FC_at hy g3785 31 (by decide) (by decide), FC_at hy g3763 31 (by decide) (by decide), FC_at hy g3741 31 (by decide) (by decide), FC_at hy g3719 31 (by decide) (by decide), FC_at hy g3697 31 (by decide) (by decide), FC_at hy g3675 31 (by decide) (by decide), FC_at hy g3653 31 (by decide) (by decide), FC_at hy g3631 31 (by decide) (by decide), FC_at hy g3609 31 (by decide) (by decide), FC_at hy g3587 31 (by decide) (by decide), FC_at hy g3565 31 (by decide) (by decide), FC_at hy g3543 31 (by decide) (by decide), eI3512, pp_off _ _ (ly_ne hy (by decide) (by decide) (by decide)), FC_at hy jF1 31 (by decide) (by decide)]
                  refine WP_aload_n dX11_town_275 rfl ?_
                  refine WP_getr dX11_town_276 fX11_267 rfl (ly_is hy 0 11 rfl) (rf hr 0 44 26 (by decide)) ?_
                  refine WP_aload_n dX11_town_279 rfl ?_
                  refine WP_getr dX11_town_280 fX11_123 rfl (ly_is hy 0 11 rfl) (rf hr 0 50 32 (by decide)) ?_
                  refine WP_callS2 dX11_town_283 ⟨⟨⟨by decide, by decide⟩, zX11_copy⟩, lX11_338, tX11_copy⟩ (em_copy26 hy hr   ) (Nat.le_of_ble_eq_true rfl) ?_
                  intro r I3827 J3828 Ra hq
                  obtain ⟨ec, g3829, g3830, g3831, er, p3826⟩ := hq
                  rw [ec, er]
                  clear ec er Ra r
                  have e3832 : I3827 (ad g 0) 1 = w3500 := by rw [FC_at hy g3829 0 (by decide) (by decide)]; exact e3810
                  have e3833 : I3827 (ad g 0) 8 = w3501 := by rw [FC_at hy g3829 0 (by decide) (by decide)]; exact e3811
                  have e3834 : I3827 (ad g 0) 9 = w3502 := by rw [FC_at hy g3829 0 (by decide) (by decide)]; exact e3812
                  have e3835 : I3827 (ad g 0) 10 = w3503 := by rw [FC_at hy g3829 0 (by decide) (by decide)]; exact e3813
                  have e3836 : I3827 (ad g 0) 11 = w3504 := by rw [FC_at hy g3829 0 (by decide) (by decide)]; exact e3814
                  have e3837 : I3827 (ad g 0) 13 = w3505 := by rw [FC_at hy g3829 0 (by decide) (by decide)]; exact e3815
                  have e3838 : I3827 (ad g 0) 14 = w3506 := by rw [FC_at hy g3829 0 (by decide) (by decide)]; exact e3816
                  have e3839 : I3827 (ad g 0) 15 = w3507 := by rw [FC_at hy g3829 0 (by decide) (by decide)]; exact e3817
                  have e3840 : I3827 (ad g 0) 16 = w3508 := by rw [FC_at hy g3829 0 (by decide) (by decide)]; exact e3818
                  have e3841 : I3827 (ad g 0) 17 = w3509 := by rw [FC_at hy g3829 0 (by decide) (by decide)]; exact e3819
                  have e3842 : I3827 (ad g 0) 18 = w3510 := by rw [FC_at hy g3829 0 (by decide) (by decide)]; exact e3820
                  have e3843 : I3827 (ad g 0) 19 = w3511 := by rw [FC_at hy g3829 0 (by decide) (by decide)]; exact e3821
                  have e3844 : I3827 (ad g 0) 12 = w3511 := by rw [FC_at hy g3829 0 (by decide) (by decide)]; exact e3822
                  have fI3845 : FC g [0, 6, 7, 8, 9, 10, 11, 12, 13, 14, 15, 16, 17, 18, 19, 20, 21, 22, 23, 24, 25, 26, 27, 28, 29, 30, 31, 32, 33, 34, 37, 38, 44, 46, 47] I I3827 := FC_tr fI3823 (FC_mono g3829 (by decide))
                  have fJ3846 : FC g [0, 2, 3, 4, 5] J J3828 := FC_tr fJ3824 (FC_mono g3830 (by decide))
                  have fQ3847 : FQ g [1, 2, 3, 4, 5, 6, 7, 8, 9, 10, 11, 12, 13, 14, 15, 16, 17, 18, 19, 51, 68] I I3827 := FQ_tr fQ3825 (FQ_mono g3831 (by decide))
                  try simp only [e3832, e3833, e3834, e3835, e3836, e3837, e3838, e3839, e3840, e3841, e3842, e3843, ew3395, ew3396, ew3397, ew3398, ew3399, ew3400, ew3401, ew3402, ew3403, ew3404, ew3405, ew3406] at p3826
                  have d26 : ∀ q, q < 28 → I3827 (ad g 26) q = I3430 (ad g 32) q := fun q hq => by rw [p3826 q hq, FC_at hy g3807 32 (by decide) (by decide), FC_at hy g3785 32 (by decide) (by decide), FC_at hy g3763 32 (by decide) (by decide), FC_at hy g3741 32 (by decide) (by decide), FC_at hy g3719 32 (by decide) (by decide), FC_at hy g3697 32 (by decide) (by decide), FC_at hy g3675 32 (by decide) (by decide), FC_at hy g3653 32 (by decide) (by decide), FC_at hy g3631 32 (by decide) (by decide), FC_at hy g3609 32 (by decide) (by decide), FC_at hy g3587 32 (by decide) (by decide), FC_at hy g3565 32 (by decide) (by decide), FC_at hy g3543 32 (by decide) (by decide), eI3512, pp_off _ _ (ly_ne hy (by decide) (by decide) (by decide)), FC_at hy jF1 32 (by decide) (by decide)]
                  refine WQ_iconst (0) (0) dX11_town_286 rfl rfl (fun v3848 hv3848 => ?_)
                  refine WP_istore_n (ls' := [(0, _), (1, _)]) dX11_town_287 (by decide) rfl ?_
                  refine WP_iload_n dX11_town_288 rfl ?_
                  refine WQ_iconst (4) (4) dX11_town_289 rfl rfl (fun v3849 hv3849 => ?_)
                  refine WQ_icmp_ge 323 dX11_town_290 rfl (fun c3849 => False.elim (by omega)) (fun c3849 => ?_)
                  refine WP_aload_n dX11_town_293 rfl ?_
                  refine WP_getr dX11_town_294 fX11_283 rfl (ly_is hy 0 11 rfl) (rf hr 0 59 38 (by decide)) ?_
                  refine WQ_bipush (28) (28) dX11_town_297 rfl rfl (fun v3851 hv3851 => ?_)
                  refine WP_iload_n dX11_town_299 rfl ?_
                  refine WQ_iadd dX11_town_300 (by omega) (by omega) (fun v3852 hv3852 => ?_)
                  have kv3852 : v3852.toInt = 28 := by omega
                  clear hv3852; have hv3852 := kv3852; clear kv3852
                  refine WQ_iconst (1) (1) dX11_town_301 rfl rfl (fun v3853 hv3853 => ?_)
                  refine WE_is dX11_town_302 (ly_is hy 38 13 rfl) (ly_n hy 38 35 rfl) (by omega) (by omega) (fun I3854 eI3854 => ?_)
                  rw [show v3852.toInt.toNat = 28 by omega] at eI3854
                  have e3855 : I3854 (ad g 0) 1 = w3500 := by rw [eI3854, pp_ne _ _ (Or.inl (ly_ne hy (by decide) (by decide) (by decide)))]; exact e3832
                  have e3856 : I3854 (ad g 0) 8 = w3501 := by rw [eI3854, pp_ne _ _ (Or.inl (ly_ne hy (by decide) (by decide) (by decide)))]; exact e3833
                  have e3857 : I3854 (ad g 0) 9 = w3502 := by rw [eI3854, pp_ne _ _ (Or.inl (ly_ne hy (by decide) (by decide) (by decide)))]; exact e3834
                  have e3858 : I3854 (ad g 0) 10 = w3503 := by rw [eI3854, pp_ne _ _ (Or.inl (ly_ne hy (by decide) (by decide) (by decide)))]; exact e3835
                  have e3859 : I3854 (ad g 0) 11 = w3504 := by rw [eI3854, pp_ne _ _ (Or.inl (ly_ne hy (by decide) (by decide) (by decide)))]; exact e3836
                  have e3860 : I3854 (ad g 0) 13 = w3505 := by rw [eI3854, pp_ne _ _ (Or.inl (ly_ne hy (by decide) (by decide) (by decide)))]; exact e3837
                  have e3861 : I3854 (ad g 0) 14 = w3506 := by rw [eI3854, pp_ne _ _ (Or.inl (ly_ne hy (by decide) (by decide) (by decide)))]; exact e3838
                  have e3862 : I3854 (ad g 0) 15 = w3507 := by rw [eI3854, pp_ne _ _ (Or.inl (ly_ne hy (by decide) (by decide) (by decide)))]; exact e3839
                  have e3863 : I3854 (ad g 0) 16 = w3508 := by rw [eI3854, pp_ne _ _ (Or.inl (ly_ne hy (by decide) (by decide) (by decide)))]; exact e3840
                  have e3864 : I3854 (ad g 0) 17 = w3509 := by rw [eI3854, pp_ne _ _ (Or.inl (ly_ne hy (by decide) (by decide) (by decide)))]; exact e3841
                  have e3865 : I3854 (ad g 0) 18 = w3510 := by rw [eI3854, pp_ne _ _ (Or.inl (ly_ne hy (by decide) (by decide) (by decide)))]; exact e3842
                  have e3866 : I3854 (ad g 0) 19 = w3511 := by rw [eI3854, pp_ne _ _ (Or.inl (ly_ne hy (by decide) (by decide) (by decide)))]; exact e3843
                  have e3867 : I3854 (ad g 0) 12 = w3511 := by rw [eI3854, pp_ne _ _ (Or.inl (ly_ne hy (by decide) (by decide) (by decide)))]; exact e3844
                  have e3868 : I3854 (ad g 38) 28 = v3853 := by rw [eI3854, pp_self]
                  have fI3869 : FC g [0, 6, 7, 8, 9, 10, 11, 12, 13, 14, 15, 16, 17, 18, 19, 20, 21, 22, 23, 24, 25, 26, 27, 28, 29, 30, 31, 32, 33, 34, 37, 38, 44, 46, 47] I I3854 := by rw [eI3854]; exact FC_pp fI3845 (by decide)
                  have fQ3870 : FQ g [1, 2, 3, 4, 5, 6, 7, 8, 9, 10, 11, 12, 13, 14, 15, 16, 17, 18, 19, 51, 68] I I3854 := by rw [eI3854]; exact FQ_ppn (ly_ne hy (by decide) (by decide) (by decide)) fQ3847
                  refine WP_aload_n dX11_town_303 rfl ?_
                  refine WP_getr dX11_town_304 fX11_310 rfl (ly_is hy 0 11 rfl) (rf hr 0 71 46 (by decide)) ?_
                  refine WP_iload_n dX11_town_307 rfl ?_
                  refine WQ_iconst (0) (0) dX11_town_308 rfl rfl (fun v3871 hv3871 => ?_)
                  refine WE_is dX11_town_309 (ly_is hy 46 13 rfl) (ly_n hy 46 4 rfl) (by omega) (by omega) (fun I3872 eI3872 => ?_)
                  rw [show v3848.toInt.toNat = 0 by omega] at eI3872
                  have e3873 : I3872 (ad g 0) 1 = w3500 := by rw [eI3872, pp_ne _ _ (Or.inl (ly_ne hy (by decide) (by decide) (by decide)))]; exact e3855
                  have e3874 : I3872 (ad g 0) 8 = w3501 := by rw [eI3872, pp_ne _ _ (Or.inl (ly_ne hy (by decide) (by decide) (by decide)))]; exact e3856
                  have e3875 : I3872 (ad g 0) 9 = w3502 := by rw [eI3872, pp_ne _ _ (Or.inl (ly_ne hy (by decide) (by decide) (by decide)))]; exact e3857
                  have e3876 : I3872 (ad g 0) 10 = w3503 := by rw [eI3872, pp_ne _ _ (Or.inl (ly_ne hy (by decide) (by decide) (by decide)))]; exact e3858
                  have e3877 : I3872 (ad g 0) 11 = w3504 := by rw [eI3872, pp_ne _ _ (Or.inl (ly_ne hy (by decide) (by decide) (by decide)))]; exact e3859
                  have e3878 : I3872 (ad g 0) 13 = w3505 := by rw [eI3872, pp_ne _ _ (Or.inl (ly_ne hy (by decide) (by decide) (by decide)))]; exact e3860
                  have e3879 : I3872 (ad g 0) 14 = w3506 := by rw [eI3872, pp_ne _ _ (Or.inl (ly_ne hy (by decide) (by decide) (by decide)))]; exact e3861
                  have e3880 : I3872 (ad g 0) 15 = w3507 := by rw [eI3872, pp_ne _ _ (Or.inl (ly_ne hy (by decide) (by decide) (by decide)))]; exact e3862
                  have e3881 : I3872 (ad g 0) 16 = w3508 := by rw [eI3872, pp_ne _ _ (Or.inl (ly_ne hy (by decide) (by decide) (by decide)))]; exact e3863
                  have e3882 : I3872 (ad g 0) 17 = w3509 := by rw [eI3872, pp_ne _ _ (Or.inl (ly_ne hy (by decide) (by decide) (by decide)))]; exact e3864
                  have e3883 : I3872 (ad g 0) 18 = w3510 := by rw [eI3872, pp_ne _ _ (Or.inl (ly_ne hy (by decide) (by decide) (by decide)))]; exact e3865
                  have e3884 : I3872 (ad g 0) 19 = w3511 := by rw [eI3872, pp_ne _ _ (Or.inl (ly_ne hy (by decide) (by decide) (by decide)))]; exact e3866
                  have e3885 : I3872 (ad g 0) 12 = w3511 := by rw [eI3872, pp_ne _ _ (Or.inl (ly_ne hy (by decide) (by decide) (by decide)))]; exact e3867
                  have e3886 : I3872 (ad g 38) 28 = v3853 := by rw [eI3872, pp_ne _ _ (Or.inl (ly_ne hy (by decide) (by decide) (by decide)))]; exact e3868
                  have e3887 : I3872 (ad g 46) 0 = v3871 := by rw [eI3872, pp_self]
                  have fI3888 : FC g [0, 6, 7, 8, 9, 10, 11, 12, 13, 14, 15, 16, 17, 18, 19, 20, 21, 22, 23, 24, 25, 26, 27, 28, 29, 30, 31, 32, 33, 34, 37, 38, 44, 46, 47] I I3872 := by rw [eI3872]; exact FC_pp fI3869 (by decide)
                  have fQ3889 : FQ g [1, 2, 3, 4, 5, 6, 7, 8, 9, 10, 11, 12, 13, 14, 15, 16, 17, 18, 19, 51, 68] I I3872 := by rw [eI3872]; exact FQ_ppn (ly_ne hy (by decide) (by decide) (by decide)) fQ3870
                  refine WP_aload_n dX11_town_310 rfl ?_
                  refine WP_getr dX11_town_311 fX11_313 rfl (ly_is hy 0 11 rfl) (rf hr 0 72 47 (by decide)) ?_
                  refine WP_iload_n dX11_town_314 rfl ?_
                  refine WQ_iconst (0) (0) dX11_town_315 rfl rfl (fun v3890 hv3890 => ?_)
                  refine WE_is dX11_town_316 (ly_is hy 47 13 rfl) (ly_n hy 47 4 rfl) (by omega) (by omega) (fun I3891 eI3891 => ?_)
                  rw [show v3848.toInt.toNat = 0 by omega] at eI3891
                  have e3892 : I3891 (ad g 0) 1 = w3500 := by rw [eI3891, pp_ne _ _ (Or.inl (ly_ne hy (by decide) (by decide) (by decide)))]; exact e3873
                  have e3893 : I3891 (ad g 0) 8 = w3501 := by rw [eI3891, pp_ne _ _ (Or.inl (ly_ne hy (by decide) (by decide) (by decide)))]; exact e3874
                  have e3894 : I3891 (ad g 0) 9 = w3502 := by rw [eI3891, pp_ne _ _ (Or.inl (ly_ne hy (by decide) (by decide) (by decide)))]; exact e3875
                  have e3895 : I3891 (ad g 0) 10 = w3503 := by rw [eI3891, pp_ne _ _ (Or.inl (ly_ne hy (by decide) (by decide) (by decide)))]; exact e3876
                  have e3896 : I3891 (ad g 0) 11 = w3504 := by rw [eI3891, pp_ne _ _ (Or.inl (ly_ne hy (by decide) (by decide) (by decide)))]; exact e3877
                  have e3897 : I3891 (ad g 0) 13 = w3505 := by rw [eI3891, pp_ne _ _ (Or.inl (ly_ne hy (by decide) (by decide) (by decide)))]; exact e3878
                  have e3898 : I3891 (ad g 0) 14 = w3506 := by rw [eI3891, pp_ne _ _ (Or.inl (ly_ne hy (by decide) (by decide) (by decide)))]; exact e3879
                  have e3899 : I3891 (ad g 0) 15 = w3507 := by rw [eI3891, pp_ne _ _ (Or.inl (ly_ne hy (by decide) (by decide) (by decide)))]; exact e3880
                  have e3900 : I3891 (ad g 0) 16 = w3508 := by rw [eI3891, pp_ne _ _ (Or.inl (ly_ne hy (by decide) (by decide) (by decide)))]; exact e3881
                  have e3901 : I3891 (ad g 0) 17 = w3509 := by rw [eI3891, pp_ne _ _ (Or.inl (ly_ne hy (by decide) (by decide) (by decide)))]; exact e3882
                  have e3902 : I3891 (ad g 0) 18 = w3510 := by rw [eI3891, pp_ne _ _ (Or.inl (ly_ne hy (by decide) (by decide) (by decide)))]; exact e3883
                  have e3903 : I3891 (ad g 0) 19 = w3511 := by rw [eI3891, pp_ne _ _ (Or.inl (ly_ne hy (by decide) (by decide) (by decide)))]; exact e3884
                  have e3904 : I3891 (ad g 0) 12 = w3511 := by rw [eI3891, pp_ne _ _ (Or.inl (ly_ne hy (by decide) (by decide) (by decide)))]; exact e3885
                  have e3905 : I3891 (ad g 38) 28 = v3853 := by rw [eI3891, pp_ne _ _ (Or.inl (ly_ne hy (by decide) (by decide) (by decide)))]; exact e3886
                  have e3906 : I3891 (ad g 46) 0 = v3871 := by rw [eI3891, pp_ne _ _ (Or.inl (ly_ne hy (by decide) (by decide) (by decide)))]; exact e3887
                  have e3907 : I3891 (ad g 47) 0 = v3890 := by rw [eI3891, pp_self]
                  have fI3908 : FC g [0, 6, 7, 8, 9, 10, 11, 12, 13, 14, 15, 16, 17, 18, 19, 20, 21, 22, 23, 24, 25, 26, 27, 28, 29, 30, 31, 32, 33, 34, 37, 38, 44, 46, 47] I I3891 := by rw [eI3891]; exact FC_pp fI3888 (by decide)
                  have fQ3909 : FQ g [1, 2, 3, 4, 5, 6, 7, 8, 9, 10, 11, 12, 13, 14, 15, 16, 17, 18, 19, 51, 68] I I3891 := by rw [eI3891]; exact FQ_ppn (ly_ne hy (by decide) (by decide) (by decide)) fQ3889
                  refine WP_iinc (ls' := [(0, _), (1, _)]) dX11_town_317 rfl (by decide) rfl ?_
                  have hv3910 : (v3848 + Int32.ofInt (1)).toInt = v3848.toInt + (1) := ia_n rfl (by omega) (by omega)
                  generalize v3848 + Int32.ofInt (1) = v3910 at hv3910 ⊢
                  have kv3910 : v3910.toInt = 1 := by omega
                  clear hv3910; have hv3910 := kv3910; clear kv3910
                  refine WP_goto 288 dX11_town_320 rfl ?_
                  refine WP_iload_n dX11_town_288 rfl ?_
                  refine WQ_iconst (4) (4) dX11_town_289 rfl rfl (fun v3911 hv3911 => ?_)
                  refine WQ_icmp_ge 323 dX11_town_290 rfl (fun c3911 => False.elim (by omega)) (fun c3911 => ?_)
                  refine WP_aload_n dX11_town_293 rfl ?_
                  refine WP_getr dX11_town_294 fX11_283 rfl (ly_is hy 0 11 rfl) (rf hr 0 59 38 (by decide)) ?_
                  refine WQ_bipush (28) (28) dX11_town_297 rfl rfl (fun v3913 hv3913 => ?_)
                  refine WP_iload_n dX11_town_299 rfl ?_
                  refine WQ_iadd dX11_town_300 (by omega) (by omega) (fun v3914 hv3914 => ?_)
                  have kv3914 : v3914.toInt = 29 := by omega
                  clear hv3914; have hv3914 := kv3914; clear kv3914
                  refine WQ_iconst (1) (1) dX11_town_301 rfl rfl (fun v3915 hv3915 => ?_)
                  refine WE_is dX11_town_302 (ly_is hy 38 13 rfl) (ly_n hy 38 35 rfl) (by omega) (by omega) (fun I3916 eI3916 => ?_)
                  rw [show v3914.toInt.toNat = 29 by omega] at eI3916
                  have e3917 : I3916 (ad g 0) 1 = w3500 := by rw [eI3916, pp_ne _ _ (Or.inl (ly_ne hy (by decide) (by decide) (by decide)))]; exact e3892
                  have e3918 : I3916 (ad g 0) 8 = w3501 := by rw [eI3916, pp_ne _ _ (Or.inl (ly_ne hy (by decide) (by decide) (by decide)))]; exact e3893
                  have e3919 : I3916 (ad g 0) 9 = w3502 := by rw [eI3916, pp_ne _ _ (Or.inl (ly_ne hy (by decide) (by decide) (by decide)))]; exact e3894
                  have e3920 : I3916 (ad g 0) 10 = w3503 := by rw [eI3916, pp_ne _ _ (Or.inl (ly_ne hy (by decide) (by decide) (by decide)))]; exact e3895
                  have e3921 : I3916 (ad g 0) 11 = w3504 := by rw [eI3916, pp_ne _ _ (Or.inl (ly_ne hy (by decide) (by decide) (by decide)))]; exact e3896
                  have e3922 : I3916 (ad g 0) 13 = w3505 := by rw [eI3916, pp_ne _ _ (Or.inl (ly_ne hy (by decide) (by decide) (by decide)))]; exact e3897
                  have e3923 : I3916 (ad g 0) 14 = w3506 := by rw [eI3916, pp_ne _ _ (Or.inl (ly_ne hy (by decide) (by decide) (by decide)))]; exact e3898
                  have e3924 : I3916 (ad g 0) 15 = w3507 := by rw [eI3916, pp_ne _ _ (Or.inl (ly_ne hy (by decide) (by decide) (by decide)))]; exact e3899
                  have e3925 : I3916 (ad g 0) 16 = w3508 := by rw [eI3916, pp_ne _ _ (Or.inl (ly_ne hy (by decide) (by decide) (by decide)))]; exact e3900
                  have e3926 : I3916 (ad g 0) 17 = w3509 := by rw [eI3916, pp_ne _ _ (Or.inl (ly_ne hy (by decide) (by decide) (by decide)))]; exact e3901
                  have e3927 : I3916 (ad g 0) 18 = w3510 := by rw [eI3916, pp_ne _ _ (Or.inl (ly_ne hy (by decide) (by decide) (by decide)))]; exact e3902
                  have e3928 : I3916 (ad g 0) 19 = w3511 := by rw [eI3916, pp_ne _ _ (Or.inl (ly_ne hy (by decide) (by decide) (by decide)))]; exact e3903
                  have e3929 : I3916 (ad g 0) 12 = w3511 := by rw [eI3916, pp_ne _ _ (Or.inl (ly_ne hy (by decide) (by decide) (by decide)))]; exact e3904
                  have e3930 : I3916 (ad g 38) 28 = v3853 := by rw [eI3916, pp_ne _ _ (Or.inr (by decide))]; exact e3905
                  have e3931 : I3916 (ad g 46) 0 = v3871 := by rw [eI3916, pp_ne _ _ (Or.inl (ly_ne hy (by decide) (by decide) (by decide)))]; exact e3906
                  have e3932 : I3916 (ad g 47) 0 = v3890 := by rw [eI3916, pp_ne _ _ (Or.inl (ly_ne hy (by decide) (by decide) (by decide)))]; exact e3907
                  have e3933 : I3916 (ad g 38) 29 = v3915 := by rw [eI3916, pp_self]
                  have fI3934 : FC g [0, 6, 7, 8, 9, 10, 11, 12, 13, 14, 15, 16, 17, 18, 19, 20, 21, 22, 23, 24, 25, 26, 27, 28, 29, 30, 31, 32, 33, 34, 37, 38, 44, 46, 47] I I3916 := by rw [eI3916]; exact FC_pp fI3908 (by decide)
                  have fQ3935 : FQ g [1, 2, 3, 4, 5, 6, 7, 8, 9, 10, 11, 12, 13, 14, 15, 16, 17, 18, 19, 51, 68] I I3916 := by rw [eI3916]; exact FQ_ppn (ly_ne hy (by decide) (by decide) (by decide)) fQ3909
                  refine WP_aload_n dX11_town_303 rfl ?_
                  refine WP_getr dX11_town_304 fX11_310 rfl (ly_is hy 0 11 rfl) (rf hr 0 71 46 (by decide)) ?_
                  refine WP_iload_n dX11_town_307 rfl ?_
                  refine WQ_iconst (0) (0) dX11_town_308 rfl rfl (fun v3936 hv3936 => ?_)
                  refine WE_is dX11_town_309 (ly_is hy 46 13 rfl) (ly_n hy 46 4 rfl) (by omega) (by omega) (fun I3937 eI3937 => ?_)
                  rw [show v3910.toInt.toNat = 1 by omega] at eI3937
                  have e3938 : I3937 (ad g 0) 1 = w3500 := by rw [eI3937, pp_ne _ _ (Or.inl (ly_ne hy (by decide) (by decide) (by decide)))]; exact e3917
                  have e3939 : I3937 (ad g 0) 8 = w3501 := by rw [eI3937, pp_ne _ _ (Or.inl (ly_ne hy (by decide) (by decide) (by decide)))]; exact e3918
                  have e3940 : I3937 (ad g 0) 9 = w3502 := by rw [eI3937, pp_ne _ _ (Or.inl (ly_ne hy (by decide) (by decide) (by decide)))]; exact e3919
                  have e3941 : I3937 (ad g 0) 10 = w3503 := by rw [eI3937, pp_ne _ _ (Or.inl (ly_ne hy (by decide) (by decide) (by decide)))]; exact e3920
                  have e3942 : I3937 (ad g 0) 11 = w3504 := by rw [eI3937, pp_ne _ _ (Or.inl (ly_ne hy (by decide) (by decide) (by decide)))]; exact e3921
                  have e3943 : I3937 (ad g 0) 13 = w3505 := by rw [eI3937, pp_ne _ _ (Or.inl (ly_ne hy (by decide) (by decide) (by decide)))]; exact e3922
                  have e3944 : I3937 (ad g 0) 14 = w3506 := by rw [eI3937, pp_ne _ _ (Or.inl (ly_ne hy (by decide) (by decide) (by decide)))]; exact e3923
                  have e3945 : I3937 (ad g 0) 15 = w3507 := by rw [eI3937, pp_ne _ _ (Or.inl (ly_ne hy (by decide) (by decide) (by decide)))]; exact e3924
                  have e3946 : I3937 (ad g 0) 16 = w3508 := by rw [eI3937, pp_ne _ _ (Or.inl (ly_ne hy (by decide) (by decide) (by decide)))]; exact e3925
                  have e3947 : I3937 (ad g 0) 17 = w3509 := by rw [eI3937, pp_ne _ _ (Or.inl (ly_ne hy (by decide) (by decide) (by decide)))]; exact e3926
                  have e3948 : I3937 (ad g 0) 18 = w3510 := by rw [eI3937, pp_ne _ _ (Or.inl (ly_ne hy (by decide) (by decide) (by decide)))]; exact e3927
                  have e3949 : I3937 (ad g 0) 19 = w3511 := by rw [eI3937, pp_ne _ _ (Or.inl (ly_ne hy (by decide) (by decide) (by decide)))]; exact e3928
                  have e3950 : I3937 (ad g 0) 12 = w3511 := by rw [eI3937, pp_ne _ _ (Or.inl (ly_ne hy (by decide) (by decide) (by decide)))]; exact e3929
                  have e3951 : I3937 (ad g 38) 28 = v3853 := by rw [eI3937, pp_ne _ _ (Or.inl (ly_ne hy (by decide) (by decide) (by decide)))]; exact e3930
                  have e3952 : I3937 (ad g 46) 0 = v3871 := by rw [eI3937, pp_ne _ _ (Or.inr (by decide))]; exact e3931
                  have e3953 : I3937 (ad g 47) 0 = v3890 := by rw [eI3937, pp_ne _ _ (Or.inl (ly_ne hy (by decide) (by decide) (by decide)))]; exact e3932
                  have e3954 : I3937 (ad g 38) 29 = v3915 := by rw [eI3937, pp_ne _ _ (Or.inl (ly_ne hy (by decide) (by decide) (by decide)))]; exact e3933
                  have e3955 : I3937 (ad g 46) 1 = v3936 := by rw [eI3937, pp_self]
                  have fI3956 : FC g [0, 6, 7, 8, 9, 10, 11, 12, 13, 14, 15, 16, 17, 18, 19, 20, 21, 22, 23, 24, 25, 26, 27, 28, 29, 30, 31, 32, 33, 34, 37, 38, 44, 46, 47] I I3937 := by rw [eI3937]; exact FC_pp fI3934 (by decide)
                  have fQ3957 : FQ g [1, 2, 3, 4, 5, 6, 7, 8, 9, 10, 11, 12, 13, 14, 15, 16, 17, 18, 19, 51, 68] I I3937 := by rw [eI3937]; exact FQ_ppn (ly_ne hy (by decide) (by decide) (by decide)) fQ3935
                  refine WP_aload_n dX11_town_310 rfl ?_
                  refine WP_getr dX11_town_311 fX11_313 rfl (ly_is hy 0 11 rfl) (rf hr 0 72 47 (by decide)) ?_
                  refine WP_iload_n dX11_town_314 rfl ?_
                  refine WQ_iconst (0) (0) dX11_town_315 rfl rfl (fun v3958 hv3958 => ?_)
                  refine WE_is dX11_town_316 (ly_is hy 47 13 rfl) (ly_n hy 47 4 rfl) (by omega) (by omega) (fun I3959 eI3959 => ?_)
                  rw [show v3910.toInt.toNat = 1 by omega] at eI3959
                  have e3960 : I3959 (ad g 0) 1 = w3500 := by rw [eI3959, pp_ne _ _ (Or.inl (ly_ne hy (by decide) (by decide) (by decide)))]; exact e3938
                  have e3961 : I3959 (ad g 0) 8 = w3501 := by rw [eI3959, pp_ne _ _ (Or.inl (ly_ne hy (by decide) (by decide) (by decide)))]; exact e3939
                  have e3962 : I3959 (ad g 0) 9 = w3502 := by rw [eI3959, pp_ne _ _ (Or.inl (ly_ne hy (by decide) (by decide) (by decide)))]; exact e3940
                  have e3963 : I3959 (ad g 0) 10 = w3503 := by rw [eI3959, pp_ne _ _ (Or.inl (ly_ne hy (by decide) (by decide) (by decide)))]; exact e3941
                  have e3964 : I3959 (ad g 0) 11 = w3504 := by rw [eI3959, pp_ne _ _ (Or.inl (ly_ne hy (by decide) (by decide) (by decide)))]; exact e3942
                  have e3965 : I3959 (ad g 0) 13 = w3505 := by rw [eI3959, pp_ne _ _ (Or.inl (ly_ne hy (by decide) (by decide) (by decide)))]; exact e3943
                  have e3966 : I3959 (ad g 0) 14 = w3506 := by rw [eI3959, pp_ne _ _ (Or.inl (ly_ne hy (by decide) (by decide) (by decide)))]; exact e3944
                  have e3967 : I3959 (ad g 0) 15 = w3507 := by rw [eI3959, pp_ne _ _ (Or.inl (ly_ne hy (by decide) (by decide) (by decide)))]; exact e3945
                  have e3968 : I3959 (ad g 0) 16 = w3508 := by rw [eI3959, pp_ne _ _ (Or.inl (ly_ne hy (by decide) (by decide) (by decide)))]; exact e3946
                  have e3969 : I3959 (ad g 0) 17 = w3509 := by rw [eI3959, pp_ne _ _ (Or.inl (ly_ne hy (by decide) (by decide) (by decide)))]; exact e3947
                  have e3970 : I3959 (ad g 0) 18 = w3510 := by rw [eI3959, pp_ne _ _ (Or.inl (ly_ne hy (by decide) (by decide) (by decide)))]; exact e3948
                  have e3971 : I3959 (ad g 0) 19 = w3511 := by rw [eI3959, pp_ne _ _ (Or.inl (ly_ne hy (by decide) (by decide) (by decide)))]; exact e3949
                  have e3972 : I3959 (ad g 0) 12 = w3511 := by rw [eI3959, pp_ne _ _ (Or.inl (ly_ne hy (by decide) (by decide) (by decide)))]; exact e3950
                  have e3973 : I3959 (ad g 38) 28 = v3853 := by rw [eI3959, pp_ne _ _ (Or.inl (ly_ne hy (by decide) (by decide) (by decide)))]; exact e3951
                  have e3974 : I3959 (ad g 46) 0 = v3871 := by rw [eI3959, pp_ne _ _ (Or.inl (ly_ne hy (by decide) (by decide) (by decide)))]; exact e3952
                  have e3975 : I3959 (ad g 47) 0 = v3890 := by rw [eI3959, pp_ne _ _ (Or.inr (by decide))]; exact e3953
                  have e3976 : I3959 (ad g 38) 29 = v3915 := by rw [eI3959, pp_ne _ _ (Or.inl (ly_ne hy (by decide) (by decide) (by decide)))]; exact e3954
                  have e3977 : I3959 (ad g 46) 1 = v3936 := by rw [eI3959, pp_ne _ _ (Or.inl (ly_ne hy (by decide) (by decide) (by decide)))]; exact e3955
                  have e3978 : I3959 (ad g 47) 1 = v3958 := by rw [eI3959, pp_self]
                  have fI3979 : FC g [0, 6, 7, 8, 9, 10, 11, 12, 13, 14, 15, 16, 17, 18, 19, 20, 21, 22, 23, 24, 25, 26, 27, 28, 29, 30, 31, 32, 33, 34, 37, 38, 44, 46, 47] I I3959 := by rw [eI3959]; exact FC_pp fI3956 (by decide)
                  have fQ3980 : FQ g [1, 2, 3, 4, 5, 6, 7, 8, 9, 10, 11, 12, 13, 14, 15, 16, 17, 18, 19, 51, 68] I I3959 := by rw [eI3959]; exact FQ_ppn (ly_ne hy (by decide) (by decide) (by decide)) fQ3957
                  refine WP_iinc (ls' := [(0, _), (1, _)]) dX11_town_317 rfl (by decide) rfl ?_
                  have hv3981 : (v3910 + Int32.ofInt (1)).toInt = v3910.toInt + (1) := ia_n rfl (by omega) (by omega)
                  generalize v3910 + Int32.ofInt (1) = v3981 at hv3981 ⊢
                  have kv3981 : v3981.toInt = 2 := by omega
                  clear hv3981; have hv3981 := kv3981; clear kv3981
                  refine WP_goto 288 dX11_town_320 rfl ?_
                  refine WP_iload_n dX11_town_288 rfl ?_
                  refine WQ_iconst (4) (4) dX11_town_289 rfl rfl (fun v3982 hv3982 => ?_)
                  refine WQ_icmp_ge 323 dX11_town_290 rfl (fun c3982 => False.elim (by omega)) (fun c3982 => ?_)
                  refine WP_aload_n dX11_town_293 rfl ?_
                  refine WP_getr dX11_town_294 fX11_283 rfl (ly_is hy 0 11 rfl) (rf hr 0 59 38 (by decide)) ?_
                  refine WQ_bipush (28) (28) dX11_town_297 rfl rfl (fun v3984 hv3984 => ?_)
                  refine WP_iload_n dX11_town_299 rfl ?_
                  refine WQ_iadd dX11_town_300 (by omega) (by omega) (fun v3985 hv3985 => ?_)
                  have kv3985 : v3985.toInt = 30 := by omega
                  clear hv3985; have hv3985 := kv3985; clear kv3985
                  refine WQ_iconst (1) (1) dX11_town_301 rfl rfl (fun v3986 hv3986 => ?_)
                  refine WE_is dX11_town_302 (ly_is hy 38 13 rfl) (ly_n hy 38 35 rfl) (by omega) (by omega) (fun I3987 eI3987 => ?_)
                  rw [show v3985.toInt.toNat = 30 by omega] at eI3987
                  have e3988 : I3987 (ad g 0) 1 = w3500 := by rw [eI3987, pp_ne _ _ (Or.inl (ly_ne hy (by decide) (by decide) (by decide)))]; exact e3960
                  have e3989 : I3987 (ad g 0) 8 = w3501 := by rw [eI3987, pp_ne _ _ (Or.inl (ly_ne hy (by decide) (by decide) (by decide)))]; exact e3961
                  have e3990 : I3987 (ad g 0) 9 = w3502 := by rw [eI3987, pp_ne _ _ (Or.inl (ly_ne hy (by decide) (by decide) (by decide)))]; exact e3962
                  have e3991 : I3987 (ad g 0) 10 = w3503 := by rw [eI3987, pp_ne _ _ (Or.inl (ly_ne hy (by decide) (by decide) (by decide)))]; exact e3963
                  have e3992 : I3987 (ad g 0) 11 = w3504 := by rw [eI3987, pp_ne _ _ (Or.inl (ly_ne hy (by decide) (by decide) (by decide)))]; exact e3964
                  have e3993 : I3987 (ad g 0) 13 = w3505 := by rw [eI3987, pp_ne _ _ (Or.inl (ly_ne hy (by decide) (by decide) (by decide)))]; exact e3965
                  have e3994 : I3987 (ad g 0) 14 = w3506 := by rw [eI3987, pp_ne _ _ (Or.inl (ly_ne hy (by decide) (by decide) (by decide)))]; exact e3966
                  have e3995 : I3987 (ad g 0) 15 = w3507 := by rw [eI3987, pp_ne _ _ (Or.inl (ly_ne hy (by decide) (by decide) (by decide)))]; exact e3967
                  have e3996 : I3987 (ad g 0) 16 = w3508 := by rw [eI3987, pp_ne _ _ (Or.inl (ly_ne hy (by decide) (by decide) (by decide)))]; exact e3968
                  have e3997 : I3987 (ad g 0) 17 = w3509 := by rw [eI3987, pp_ne _ _ (Or.inl (ly_ne hy (by decide) (by decide) (by decide)))]; exact e3969
                  have e3998 : I3987 (ad g 0) 18 = w3510 := by rw [eI3987, pp_ne _ _ (Or.inl (ly_ne hy (by decide) (by decide) (by decide)))]; exact e3970
                  have e3999 : I3987 (ad g 0) 19 = w3511 := by rw [eI3987, pp_ne _ _ (Or.inl (ly_ne hy (by decide) (by decide) (by decide)))]; exact e3971
                  have e4000 : I3987 (ad g 0) 12 = w3511 := by rw [eI3987, pp_ne _ _ (Or.inl (ly_ne hy (by decide) (by decide) (by decide)))]; exact e3972
                  have e4001 : I3987 (ad g 38) 28 = v3853 := by rw [eI3987, pp_ne _ _ (Or.inr (by decide))]; exact e3973
                  have e4002 : I3987 (ad g 46) 0 = v3871 := by rw [eI3987, pp_ne _ _ (Or.inl (ly_ne hy (by decide) (by decide) (by decide)))]; exact e3974
                  have e4003 : I3987 (ad g 47) 0 = v3890 := by rw [eI3987, pp_ne _ _ (Or.inl (ly_ne hy (by decide) (by decide) (by decide)))]; exact e3975
                  have e4004 : I3987 (ad g 38) 29 = v3915 := by rw [eI3987, pp_ne _ _ (Or.inr (by decide))]; exact e3976
                  have e4005 : I3987 (ad g 46) 1 = v3936 := by rw [eI3987, pp_ne _ _ (Or.inl (ly_ne hy (by decide) (by decide) (by decide)))]; exact e3977
                  have e4006 : I3987 (ad g 47) 1 = v3958 := by rw [eI3987, pp_ne _ _ (Or.inl (ly_ne hy (by decide) (by decide) (by decide)))]; exact e3978
                  have e4007 : I3987 (ad g 38) 30 = v3986 := by rw [eI3987, pp_self]
                  have fI4008 : FC g [0, 6, 7, 8, 9, 10, 11, 12, 13, 14, 15, 16, 17, 18, 19, 20, 21, 22, 23, 24, 25, 26, 27, 28, 29, 30, 31, 32, 33, 34, 37, 38, 44, 46, 47] I I3987 := by rw [eI3987]; exact FC_pp fI3979 (by decide)
                  have fQ4009 : FQ g [1, 2, 3, 4, 5, 6, 7, 8, 9, 10, 11, 12, 13, 14, 15, 16, 17, 18, 19, 51, 68] I I3987 := by rw [eI3987]; exact FQ_ppn (ly_ne hy (by decide) (by decide) (by decide)) fQ3980
                  refine WP_aload_n dX11_town_303 rfl ?_
                  refine WP_getr dX11_town_304 fX11_310 rfl (ly_is hy 0 11 rfl) (rf hr 0 71 46 (by decide)) ?_
                  refine WP_iload_n dX11_town_307 rfl ?_
                  refine WQ_iconst (0) (0) dX11_town_308 rfl rfl (fun v4010 hv4010 => ?_)
                  refine WE_is dX11_town_309 (ly_is hy 46 13 rfl) (ly_n hy 46 4 rfl) (by omega) (by omega) (fun I4011 eI4011 => ?_)
                  rw [show v3981.toInt.toNat = 2 by omega] at eI4011
                  have e4012 : I4011 (ad g 0) 1 = w3500 := by rw [eI4011, pp_ne _ _ (Or.inl (ly_ne hy (by decide) (by decide) (by decide)))]; exact e3988
                  have e4013 : I4011 (ad g 0) 8 = w3501 := by rw [eI4011, pp_ne _ _ (Or.inl (ly_ne hy (by decide) (by decide) (by decide)))]; exact e3989
                  have e4014 : I4011 (ad g 0) 9 = w3502 := by rw [eI4011, pp_ne _ _ (Or.inl (ly_ne hy (by decide) (by decide) (by decide)))]; exact e3990
                  have e4015 : I4011 (ad g 0) 10 = w3503 := by rw [eI4011, pp_ne _ _ (Or.inl (ly_ne hy (by decide) (by decide) (by decide)))]; exact e3991
                  have e4016 : I4011 (ad g 0) 11 = w3504 := by rw [eI4011, pp_ne _ _ (Or.inl (ly_ne hy (by decide) (by decide) (by decide)))]; exact e3992
                  have e4017 : I4011 (ad g 0) 13 = w3505 := by rw [eI4011, pp_ne _ _ (Or.inl (ly_ne hy (by decide) (by decide) (by decide)))]; exact e3993
                  have e4018 : I4011 (ad g 0) 14 = w3506 := by rw [eI4011, pp_ne _ _ (Or.inl (ly_ne hy (by decide) (by decide) (by decide)))]; exact e3994
                  have e4019 : I4011 (ad g 0) 15 = w3507 := by rw [eI4011, pp_ne _ _ (Or.inl (ly_ne hy (by decide) (by decide) (by decide)))]; exact e3995
                  have e4020 : I4011 (ad g 0) 16 = w3508 := by rw [eI4011, pp_ne _ _ (Or.inl (ly_ne hy (by decide) (by decide) (by decide)))]; exact e3996
                  have e4021 : I4011 (ad g 0) 17 = w3509 := by rw [eI4011, pp_ne _ _ (Or.inl (ly_ne hy (by decide) (by decide) (by decide)))]; exact e3997
                  have e4022 : I4011 (ad g 0) 18 = w3510 := by rw [eI4011, pp_ne _ _ (Or.inl (ly_ne hy (by decide) (by decide) (by decide)))]; exact e3998
                  have e4023 : I4011 (ad g 0) 19 = w3511 := by rw [eI4011, pp_ne _ _ (Or.inl (ly_ne hy (by decide) (by decide) (by decide)))]; exact e3999
                  have e4024 : I4011 (ad g 0) 12 = w3511 := by rw [eI4011, pp_ne _ _ (Or.inl (ly_ne hy (by decide) (by decide) (by decide)))]; exact e4000
                  have e4025 : I4011 (ad g 38) 28 = v3853 := by rw [eI4011, pp_ne _ _ (Or.inl (ly_ne hy (by decide) (by decide) (by decide)))]; exact e4001
                  have e4026 : I4011 (ad g 46) 0 = v3871 := by rw [eI4011, pp_ne _ _ (Or.inr (by decide))]; exact e4002
                  have e4027 : I4011 (ad g 47) 0 = v3890 := by rw [eI4011, pp_ne _ _ (Or.inl (ly_ne hy (by decide) (by decide) (by decide)))]; exact e4003
                  have e4028 : I4011 (ad g 38) 29 = v3915 := by rw [eI4011, pp_ne _ _ (Or.inl (ly_ne hy (by decide) (by decide) (by decide)))]; exact e4004
                  have e4029 : I4011 (ad g 46) 1 = v3936 := by rw [eI4011, pp_ne _ _ (Or.inr (by decide))]; exact e4005
                  have e4030 : I4011 (ad g 47) 1 = v3958 := by rw [eI4011, pp_ne _ _ (Or.inl (ly_ne hy (by decide) (by decide) (by decide)))]; exact e4006
                  have e4031 : I4011 (ad g 38) 30 = v3986 := by rw [eI4011, pp_ne _ _ (Or.inl (ly_ne hy (by decide) (by decide) (by decide)))]; exact e4007
                  have e4032 : I4011 (ad g 46) 2 = v4010 := by rw [eI4011, pp_self]
                  have fI4033 : FC g [0, 6, 7, 8, 9, 10, 11, 12, 13, 14, 15, 16, 17, 18, 19, 20, 21, 22, 23, 24, 25, 26, 27, 28, 29, 30, 31, 32, 33, 34, 37, 38, 44, 46, 47] I I4011 := by rw [eI4011]; exact FC_pp fI4008 (by decide)
                  have fQ4034 : FQ g [1, 2, 3, 4, 5, 6, 7, 8, 9, 10, 11, 12, 13, 14, 15, 16, 17, 18, 19, 51, 68] I I4011 := by rw [eI4011]; exact FQ_ppn (ly_ne hy (by decide) (by decide) (by decide)) fQ4009
                  refine WP_aload_n dX11_town_310 rfl ?_
                  refine WP_getr dX11_town_311 fX11_313 rfl (ly_is hy 0 11 rfl) (rf hr 0 72 47 (by decide)) ?_
                  refine WP_iload_n dX11_town_314 rfl ?_
                  refine WQ_iconst (0) (0) dX11_town_315 rfl rfl (fun v4035 hv4035 => ?_)
                  refine WE_is dX11_town_316 (ly_is hy 47 13 rfl) (ly_n hy 47 4 rfl) (by omega) (by omega) (fun I4036 eI4036 => ?_)
                  rw [show v3981.toInt.toNat = 2 by omega] at eI4036
                  have e4037 : I4036 (ad g 0) 1 = w3500 := by rw [eI4036, pp_ne _ _ (Or.inl (ly_ne hy (by decide) (by decide) (by decide)))]; exact e4012
                  have e4038 : I4036 (ad g 0) 8 = w3501 := by rw [eI4036, pp_ne _ _ (Or.inl (ly_ne hy (by decide) (by decide) (by decide)))]; exact e4013
                  have e4039 : I4036 (ad g 0) 9 = w3502 := by rw [eI4036, pp_ne _ _ (Or.inl (ly_ne hy (by decide) (by decide) (by decide)))]; exact e4014
                  have e4040 : I4036 (ad g 0) 10 = w3503 := by rw [eI4036, pp_ne _ _ (Or.inl (ly_ne hy (by decide) (by decide) (by decide)))]; exact e4015
                  have e4041 : I4036 (ad g 0) 11 = w3504 := by rw [eI4036, pp_ne _ _ (Or.inl (ly_ne hy (by decide) (by decide) (by decide)))]; exact e4016
                  have e4042 : I4036 (ad g 0) 13 = w3505 := by rw [eI4036, pp_ne _ _ (Or.inl (ly_ne hy (by decide) (by decide) (by decide)))]; exact e4017
                  have e4043 : I4036 (ad g 0) 14 = w3506 := by rw [eI4036, pp_ne _ _ (Or.inl (ly_ne hy (by decide) (by decide) (by decide)))]; exact e4018
                  have e4044 : I4036 (ad g 0) 15 = w3507 := by rw [eI4036, pp_ne _ _ (Or.inl (ly_ne hy (by decide) (by decide) (by decide)))]; exact e4019
                  have e4045 : I4036 (ad g 0) 16 = w3508 := by rw [eI4036, pp_ne _ _ (Or.inl (ly_ne hy (by decide) (by decide) (by decide)))]; exact e4020
                  have e4046 : I4036 (ad g 0) 17 = w3509 := by rw [eI4036, pp_ne _ _ (Or.inl (ly_ne hy (by decide) (by decide) (by decide)))]; exact e4021
                  have e4047 : I4036 (ad g 0) 18 = w3510 := by rw [eI4036, pp_ne _ _ (Or.inl (ly_ne hy (by decide) (by decide) (by decide)))]; exact e4022
                  have e4048 : I4036 (ad g 0) 19 = w3511 := by rw [eI4036, pp_ne _ _ (Or.inl (ly_ne hy (by decide) (by decide) (by decide)))]; exact e4023
                  have e4049 : I4036 (ad g 0) 12 = w3511 := by rw [eI4036, pp_ne _ _ (Or.inl (ly_ne hy (by decide) (by decide) (by decide)))]; exact e4024
                  have e4050 : I4036 (ad g 38) 28 = v3853 := by rw [eI4036, pp_ne _ _ (Or.inl (ly_ne hy (by decide) (by decide) (by decide)))]; exact e4025
                  have e4051 : I4036 (ad g 46) 0 = v3871 := by rw [eI4036, pp_ne _ _ (Or.inl (ly_ne hy (by decide) (by decide) (by decide)))]; exact e4026
                  have e4052 : I4036 (ad g 47) 0 = v3890 := by rw [eI4036, pp_ne _ _ (Or.inr (by decide))]; exact e4027
                  have e4053 : I4036 (ad g 38) 29 = v3915 := by rw [eI4036, pp_ne _ _ (Or.inl (ly_ne hy (by decide) (by decide) (by decide)))]; exact e4028
                  have e4054 : I4036 (ad g 46) 1 = v3936 := by rw [eI4036, pp_ne _ _ (Or.inl (ly_ne hy (by decide) (by decide) (by decide)))]; exact e4029
                  have e4055 : I4036 (ad g 47) 1 = v3958 := by rw [eI4036, pp_ne _ _ (Or.inr (by decide))]; exact e4030
                  have e4056 : I4036 (ad g 38) 30 = v3986 := by rw [eI4036, pp_ne _ _ (Or.inl (ly_ne hy (by decide) (by decide) (by decide)))]; exact e4031
                  have e4057 : I4036 (ad g 46) 2 = v4010 := by rw [eI4036, pp_ne _ _ (Or.inl (ly_ne hy (by decide) (by decide) (by decide)))]; exact e4032
                  have e4058 : I4036 (ad g 47) 2 = v4035 := by rw [eI4036, pp_self]
                  have fI4059 : FC g [0, 6, 7, 8, 9, 10, 11, 12, 13, 14, 15, 16, 17, 18, 19, 20, 21, 22, 23, 24, 25, 26, 27, 28, 29, 30, 31, 32, 33, 34, 37, 38, 44, 46, 47] I I4036 := by rw [eI4036]; exact FC_pp fI4033 (by decide)
                  have fQ4060 : FQ g [1, 2, 3, 4, 5, 6, 7, 8, 9, 10, 11, 12, 13, 14, 15, 16, 17, 18, 19, 51, 68] I I4036 := by rw [eI4036]; exact FQ_ppn (ly_ne hy (by decide) (by decide) (by decide)) fQ4034
                  refine WP_iinc (ls' := [(0, _), (1, _)]) dX11_town_317 rfl (by decide) rfl ?_
                  have hv4061 : (v3981 + Int32.ofInt (1)).toInt = v3981.toInt + (1) := ia_n rfl (by omega) (by omega)
                  generalize v3981 + Int32.ofInt (1) = v4061 at hv4061 ⊢
                  have kv4061 : v4061.toInt = 3 := by omega
                  clear hv4061; have hv4061 := kv4061; clear kv4061
                  refine WP_goto 288 dX11_town_320 rfl ?_
                  refine WP_iload_n dX11_town_288 rfl ?_
                  refine WQ_iconst (4) (4) dX11_town_289 rfl rfl (fun v4062 hv4062 => ?_)
                  refine WQ_icmp_ge 323 dX11_town_290 rfl (fun c4062 => False.elim (by omega)) (fun c4062 => ?_)
                  refine WP_aload_n dX11_town_293 rfl ?_
                  refine WP_getr dX11_town_294 fX11_283 rfl (ly_is hy 0 11 rfl) (rf hr 0 59 38 (by decide)) ?_
                  refine WQ_bipush (28) (28) dX11_town_297 rfl rfl (fun v4064 hv4064 => ?_)
                  refine WP_iload_n dX11_town_299 rfl ?_
                  refine WQ_iadd dX11_town_300 (by omega) (by omega) (fun v4065 hv4065 => ?_)
                  have kv4065 : v4065.toInt = 31 := by omega
                  clear hv4065; have hv4065 := kv4065; clear kv4065
                  refine WQ_iconst (1) (1) dX11_town_301 rfl rfl (fun v4066 hv4066 => ?_)
                  refine WE_is dX11_town_302 (ly_is hy 38 13 rfl) (ly_n hy 38 35 rfl) (by omega) (by omega) (fun I4067 eI4067 => ?_)
                  rw [show v4065.toInt.toNat = 31 by omega] at eI4067
                  have e4068 : I4067 (ad g 0) 1 = w3500 := by rw [eI4067, pp_ne _ _ (Or.inl (ly_ne hy (by decide) (by decide) (by decide)))]; exact e4037
                  have e4069 : I4067 (ad g 0) 8 = w3501 := by rw [eI4067, pp_ne _ _ (Or.inl (ly_ne hy (by decide) (by decide) (by decide)))]; exact e4038
                  have e4070 : I4067 (ad g 0) 9 = w3502 := by rw [eI4067, pp_ne _ _ (Or.inl (ly_ne hy (by decide) (by decide) (by decide)))]; exact e4039
                  have e4071 : I4067 (ad g 0) 10 = w3503 := by rw [eI4067, pp_ne _ _ (Or.inl (ly_ne hy (by decide) (by decide) (by decide)))]; exact e4040
                  have e4072 : I4067 (ad g 0) 11 = w3504 := by rw [eI4067, pp_ne _ _ (Or.inl (ly_ne hy (by decide) (by decide) (by decide)))]; exact e4041
                  have e4073 : I4067 (ad g 0) 13 = w3505 := by rw [eI4067, pp_ne _ _ (Or.inl (ly_ne hy (by decide) (by decide) (by decide)))]; exact e4042
                  have e4074 : I4067 (ad g 0) 14 = w3506 := by rw [eI4067, pp_ne _ _ (Or.inl (ly_ne hy (by decide) (by decide) (by decide)))]; exact e4043
                  have e4075 : I4067 (ad g 0) 15 = w3507 := by rw [eI4067, pp_ne _ _ (Or.inl (ly_ne hy (by decide) (by decide) (by decide)))]; exact e4044
                  have e4076 : I4067 (ad g 0) 16 = w3508 := by rw [eI4067, pp_ne _ _ (Or.inl (ly_ne hy (by decide) (by decide) (by decide)))]; exact e4045
                  have e4077 : I4067 (ad g 0) 17 = w3509 := by rw [eI4067, pp_ne _ _ (Or.inl (ly_ne hy (by decide) (by decide) (by decide)))]; exact e4046
                  have e4078 : I4067 (ad g 0) 18 = w3510 := by rw [eI4067, pp_ne _ _ (Or.inl (ly_ne hy (by decide) (by decide) (by decide)))]; exact e4047
                  have e4079 : I4067 (ad g 0) 19 = w3511 := by rw [eI4067, pp_ne _ _ (Or.inl (ly_ne hy (by decide) (by decide) (by decide)))]; exact e4048
                  have e4080 : I4067 (ad g 0) 12 = w3511 := by rw [eI4067, pp_ne _ _ (Or.inl (ly_ne hy (by decide) (by decide) (by decide)))]; exact e4049
                  have e4081 : I4067 (ad g 38) 28 = v3853 := by rw [eI4067, pp_ne _ _ (Or.inr (by decide))]; exact e4050
                  have e4082 : I4067 (ad g 46) 0 = v3871 := by rw [eI4067, pp_ne _ _ (Or.inl (ly_ne hy (by decide) (by decide) (by decide)))]; exact e4051
                  have e4083 : I4067 (ad g 47) 0 = v3890 := by rw [eI4067, pp_ne _ _ (Or.inl (ly_ne hy (by decide) (by decide) (by decide)))]; exact e4052
                  have e4084 : I4067 (ad g 38) 29 = v3915 := by rw [eI4067, pp_ne _ _ (Or.inr (by decide))]; exact e4053
                  have e4085 : I4067 (ad g 46) 1 = v3936 := by rw [eI4067, pp_ne _ _ (Or.inl (ly_ne hy (by decide) (by decide) (by decide)))]; exact e4054
                  have e4086 : I4067 (ad g 47) 1 = v3958 := by rw [eI4067, pp_ne _ _ (Or.inl (ly_ne hy (by decide) (by decide) (by decide)))]; exact e4055
                  have e4087 : I4067 (ad g 38) 30 = v3986 := by rw [eI4067, pp_ne _ _ (Or.inr (by decide))]; exact e4056
                  have e4088 : I4067 (ad g 46) 2 = v4010 := by rw [eI4067, pp_ne _ _ (Or.inl (ly_ne hy (by decide) (by decide) (by decide)))]; exact e4057
                  have e4089 : I4067 (ad g 47) 2 = v4035 := by rw [eI4067, pp_ne _ _ (Or.inl (ly_ne hy (by decide) (by decide) (by decide)))]; exact e4058
                  have e4090 : I4067 (ad g 38) 31 = v4066 := by rw [eI4067, pp_self]
                  have fI4091 : FC g [0, 6, 7, 8, 9, 10, 11, 12, 13, 14, 15, 16, 17, 18, 19, 20, 21, 22, 23, 24, 25, 26, 27, 28, 29, 30, 31, 32, 33, 34, 37, 38, 44, 46, 47] I I4067 := by rw [eI4067]; exact FC_pp fI4059 (by decide)
                  have fQ4092 : FQ g [1, 2, 3, 4, 5, 6, 7, 8, 9, 10, 11, 12, 13, 14, 15, 16, 17, 18, 19, 51, 68] I I4067 := by rw [eI4067]; exact FQ_ppn (ly_ne hy (by decide) (by decide) (by decide)) fQ4060
                  refine WP_aload_n dX11_town_303 rfl ?_
                  refine WP_getr dX11_town_304 fX11_310 rfl (ly_is hy 0 11 rfl) (rf hr 0 71 46 (by decide)) ?_
                  refine WP_iload_n dX11_town_307 rfl ?_
                  refine WQ_iconst (0) (0) dX11_town_308 rfl rfl (fun v4093 hv4093 => ?_)
                  refine WE_is dX11_town_309 (ly_is hy 46 13 rfl) (ly_n hy 46 4 rfl) (by omega) (by omega) (fun I4094 eI4094 => ?_)
                  rw [show v4061.toInt.toNat = 3 by omega] at eI4094
                  have e4095 : I4094 (ad g 0) 1 = w3500 := by rw [eI4094, pp_ne _ _ (Or.inl (ly_ne hy (by decide) (by decide) (by decide)))]; exact e4068
                  have e4096 : I4094 (ad g 0) 8 = w3501 := by rw [eI4094, pp_ne _ _ (Or.inl (ly_ne hy (by decide) (by decide) (by decide)))]; exact e4069
                  have e4097 : I4094 (ad g 0) 9 = w3502 := by rw [eI4094, pp_ne _ _ (Or.inl (ly_ne hy (by decide) (by decide) (by decide)))]; exact e4070
                  have e4098 : I4094 (ad g 0) 10 = w3503 := by rw [eI4094, pp_ne _ _ (Or.inl (ly_ne hy (by decide) (by decide) (by decide)))]; exact e4071
                  have e4099 : I4094 (ad g 0) 11 = w3504 := by rw [eI4094, pp_ne _ _ (Or.inl (ly_ne hy (by decide) (by decide) (by decide)))]; exact e4072
                  have e4100 : I4094 (ad g 0) 13 = w3505 := by rw [eI4094, pp_ne _ _ (Or.inl (ly_ne hy (by decide) (by decide) (by decide)))]; exact e4073
                  have e4101 : I4094 (ad g 0) 14 = w3506 := by rw [eI4094, pp_ne _ _ (Or.inl (ly_ne hy (by decide) (by decide) (by decide)))]; exact e4074
                  have e4102 : I4094 (ad g 0) 15 = w3507 := by rw [eI4094, pp_ne _ _ (Or.inl (ly_ne hy (by decide) (by decide) (by decide)))]; exact e4075
                  have e4103 : I4094 (ad g 0) 16 = w3508 := by rw [eI4094, pp_ne _ _ (Or.inl (ly_ne hy (by decide) (by decide) (by decide)))]; exact e4076
                  have e4104 : I4094 (ad g 0) 17 = w3509 := by rw [eI4094, pp_ne _ _ (Or.inl (ly_ne hy (by decide) (by decide) (by decide)))]; exact e4077
                  have e4105 : I4094 (ad g 0) 18 = w3510 := by rw [eI4094, pp_ne _ _ (Or.inl (ly_ne hy (by decide) (by decide) (by decide)))]; exact e4078
                  have e4106 : I4094 (ad g 0) 19 = w3511 := by rw [eI4094, pp_ne _ _ (Or.inl (ly_ne hy (by decide) (by decide) (by decide)))]; exact e4079
                  have e4107 : I4094 (ad g 0) 12 = w3511 := by rw [eI4094, pp_ne _ _ (Or.inl (ly_ne hy (by decide) (by decide) (by decide)))]; exact e4080
                  have e4108 : I4094 (ad g 38) 28 = v3853 := by rw [eI4094, pp_ne _ _ (Or.inl (ly_ne hy (by decide) (by decide) (by decide)))]; exact e4081
                  have e4109 : I4094 (ad g 46) 0 = v3871 := by rw [eI4094, pp_ne _ _ (Or.inr (by decide))]; exact e4082
                  have e4110 : I4094 (ad g 47) 0 = v3890 := by rw [eI4094, pp_ne _ _ (Or.inl (ly_ne hy (by decide) (by decide) (by decide)))]; exact e4083
                  have e4111 : I4094 (ad g 38) 29 = v3915 := by rw [eI4094, pp_ne _ _ (Or.inl (ly_ne hy (by decide) (by decide) (by decide)))]; exact e4084
                  have e4112 : I4094 (ad g 46) 1 = v3936 := by rw [eI4094, pp_ne _ _ (Or.inr (by decide))]; exact e4085
                  have e4113 : I4094 (ad g 47) 1 = v3958 := by rw [eI4094, pp_ne _ _ (Or.inl (ly_ne hy (by decide) (by decide) (by decide)))]; exact e4086
                  have e4114 : I4094 (ad g 38) 30 = v3986 := by rw [eI4094, pp_ne _ _ (Or.inl (ly_ne hy (by decide) (by decide) (by decide)))]; exact e4087
                  have e4115 : I4094 (ad g 46) 2 = v4010 := by rw [eI4094, pp_ne _ _ (Or.inr (by decide))]; exact e4088
                  have e4116 : I4094 (ad g 47) 2 = v4035 := by rw [eI4094, pp_ne _ _ (Or.inl (ly_ne hy (by decide) (by decide) (by decide)))]; exact e4089
                  have e4117 : I4094 (ad g 38) 31 = v4066 := by rw [eI4094, pp_ne _ _ (Or.inl (ly_ne hy (by decide) (by decide) (by decide)))]; exact e4090
                  have e4118 : I4094 (ad g 46) 3 = v4093 := by rw [eI4094, pp_self]
                  have fI4119 : FC g [0, 6, 7, 8, 9, 10, 11, 12, 13, 14, 15, 16, 17, 18, 19, 20, 21, 22, 23, 24, 25, 26, 27, 28, 29, 30, 31, 32, 33, 34, 37, 38, 44, 46, 47] I I4094 := by rw [eI4094]; exact FC_pp fI4091 (by decide)
                  have fQ4120 : FQ g [1, 2, 3, 4, 5, 6, 7, 8, 9, 10, 11, 12, 13, 14, 15, 16, 17, 18, 19, 51, 68] I I4094 := by rw [eI4094]; exact FQ_ppn (ly_ne hy (by decide) (by decide) (by decide)) fQ4092
                  refine WP_aload_n dX11_town_310 rfl ?_
                  refine WP_getr dX11_town_311 fX11_313 rfl (ly_is hy 0 11 rfl) (rf hr 0 72 47 (by decide)) ?_
                  refine WP_iload_n dX11_town_314 rfl ?_
                  refine WQ_iconst (0) (0) dX11_town_315 rfl rfl (fun v4121 hv4121 => ?_)
                  refine WE_is dX11_town_316 (ly_is hy 47 13 rfl) (ly_n hy 47 4 rfl) (by omega) (by omega) (fun I4122 eI4122 => ?_)
                  rw [show v4061.toInt.toNat = 3 by omega] at eI4122
                  have e4123 : I4122 (ad g 0) 1 = w3500 := by rw [eI4122, pp_ne _ _ (Or.inl (ly_ne hy (by decide) (by decide) (by decide)))]; exact e4095
                  have e4124 : I4122 (ad g 0) 8 = w3501 := by rw [eI4122, pp_ne _ _ (Or.inl (ly_ne hy (by decide) (by decide) (by decide)))]; exact e4096
                  have e4125 : I4122 (ad g 0) 9 = w3502 := by rw [eI4122, pp_ne _ _ (Or.inl (ly_ne hy (by decide) (by decide) (by decide)))]; exact e4097
                  have e4126 : I4122 (ad g 0) 10 = w3503 := by rw [eI4122, pp_ne _ _ (Or.inl (ly_ne hy (by decide) (by decide) (by decide)))]; exact e4098
                  have e4127 : I4122 (ad g 0) 11 = w3504 := by rw [eI4122, pp_ne _ _ (Or.inl (ly_ne hy (by decide) (by decide) (by decide)))]; exact e4099
                  have e4128 : I4122 (ad g 0) 13 = w3505 := by rw [eI4122, pp_ne _ _ (Or.inl (ly_ne hy (by decide) (by decide) (by decide)))]; exact e4100
                  have e4129 : I4122 (ad g 0) 14 = w3506 := by rw [eI4122, pp_ne _ _ (Or.inl (ly_ne hy (by decide) (by decide) (by decide)))]; exact e4101
                  have e4130 : I4122 (ad g 0) 15 = w3507 := by rw [eI4122, pp_ne _ _ (Or.inl (ly_ne hy (by decide) (by decide) (by decide)))]; exact e4102
                  have e4131 : I4122 (ad g 0) 16 = w3508 := by rw [eI4122, pp_ne _ _ (Or.inl (ly_ne hy (by decide) (by decide) (by decide)))]; exact e4103
                  have e4132 : I4122 (ad g 0) 17 = w3509 := by rw [eI4122, pp_ne _ _ (Or.inl (ly_ne hy (by decide) (by decide) (by decide)))]; exact e4104
                  have e4133 : I4122 (ad g 0) 18 = w3510 := by rw [eI4122, pp_ne _ _ (Or.inl (ly_ne hy (by decide) (by decide) (by decide)))]; exact e4105
                  have e4134 : I4122 (ad g 0) 19 = w3511 := by rw [eI4122, pp_ne _ _ (Or.inl (ly_ne hy (by decide) (by decide) (by decide)))]; exact e4106
                  have e4135 : I4122 (ad g 0) 12 = w3511 := by rw [eI4122, pp_ne _ _ (Or.inl (ly_ne hy (by decide) (by decide) (by decide)))]; exact e4107
                  have e4136 : I4122 (ad g 38) 28 = v3853 := by rw [eI4122, pp_ne _ _ (Or.inl (ly_ne hy (by decide) (by decide) (by decide)))]; exact e4108
                  have e4137 : I4122 (ad g 46) 0 = v3871 := by rw [eI4122, pp_ne _ _ (Or.inl (ly_ne hy (by decide) (by decide) (by decide)))]; exact e4109
                  have e4138 : I4122 (ad g 47) 0 = v3890 := by rw [eI4122, pp_ne _ _ (Or.inr (by decide))]; exact e4110
                  have e4139 : I4122 (ad g 38) 29 = v3915 := by rw [eI4122, pp_ne _ _ (Or.inl (ly_ne hy (by decide) (by decide) (by decide)))]; exact e4111
                  have e4140 : I4122 (ad g 46) 1 = v3936 := by rw [eI4122, pp_ne _ _ (Or.inl (ly_ne hy (by decide) (by decide) (by decide)))]; exact e4112
                  have e4141 : I4122 (ad g 47) 1 = v3958 := by rw [eI4122, pp_ne _ _ (Or.inr (by decide))]; exact e4113
                  have e4142 : I4122 (ad g 38) 30 = v3986 := by rw [eI4122, pp_ne _ _ (Or.inl (ly_ne hy (by decide) (by decide) (by decide)))]; exact e4114
                  have e4143 : I4122 (ad g 46) 2 = v4010 := by rw [eI4122, pp_ne _ _ (Or.inl (ly_ne hy (by decide) (by decide) (by decide)))]; exact e4115
                  have e4144 : I4122 (ad g 47) 2 = v4035 := by rw [eI4122, pp_ne _ _ (Or.inr (by decide))]; exact e4116
                  have e4145 : I4122 (ad g 38) 31 = v4066 := by rw [eI4122, pp_ne _ _ (Or.inl (ly_ne hy (by decide) (by decide) (by decide)))]; exact e4117
                  have e4146 : I4122 (ad g 46) 3 = v4093 := by rw [eI4122, pp_ne _ _ (Or.inl (ly_ne hy (by decide) (by decide) (by decide)))]; exact e4118
                  have e4147 : I4122 (ad g 47) 3 = v4121 := by rw [eI4122, pp_self]
                  have fI4148 : FC g [0, 6, 7, 8, 9, 10, 11, 12, 13, 14, 15, 16, 17, 18, 19, 20, 21, 22, 23, 24, 25, 26, 27, 28, 29, 30, 31, 32, 33, 34, 37, 38, 44, 46, 47] I I4122 := by rw [eI4122]; exact FC_pp fI4119 (by decide)
                  have fQ4149 : FQ g [1, 2, 3, 4, 5, 6, 7, 8, 9, 10, 11, 12, 13, 14, 15, 16, 17, 18, 19, 51, 68] I I4122 := by rw [eI4122]; exact FQ_ppn (ly_ne hy (by decide) (by decide) (by decide)) fQ4120
                  refine WP_iinc (ls' := [(0, _), (1, _)]) dX11_town_317 rfl (by decide) rfl ?_
                  have hv4150 : (v4061 + Int32.ofInt (1)).toInt = v4061.toInt + (1) := ia_n rfl (by omega) (by omega)
                  generalize v4061 + Int32.ofInt (1) = v4150 at hv4150 ⊢
                  have kv4150 : v4150.toInt = 4 := by omega
                  clear hv4150; have hv4150 := kv4150; clear kv4150
                  refine WP_goto 288 dX11_town_320 rfl ?_
                  refine WP_iload_n dX11_town_288 rfl ?_
                  refine WQ_iconst (4) (4) dX11_town_289 rfl rfl (fun v4151 hv4151 => ?_)
                  refine WQ_icmp_ge 323 dX11_town_290 rfl (fun c4151 => ?_) (fun c4151 => False.elim (by omega))
                  have d10b : ∀ q, q < 4 → I4122 (ad g 10) q = I3430 (ad g 16) q := fun q hq => by rw [eI4122, pp_off _ _ (ly_ne hy (by decide) (by decide) (by decide)), eI4094, pp_off _ _ (ly_ne hy (by decide) (by decide) (by decide)), eI4067, pp_off _ _ (ly_ne hy (by decide) (by decide) (by decide)), eI4036, pp_off _ _ (ly_ne hy (by decide) (by decide) (by decide)), eI4011, pp_off _ _ (ly_ne hy (by decide) (by decide) (by decide)), eI3987, pp_off _ _ (ly_ne hy (by decide) (by decide) (by decide)), eI3959, pp_off _ _ (ly_ne hy (by decide) (by decide) (by decide)), eI3937, pp_off _ _ (ly_ne hy (by decide) (by decide) (by decide)), eI3916, pp_off _ _ (ly_ne hy (by decide) (by decide) (by decide)), eI3891, pp_off _ _ (ly_ne hy (by decide) (by decide) (by decide)), eI3872, pp_off _ _ (ly_ne hy (by decide) (by decide) (by decide)), eI3854, pp_off _ _ (ly_ne hy (by decide) (by decide) (by decide)), FC_at hy g3829 10 (by decide) (by decide), FC_at hy g3807 10 (by decide) (by decide), FC_at hy g3785 10 (by decide) (by decide), FC_at hy g3763 10 (by decide) (by decide), FC_at hy g3741 10 (by decide) (by decide), FC_at hy g3719 10 (by decide) (by decide), FC_at hy g3697 10 (by decide) (by decide), FC_at hy g3675 10 (by decide) (by decide), FC_at hy g3653 10 (by decide) (by decide), FC_at hy g3631 10 (by decide) (by decide)]; exact d10 q hq
                  refine WP_aload_n dX11_town_323 rfl ?_
                  refine WP_aload_n dX11_town_324 rfl ?_
                  refine WP_getr dX11_town_325 fX11_283 rfl (ly_is hy 0 11 rfl) (rf hr 0 59 38 (by decide)) ?_
                  refine WP_callV1 (k := 11) dX11_town_328 ⟨⟨⟨by decide, by decide⟩, zX11_begin⟩, lX11_342, by decide, rfl, vX11_begin.1, vX11_begin.2⟩ (ly_is hy 0 11 rfl) (em_begin38 hy hr   (mm := S2.1 0 1) (by rw [e4126]; omega) ⟨hb1, hb2⟩) (Nat.le_of_ble_eq_true rfl) ?_
                  intro r I4154 J4155 Ra hq
                  obtain ⟨ec, g4156, g4157, g4158, er, p4153⟩ := hq
                  rw [ec, er]
                  clear ec er Ra r
                  have e4159 : I4154 (ad g 0) 1 = w3500 := by rw [FC_at hy g4156 0 (by decide) (by decide)]; exact e4123
                  have e4160 : I4154 (ad g 0) 8 = w3501 := by rw [FC_at hy g4156 0 (by decide) (by decide)]; exact e4124
                  have e4161 : I4154 (ad g 0) 9 = w3502 := by rw [FC_at hy g4156 0 (by decide) (by decide)]; exact e4125
                  have e4162 : I4154 (ad g 0) 10 = w3503 := by rw [FC_at hy g4156 0 (by decide) (by decide)]; exact e4126
                  have e4163 : I4154 (ad g 0) 11 = w3504 := by rw [FC_at hy g4156 0 (by decide) (by decide)]; exact e4127
                  have e4164 : I4154 (ad g 0) 13 = w3505 := by rw [FC_at hy g4156 0 (by decide) (by decide)]; exact e4128
                  have e4165 : I4154 (ad g 0) 14 = w3506 := by rw [FC_at hy g4156 0 (by decide) (by decide)]; exact e4129
                  have e4166 : I4154 (ad g 0) 15 = w3507 := by rw [FC_at hy g4156 0 (by decide) (by decide)]; exact e4130
                  have e4167 : I4154 (ad g 0) 16 = w3508 := by rw [FC_at hy g4156 0 (by decide) (by decide)]; exact e4131
                  have e4168 : I4154 (ad g 0) 17 = w3509 := by rw [FC_at hy g4156 0 (by decide) (by decide)]; exact e4132
                  have e4169 : I4154 (ad g 0) 18 = w3510 := by rw [FC_at hy g4156 0 (by decide) (by decide)]; exact e4133
                  have e4170 : I4154 (ad g 0) 19 = w3511 := by rw [FC_at hy g4156 0 (by decide) (by decide)]; exact e4134
                  have e4171 : I4154 (ad g 0) 12 = w3511 := by rw [FC_at hy g4156 0 (by decide) (by decide)]; exact e4135
                  have e4172 : I4154 (ad g 46) 0 = v3871 := by rw [FC_at hy g4156 46 (by decide) (by decide)]; exact e4137
                  have e4173 : I4154 (ad g 47) 0 = v3890 := by rw [FC_at hy g4156 47 (by decide) (by decide)]; exact e4138
                  have e4174 : I4154 (ad g 46) 1 = v3936 := by rw [FC_at hy g4156 46 (by decide) (by decide)]; exact e4140
                  have e4175 : I4154 (ad g 47) 1 = v3958 := by rw [FC_at hy g4156 47 (by decide) (by decide)]; exact e4141
                  have e4176 : I4154 (ad g 46) 2 = v4010 := by rw [FC_at hy g4156 46 (by decide) (by decide)]; exact e4143
                  have e4177 : I4154 (ad g 47) 2 = v4035 := by rw [FC_at hy g4156 47 (by decide) (by decide)]; exact e4144
                  have e4178 : I4154 (ad g 46) 3 = v4093 := by rw [FC_at hy g4156 46 (by decide) (by decide)]; exact e4146
                  have e4179 : I4154 (ad g 47) 3 = v4121 := by rw [FC_at hy g4156 47 (by decide) (by decide)]; exact e4147
                  have fI4180 : FC g [0, 6, 7, 8, 9, 10, 11, 12, 13, 14, 15, 16, 17, 18, 19, 20, 21, 22, 23, 24, 25, 26, 27, 28, 29, 30, 31, 32, 33, 34, 37, 38, 44, 46, 47] I I4154 := FC_tr fI4148 (FC_mono g4156 (by decide))
                  have fJ4181 : FC g [0, 2, 3, 4, 5] J J4155 := FC_tr fJ3846 (FC_mono g4157 (by decide))
                  have fQ4182 : FQ g [1, 2, 3, 4, 5, 6, 7, 8, 9, 10, 11, 12, 13, 14, 15, 16, 17, 18, 19, 51, 68] I I4154 := FQ_tr fQ4149 (FQ_mono g4158 (by decide))
                  try simp only [e4159, e4160, e4161, e4162, e4163, e4164, e4165, e4166, e4167, e4168, e4169, e4170, ew3395, ew3396, ew3397, ew3398, ew3399, ew3400, ew3401, ew3402, ew3403, ew3404, ew3405, ew3406] at p4153
                  refine WP_aload_n dX11_town_331 rfl ?_
                  refine WP_lconst (0) dX11_town_332 rfl ?_
                  obtain ⟨l4183, hl4183, el4183⟩ : ∃ v : Int64, v.toInt = 0 ∧ (0 : Int64) = v := ⟨_, rfl, rfl⟩
                  rw [el4183]
                  refine WQ_putl dX11_town_333 fX11_346 rfl rfl (ly_is hy 0 11 rfl) (fun J4184 eJ4184 => ?_)
                  have e4185 : J4184 (ad g 0) 61 = l4183 := by rw [eJ4184, pp_self]
                  have fJ4186 : FC g [0, 2, 3, 4, 5] J J4184 := by rw [eJ4184]; exact FC_pp fJ4181 (by decide)
                  refine WP_aload_n dX11_town_336 rfl ?_
                  refine WP_callV0 (k := 11) dX11_town_337 ⟨⟨⟨by decide, by decide⟩, zX11_forgetWeeks⟩, lX11_350, by decide, rfl, vX11_forgetWeeks.1, vX11_forgetWeeks.2⟩ (ly_is hy 0 11 rfl) (em_forgetWeeks hy hr   ) (Nat.le_of_ble_eq_true rfl) ?_
                  intro r I4188 J4189 Ra hq
                  obtain ⟨ec, g4190, g4191, g4192, er, p4187⟩ := hq
                  rw [ec, er]
                  clear ec er Ra r
                  have e4193 : I4188 (ad g 0) 1 = w3500 := by rw [FC_at hy g4190 0 (by decide) (by decide)]; exact e4159
                  have e4194 : I4188 (ad g 0) 8 = w3501 := by rw [FC_at hy g4190 0 (by decide) (by decide)]; exact e4160
                  have e4195 : I4188 (ad g 0) 9 = w3502 := by rw [FC_at hy g4190 0 (by decide) (by decide)]; exact e4161
                  have e4196 : I4188 (ad g 0) 10 = w3503 := by rw [FC_at hy g4190 0 (by decide) (by decide)]; exact e4162
                  have e4197 : I4188 (ad g 0) 11 = w3504 := by rw [FC_at hy g4190 0 (by decide) (by decide)]; exact e4163
                  have e4198 : I4188 (ad g 0) 13 = w3505 := by rw [FC_at hy g4190 0 (by decide) (by decide)]; exact e4164
                  have e4199 : I4188 (ad g 0) 14 = w3506 := by rw [FC_at hy g4190 0 (by decide) (by decide)]; exact e4165
                  have e4200 : I4188 (ad g 0) 15 = w3507 := by rw [FC_at hy g4190 0 (by decide) (by decide)]; exact e4166
                  have e4201 : I4188 (ad g 0) 16 = w3508 := by rw [FC_at hy g4190 0 (by decide) (by decide)]; exact e4167
                  have e4202 : I4188 (ad g 0) 17 = w3509 := by rw [FC_at hy g4190 0 (by decide) (by decide)]; exact e4168
                  have e4203 : I4188 (ad g 0) 18 = w3510 := by rw [FC_at hy g4190 0 (by decide) (by decide)]; exact e4169
                  have e4204 : I4188 (ad g 0) 19 = w3511 := by rw [FC_at hy g4190 0 (by decide) (by decide)]; exact e4170
                  have e4205 : I4188 (ad g 0) 12 = w3511 := by rw [FC_at hy g4190 0 (by decide) (by decide)]; exact e4171
                  have e4206 : I4188 (ad g 46) 0 = v3871 := by rw [FC_at hy g4190 46 (by decide) (by decide)]; exact e4172
                  have e4207 : I4188 (ad g 47) 0 = v3890 := by rw [FC_at hy g4190 47 (by decide) (by decide)]; exact e4173
                  have e4208 : I4188 (ad g 46) 1 = v3936 := by rw [FC_at hy g4190 46 (by decide) (by decide)]; exact e4174
                  have e4209 : I4188 (ad g 47) 1 = v3958 := by rw [FC_at hy g4190 47 (by decide) (by decide)]; exact e4175
                  have e4210 : I4188 (ad g 46) 2 = v4010 := by rw [FC_at hy g4190 46 (by decide) (by decide)]; exact e4176
                  have e4211 : I4188 (ad g 47) 2 = v4035 := by rw [FC_at hy g4190 47 (by decide) (by decide)]; exact e4177
                  have e4212 : I4188 (ad g 46) 3 = v4093 := by rw [FC_at hy g4190 46 (by decide) (by decide)]; exact e4178
                  have e4213 : I4188 (ad g 47) 3 = v4121 := by rw [FC_at hy g4190 47 (by decide) (by decide)]; exact e4179
                  have e4214 : J4189 (ad g 0) 61 = l4183 := by rw [FC_at hy g4191 0 (by decide) (by decide)]; exact e4185
                  have fI4215 : FC g [0, 6, 7, 8, 9, 10, 11, 12, 13, 14, 15, 16, 17, 18, 19, 20, 21, 22, 23, 24, 25, 26, 27, 28, 29, 30, 31, 32, 33, 34, 37, 38, 44, 46, 47] I I4188 := FC_tr fI4180 (FC_mono g4190 (by decide))
                  have fJ4216 : FC g [0, 2, 3, 4, 5] J J4189 := FC_tr fJ4186 (FC_mono g4191 (by decide))
                  have fQ4217 : FQ g [1, 2, 3, 4, 5, 6, 7, 8, 9, 10, 11, 12, 13, 14, 15, 16, 17, 18, 19, 51, 68] I I4188 := FQ_tr fQ4182 (FQ_mono g4192 (by decide))
                  try simp only [e4193, e4194, e4195, e4196, e4197, e4198, e4199, e4200, e4201, e4202, e4203, e4204, ew3395, ew3396, ew3397, ew3398, ew3399, ew3400, ew3401, ew3402, ew3403, ew3404, ew3405, ew3406] at p4187
                  refine WQ_iconst (0) (0) dX11_town_340 rfl rfl (fun v4218 hv4218 => ?_)
                  refine WP_istore_n (ls' := [(0, _), (1, _)]) dX11_town_341 (by decide) rfl ?_
                  refine WP_iload_n dX11_town_342 rfl ?_
                  refine WQ_iconst (3) (3) dX11_town_343 rfl rfl (fun v4219 hv4219 => ?_)
                  refine WQ_icmp_ge 360 dX11_town_344 rfl (fun c4219 => False.elim (by omega)) (fun c4219 => ?_)
                  refine WP_aload_n dX11_town_347 rfl ?_
                  refine WP_getr dX11_town_348 fX11_301 rfl (ly_is hy 0 11 rfl) (rf hr 0 67 44 (by decide)) ?_
                  refine WP_iload_n dX11_town_351 rfl ?_
                  refine WQ_iconst (0) (0) dX11_town_352 rfl rfl (fun v4221 hv4221 => ?_)
                  refine WE_zs dX11_town_353 (ly_is hy 44 15 rfl) (ly_n hy 44 3 rfl) (by omega) (by omega) (fun I4222 eI4222 => ?_)
                  rw [show v4218.toInt.toNat = 0 by omega] at eI4222
                  have e4223 : I4222 (ad g 0) 1 = w3500 := by rw [eI4222, pp_ne _ _ (Or.inl (ly_ne hy (by decide) (by decide) (by decide)))]; exact e4193
                  have e4224 : I4222 (ad g 0) 8 = w3501 := by rw [eI4222, pp_ne _ _ (Or.inl (ly_ne hy (by decide) (by decide) (by decide)))]; exact e4194
                  have e4225 : I4222 (ad g 0) 9 = w3502 := by rw [eI4222, pp_ne _ _ (Or.inl (ly_ne hy (by decide) (by decide) (by decide)))]; exact e4195
                  have e4226 : I4222 (ad g 0) 10 = w3503 := by rw [eI4222, pp_ne _ _ (Or.inl (ly_ne hy (by decide) (by decide) (by decide)))]; exact e4196
                  have e4227 : I4222 (ad g 0) 11 = w3504 := by rw [eI4222, pp_ne _ _ (Or.inl (ly_ne hy (by decide) (by decide) (by decide)))]; exact e4197
                  have e4228 : I4222 (ad g 0) 13 = w3505 := by rw [eI4222, pp_ne _ _ (Or.inl (ly_ne hy (by decide) (by decide) (by decide)))]; exact e4198
                  have e4229 : I4222 (ad g 0) 14 = w3506 := by rw [eI4222, pp_ne _ _ (Or.inl (ly_ne hy (by decide) (by decide) (by decide)))]; exact e4199
                  have e4230 : I4222 (ad g 0) 15 = w3507 := by rw [eI4222, pp_ne _ _ (Or.inl (ly_ne hy (by decide) (by decide) (by decide)))]; exact e4200
                  have e4231 : I4222 (ad g 0) 16 = w3508 := by rw [eI4222, pp_ne _ _ (Or.inl (ly_ne hy (by decide) (by decide) (by decide)))]; exact e4201
                  have e4232 : I4222 (ad g 0) 17 = w3509 := by rw [eI4222, pp_ne _ _ (Or.inl (ly_ne hy (by decide) (by decide) (by decide)))]; exact e4202
                  have e4233 : I4222 (ad g 0) 18 = w3510 := by rw [eI4222, pp_ne _ _ (Or.inl (ly_ne hy (by decide) (by decide) (by decide)))]; exact e4203
                  have e4234 : I4222 (ad g 0) 19 = w3511 := by rw [eI4222, pp_ne _ _ (Or.inl (ly_ne hy (by decide) (by decide) (by decide)))]; exact e4204
                  have e4235 : I4222 (ad g 0) 12 = w3511 := by rw [eI4222, pp_ne _ _ (Or.inl (ly_ne hy (by decide) (by decide) (by decide)))]; exact e4205
                  have e4236 : I4222 (ad g 46) 0 = v3871 := by rw [eI4222, pp_ne _ _ (Or.inl (ly_ne hy (by decide) (by decide) (by decide)))]; exact e4206
                  have e4237 : I4222 (ad g 47) 0 = v3890 := by rw [eI4222, pp_ne _ _ (Or.inl (ly_ne hy (by decide) (by decide) (by decide)))]; exact e4207
                  have e4238 : I4222 (ad g 46) 1 = v3936 := by rw [eI4222, pp_ne _ _ (Or.inl (ly_ne hy (by decide) (by decide) (by decide)))]; exact e4208
                  have e4239 : I4222 (ad g 47) 1 = v3958 := by rw [eI4222, pp_ne _ _ (Or.inl (ly_ne hy (by decide) (by decide) (by decide)))]; exact e4209
                  have e4240 : I4222 (ad g 46) 2 = v4010 := by rw [eI4222, pp_ne _ _ (Or.inl (ly_ne hy (by decide) (by decide) (by decide)))]; exact e4210
                  have e4241 : I4222 (ad g 47) 2 = v4035 := by rw [eI4222, pp_ne _ _ (Or.inl (ly_ne hy (by decide) (by decide) (by decide)))]; exact e4211
                  have e4242 : I4222 (ad g 46) 3 = v4093 := by rw [eI4222, pp_ne _ _ (Or.inl (ly_ne hy (by decide) (by decide) (by decide)))]; exact e4212
                  have e4243 : I4222 (ad g 47) 3 = v4121 := by rw [eI4222, pp_ne _ _ (Or.inl (ly_ne hy (by decide) (by decide) (by decide)))]; exact e4213
                  have e4244 : I4222 (ad g 44) 0 = (vp_nar .boolean v4221) := by rw [eI4222, pp_self]
                  have fI4245 : FC g [0, 6, 7, 8, 9, 10, 11, 12, 13, 14, 15, 16, 17, 18, 19, 20, 21, 22, 23, 24, 25, 26, 27, 28, 29, 30, 31, 32, 33, 34, 37, 38, 44, 46, 47] I I4222 := by rw [eI4222]; exact FC_pp fI4215 (by decide)
                  have fQ4246 : FQ g [1, 2, 3, 4, 5, 6, 7, 8, 9, 10, 11, 12, 13, 14, 15, 16, 17, 18, 19, 51, 68] I I4222 := by rw [eI4222]; exact FQ_ppn (ly_ne hy (by decide) (by decide) (by decide)) fQ4217
                  refine WP_iinc (ls' := [(0, _), (1, _)]) dX11_town_354 rfl (by decide) rfl ?_
                  have hv4247 : (v4218 + Int32.ofInt (1)).toInt = v4218.toInt + (1) := ia_n rfl (by omega) (by omega)
                  generalize v4218 + Int32.ofInt (1) = v4247 at hv4247 ⊢
                  have kv4247 : v4247.toInt = 1 := by omega
                  clear hv4247; have hv4247 := kv4247; clear kv4247
                  refine WP_goto 342 dX11_town_357 rfl ?_
                  refine WP_iload_n dX11_town_342 rfl ?_
                  refine WQ_iconst (3) (3) dX11_town_343 rfl rfl (fun v4248 hv4248 => ?_)
                  refine WQ_icmp_ge 360 dX11_town_344 rfl (fun c4248 => False.elim (by omega)) (fun c4248 => ?_)
                  refine WP_aload_n dX11_town_347 rfl ?_
                  refine WP_getr dX11_town_348 fX11_301 rfl (ly_is hy 0 11 rfl) (rf hr 0 67 44 (by decide)) ?_
                  refine WP_iload_n dX11_town_351 rfl ?_
                  refine WQ_iconst (0) (0) dX11_town_352 rfl rfl (fun v4250 hv4250 => ?_)
                  refine WE_zs dX11_town_353 (ly_is hy 44 15 rfl) (ly_n hy 44 3 rfl) (by omega) (by omega) (fun I4251 eI4251 => ?_)
                  rw [show v4247.toInt.toNat = 1 by omega] at eI4251
                  have e4252 : I4251 (ad g 0) 1 = w3500 := by rw [eI4251, pp_ne _ _ (Or.inl (ly_ne hy (by decide) (by decide) (by decide)))]; exact e4223
                  have e4253 : I4251 (ad g 0) 8 = w3501 := by rw [eI4251, pp_ne _ _ (Or.inl (ly_ne hy (by decide) (by decide) (by decide)))]; exact e4224
                  have e4254 : I4251 (ad g 0) 9 = w3502 := by rw [eI4251, pp_ne _ _ (Or.inl (ly_ne hy (by decide) (by decide) (by decide)))]; exact e4225
                  have e4255 : I4251 (ad g 0) 10 = w3503 := by rw [eI4251, pp_ne _ _ (Or.inl (ly_ne hy (by decide) (by decide) (by decide)))]; exact e4226
                  have e4256 : I4251 (ad g 0) 11 = w3504 := by rw [eI4251, pp_ne _ _ (Or.inl (ly_ne hy (by decide) (by decide) (by decide)))]; exact e4227
                  have e4257 : I4251 (ad g 0) 13 = w3505 := by rw [eI4251, pp_ne _ _ (Or.inl (ly_ne hy (by decide) (by decide) (by decide)))]; exact e4228
                  have e4258 : I4251 (ad g 0) 14 = w3506 := by rw [eI4251, pp_ne _ _ (Or.inl (ly_ne hy (by decide) (by decide) (by decide)))]; exact e4229
                  have e4259 : I4251 (ad g 0) 15 = w3507 := by rw [eI4251, pp_ne _ _ (Or.inl (ly_ne hy (by decide) (by decide) (by decide)))]; exact e4230
                  have e4260 : I4251 (ad g 0) 16 = w3508 := by rw [eI4251, pp_ne _ _ (Or.inl (ly_ne hy (by decide) (by decide) (by decide)))]; exact e4231
                  have e4261 : I4251 (ad g 0) 17 = w3509 := by rw [eI4251, pp_ne _ _ (Or.inl (ly_ne hy (by decide) (by decide) (by decide)))]; exact e4232
                  have e4262 : I4251 (ad g 0) 18 = w3510 := by rw [eI4251, pp_ne _ _ (Or.inl (ly_ne hy (by decide) (by decide) (by decide)))]; exact e4233
                  have e4263 : I4251 (ad g 0) 19 = w3511 := by rw [eI4251, pp_ne _ _ (Or.inl (ly_ne hy (by decide) (by decide) (by decide)))]; exact e4234
                  have e4264 : I4251 (ad g 0) 12 = w3511 := by rw [eI4251, pp_ne _ _ (Or.inl (ly_ne hy (by decide) (by decide) (by decide)))]; exact e4235
                  have e4265 : I4251 (ad g 46) 0 = v3871 := by rw [eI4251, pp_ne _ _ (Or.inl (ly_ne hy (by decide) (by decide) (by decide)))]; exact e4236
                  have e4266 : I4251 (ad g 47) 0 = v3890 := by rw [eI4251, pp_ne _ _ (Or.inl (ly_ne hy (by decide) (by decide) (by decide)))]; exact e4237
                  have e4267 : I4251 (ad g 46) 1 = v3936 := by rw [eI4251, pp_ne _ _ (Or.inl (ly_ne hy (by decide) (by decide) (by decide)))]; exact e4238
                  have e4268 : I4251 (ad g 47) 1 = v3958 := by rw [eI4251, pp_ne _ _ (Or.inl (ly_ne hy (by decide) (by decide) (by decide)))]; exact e4239
                  have e4269 : I4251 (ad g 46) 2 = v4010 := by rw [eI4251, pp_ne _ _ (Or.inl (ly_ne hy (by decide) (by decide) (by decide)))]; exact e4240
                  have e4270 : I4251 (ad g 47) 2 = v4035 := by rw [eI4251, pp_ne _ _ (Or.inl (ly_ne hy (by decide) (by decide) (by decide)))]; exact e4241
                  have e4271 : I4251 (ad g 46) 3 = v4093 := by rw [eI4251, pp_ne _ _ (Or.inl (ly_ne hy (by decide) (by decide) (by decide)))]; exact e4242
                  have e4272 : I4251 (ad g 47) 3 = v4121 := by rw [eI4251, pp_ne _ _ (Or.inl (ly_ne hy (by decide) (by decide) (by decide)))]; exact e4243
                  have e4273 : I4251 (ad g 44) 0 = (vp_nar .boolean v4221) := by rw [eI4251, pp_ne _ _ (Or.inr (by decide))]; exact e4244
                  have e4274 : I4251 (ad g 44) 1 = (vp_nar .boolean v4250) := by rw [eI4251, pp_self]
                  have fI4275 : FC g [0, 6, 7, 8, 9, 10, 11, 12, 13, 14, 15, 16, 17, 18, 19, 20, 21, 22, 23, 24, 25, 26, 27, 28, 29, 30, 31, 32, 33, 34, 37, 38, 44, 46, 47] I I4251 := by rw [eI4251]; exact FC_pp fI4245 (by decide)
                  have fQ4276 : FQ g [1, 2, 3, 4, 5, 6, 7, 8, 9, 10, 11, 12, 13, 14, 15, 16, 17, 18, 19, 51, 68] I I4251 := by rw [eI4251]; exact FQ_ppn (ly_ne hy (by decide) (by decide) (by decide)) fQ4246
                  refine WP_iinc (ls' := [(0, _), (1, _)]) dX11_town_354 rfl (by decide) rfl ?_
                  have hv4277 : (v4247 + Int32.ofInt (1)).toInt = v4247.toInt + (1) := ia_n rfl (by omega) (by omega)
                  generalize v4247 + Int32.ofInt (1) = v4277 at hv4277 ⊢
                  have kv4277 : v4277.toInt = 2 := by omega
                  clear hv4277; have hv4277 := kv4277; clear kv4277
                  refine WP_goto 342 dX11_town_357 rfl ?_
                  refine WP_iload_n dX11_town_342 rfl ?_
                  refine WQ_iconst (3) (3) dX11_town_343 rfl rfl (fun v4278 hv4278 => ?_)
                  refine WQ_icmp_ge 360 dX11_town_344 rfl (fun c4278 => False.elim (by omega)) (fun c4278 => ?_)
                  refine WP_aload_n dX11_town_347 rfl ?_
                  refine WP_getr dX11_town_348 fX11_301 rfl (ly_is hy 0 11 rfl) (rf hr 0 67 44 (by decide)) ?_
                  refine WP_iload_n dX11_town_351 rfl ?_
                  refine WQ_iconst (0) (0) dX11_town_352 rfl rfl (fun v4280 hv4280 => ?_)
                  refine WE_zs dX11_town_353 (ly_is hy 44 15 rfl) (ly_n hy 44 3 rfl) (by omega) (by omega) (fun I4281 eI4281 => ?_)
                  rw [show v4277.toInt.toNat = 2 by omega] at eI4281
                  have e4282 : I4281 (ad g 0) 1 = w3500 := by rw [eI4281, pp_ne _ _ (Or.inl (ly_ne hy (by decide) (by decide) (by decide)))]; exact e4252
                  have e4283 : I4281 (ad g 0) 8 = w3501 := by rw [eI4281, pp_ne _ _ (Or.inl (ly_ne hy (by decide) (by decide) (by decide)))]; exact e4253
                  have e4284 : I4281 (ad g 0) 9 = w3502 := by rw [eI4281, pp_ne _ _ (Or.inl (ly_ne hy (by decide) (by decide) (by decide)))]; exact e4254
                  have e4285 : I4281 (ad g 0) 10 = w3503 := by rw [eI4281, pp_ne _ _ (Or.inl (ly_ne hy (by decide) (by decide) (by decide)))]; exact e4255
                  have e4286 : I4281 (ad g 0) 11 = w3504 := by rw [eI4281, pp_ne _ _ (Or.inl (ly_ne hy (by decide) (by decide) (by decide)))]; exact e4256
                  have e4287 : I4281 (ad g 0) 13 = w3505 := by rw [eI4281, pp_ne _ _ (Or.inl (ly_ne hy (by decide) (by decide) (by decide)))]; exact e4257
                  have e4288 : I4281 (ad g 0) 14 = w3506 := by rw [eI4281, pp_ne _ _ (Or.inl (ly_ne hy (by decide) (by decide) (by decide)))]; exact e4258
                  have e4289 : I4281 (ad g 0) 15 = w3507 := by rw [eI4281, pp_ne _ _ (Or.inl (ly_ne hy (by decide) (by decide) (by decide)))]; exact e4259
                  have e4290 : I4281 (ad g 0) 16 = w3508 := by rw [eI4281, pp_ne _ _ (Or.inl (ly_ne hy (by decide) (by decide) (by decide)))]; exact e4260
                  have e4291 : I4281 (ad g 0) 17 = w3509 := by rw [eI4281, pp_ne _ _ (Or.inl (ly_ne hy (by decide) (by decide) (by decide)))]; exact e4261
                  have e4292 : I4281 (ad g 0) 18 = w3510 := by rw [eI4281, pp_ne _ _ (Or.inl (ly_ne hy (by decide) (by decide) (by decide)))]; exact e4262
                  have e4293 : I4281 (ad g 0) 19 = w3511 := by rw [eI4281, pp_ne _ _ (Or.inl (ly_ne hy (by decide) (by decide) (by decide)))]; exact e4263
                  have e4294 : I4281 (ad g 0) 12 = w3511 := by rw [eI4281, pp_ne _ _ (Or.inl (ly_ne hy (by decide) (by decide) (by decide)))]; exact e4264
                  have e4295 : I4281 (ad g 46) 0 = v3871 := by rw [eI4281, pp_ne _ _ (Or.inl (ly_ne hy (by decide) (by decide) (by decide)))]; exact e4265
                  have e4296 : I4281 (ad g 47) 0 = v3890 := by rw [eI4281, pp_ne _ _ (Or.inl (ly_ne hy (by decide) (by decide) (by decide)))]; exact e4266
                  have e4297 : I4281 (ad g 46) 1 = v3936 := by rw [eI4281, pp_ne _ _ (Or.inl (ly_ne hy (by decide) (by decide) (by decide)))]; exact e4267
                  have e4298 : I4281 (ad g 47) 1 = v3958 := by rw [eI4281, pp_ne _ _ (Or.inl (ly_ne hy (by decide) (by decide) (by decide)))]; exact e4268
                  have e4299 : I4281 (ad g 46) 2 = v4010 := by rw [eI4281, pp_ne _ _ (Or.inl (ly_ne hy (by decide) (by decide) (by decide)))]; exact e4269
                  have e4300 : I4281 (ad g 47) 2 = v4035 := by rw [eI4281, pp_ne _ _ (Or.inl (ly_ne hy (by decide) (by decide) (by decide)))]; exact e4270
                  have e4301 : I4281 (ad g 46) 3 = v4093 := by rw [eI4281, pp_ne _ _ (Or.inl (ly_ne hy (by decide) (by decide) (by decide)))]; exact e4271
                  have e4302 : I4281 (ad g 47) 3 = v4121 := by rw [eI4281, pp_ne _ _ (Or.inl (ly_ne hy (by decide) (by decide) (by decide)))]; exact e4272
                  have e4303 : I4281 (ad g 44) 0 = (vp_nar .boolean v4221) := by rw [eI4281, pp_ne _ _ (Or.inr (by decide))]; exact e4273
                  have e4304 : I4281 (ad g 44) 1 = (vp_nar .boolean v4250) := by rw [eI4281, pp_ne _ _ (Or.inr (by decide))]; exact e4274
                  have e4305 : I4281 (ad g 44) 2 = (vp_nar .boolean v4280) := by rw [eI4281, pp_self]
                  have fI4306 : FC g [0, 6, 7, 8, 9, 10, 11, 12, 13, 14, 15, 16, 17, 18, 19, 20, 21, 22, 23, 24, 25, 26, 27, 28, 29, 30, 31, 32, 33, 34, 37, 38, 44, 46, 47] I I4281 := by rw [eI4281]; exact FC_pp fI4275 (by decide)
                  have fQ4307 : FQ g [1, 2, 3, 4, 5, 6, 7, 8, 9, 10, 11, 12, 13, 14, 15, 16, 17, 18, 19, 51, 68] I I4281 := by rw [eI4281]; exact FQ_ppn (ly_ne hy (by decide) (by decide) (by decide)) fQ4276
                  refine WP_iinc (ls' := [(0, _), (1, _)]) dX11_town_354 rfl (by decide) rfl ?_
                  have hv4308 : (v4277 + Int32.ofInt (1)).toInt = v4277.toInt + (1) := ia_n rfl (by omega) (by omega)
                  generalize v4277 + Int32.ofInt (1) = v4308 at hv4308 ⊢
                  have kv4308 : v4308.toInt = 3 := by omega
                  clear hv4308; have hv4308 := kv4308; clear kv4308
                  refine WP_goto 342 dX11_town_357 rfl ?_
                  refine WP_iload_n dX11_town_342 rfl ?_
                  refine WQ_iconst (3) (3) dX11_town_343 rfl rfl (fun v4309 hv4309 => ?_)
                  refine WQ_icmp_ge 360 dX11_town_344 rfl (fun c4309 => ?_) (fun c4309 => False.elim (by omega))
                  refine WP_aload_n dX11_town_360 rfl ?_
                  refine WQ_iconst (-1) (-1) dX11_town_361 rfl rfl (fun v4311 hv4311 => ?_)
                  refine WQ_puti dX11_town_362 fX11_304 rfl rfl (ly_is hy 0 11 rfl) (fun I4312 eI4312 => ?_)
                  have e4313 : I4312 (ad g 0) 1 = w3500 := by rw [eI4312, pp_ne _ _ (Or.inr (by decide))]; exact e4282
                  have e4314 : I4312 (ad g 0) 8 = w3501 := by rw [eI4312, pp_ne _ _ (Or.inr (by decide))]; exact e4283
                  have e4315 : I4312 (ad g 0) 9 = w3502 := by rw [eI4312, pp_ne _ _ (Or.inr (by decide))]; exact e4284
                  have e4316 : I4312 (ad g 0) 10 = w3503 := by rw [eI4312, pp_ne _ _ (Or.inr (by decide))]; exact e4285
                  have e4317 : I4312 (ad g 0) 11 = w3504 := by rw [eI4312, pp_ne _ _ (Or.inr (by decide))]; exact e4286
                  have e4318 : I4312 (ad g 0) 13 = w3505 := by rw [eI4312, pp_ne _ _ (Or.inr (by decide))]; exact e4287
                  have e4319 : I4312 (ad g 0) 14 = w3506 := by rw [eI4312, pp_ne _ _ (Or.inr (by decide))]; exact e4288
                  have e4320 : I4312 (ad g 0) 15 = w3507 := by rw [eI4312, pp_ne _ _ (Or.inr (by decide))]; exact e4289
                  have e4321 : I4312 (ad g 0) 16 = w3508 := by rw [eI4312, pp_ne _ _ (Or.inr (by decide))]; exact e4290
                  have e4322 : I4312 (ad g 0) 17 = w3509 := by rw [eI4312, pp_ne _ _ (Or.inr (by decide))]; exact e4291
                  have e4323 : I4312 (ad g 0) 18 = w3510 := by rw [eI4312, pp_ne _ _ (Or.inr (by decide))]; exact e4292
                  have e4324 : I4312 (ad g 0) 19 = w3511 := by rw [eI4312, pp_ne _ _ (Or.inr (by decide))]; exact e4293
                  have e4325 : I4312 (ad g 0) 12 = w3511 := by rw [eI4312, pp_ne _ _ (Or.inr (by decide))]; exact e4294
                  have e4326 : I4312 (ad g 46) 0 = v3871 := by rw [eI4312, pp_ne _ _ (Or.inl (ly_ne hy (by decide) (by decide) (by decide)))]; exact e4295
                  have e4327 : I4312 (ad g 47) 0 = v3890 := by rw [eI4312, pp_ne _ _ (Or.inl (ly_ne hy (by decide) (by decide) (by decide)))]; exact e4296
                  have e4328 : I4312 (ad g 46) 1 = v3936 := by rw [eI4312, pp_ne _ _ (Or.inl (ly_ne hy (by decide) (by decide) (by decide)))]; exact e4297
                  have e4329 : I4312 (ad g 47) 1 = v3958 := by rw [eI4312, pp_ne _ _ (Or.inl (ly_ne hy (by decide) (by decide) (by decide)))]; exact e4298
                  have e4330 : I4312 (ad g 46) 2 = v4010 := by rw [eI4312, pp_ne _ _ (Or.inl (ly_ne hy (by decide) (by decide) (by decide)))]; exact e4299
                  have e4331 : I4312 (ad g 47) 2 = v4035 := by rw [eI4312, pp_ne _ _ (Or.inl (ly_ne hy (by decide) (by decide) (by decide)))]; exact e4300
                  have e4332 : I4312 (ad g 46) 3 = v4093 := by rw [eI4312, pp_ne _ _ (Or.inl (ly_ne hy (by decide) (by decide) (by decide)))]; exact e4301
                  have e4333 : I4312 (ad g 47) 3 = v4121 := by rw [eI4312, pp_ne _ _ (Or.inl (ly_ne hy (by decide) (by decide) (by decide)))]; exact e4302
                  have e4334 : I4312 (ad g 44) 0 = (vp_nar .boolean v4221) := by rw [eI4312, pp_ne _ _ (Or.inl (ly_ne hy (by decide) (by decide) (by decide)))]; exact e4303
                  have e4335 : I4312 (ad g 44) 1 = (vp_nar .boolean v4250) := by rw [eI4312, pp_ne _ _ (Or.inl (ly_ne hy (by decide) (by decide) (by decide)))]; exact e4304
                  have e4336 : I4312 (ad g 44) 2 = (vp_nar .boolean v4280) := by rw [eI4312, pp_ne _ _ (Or.inl (ly_ne hy (by decide) (by decide) (by decide)))]; exact e4305
                  have e4337 : I4312 (ad g 0) 68 = v4311 := by rw [eI4312, pp_self]
                  have fI4338 : FC g [0, 6, 7, 8, 9, 10, 11, 12, 13, 14, 15, 16, 17, 18, 19, 20, 21, 22, 23, 24, 25, 26, 27, 28, 29, 30, 31, 32, 33, 34, 37, 38, 44, 46, 47] I I4312 := by rw [eI4312]; exact FC_pp fI4306 (by decide)
                  have fQ4339 : FQ g [1, 2, 3, 4, 5, 6, 7, 8, 9, 10, 11, 12, 13, 14, 15, 16, 17, 18, 19, 51, 68] I I4312 := by rw [eI4312]; exact FQ_pp0 fQ4307 (by decide)
                  refine WP_aload_n dX11_town_365 rfl ?_
                  refine WQ_getim dX11_town_366 fX11_335 rfl (ly_is hy 0 11 rfl) e4325 ?_
                  exact WP_iret dX11_town_369 rfl ⟨rfl, fI4338, fJ4216, fQ4339, w3511, rfl, by
                    try simp only [e4313, e4314, e4315, e4316, e4317, e4318, e4319, e4320, e4321, e4322, e4323, e4324, e4325, e4326, e4327, e4328, e4329, e4330, e4331, e4332, e4333, e4334, e4335, e4336, e4337, e4214, ew3395, ew3396, ew3397, ew3398, ew3399, ew3400, ew3401, ew3402, ew3403, ew3404, ew3405, ew3406]
                    have hb4 : ∀ e ∈ rsT, ∀ q : Nat, (q : Int) < (e.2.2 : Int) * S2.1 0 1 → (I3430 (ad g e.1) q).toInt = S2.1 e.2.1 q := hR.2.2.2.1
                    have hb5 : ∀ e ∈ rtT, ∀ q : Nat, (q : Int) < (e.2.2 : Int) * S2.1 0 2 → (I3430 (ad g e.1) q).toInt = S2.1 e.2.1 q := hR.2.2.2.2.1
                    refine Or.inr ⟨S2, hok, ?_, ⟨⟨?_, ?_, ?_, ?_, ?_⟩, fun q hq => ?_, ?_, ?_, ?_, ?_⟩, fun q hq => ?_, fun q hq => ?_, ?_, fun q hq => ?_, fun q hq => ?_, fun q hq => ?_, ?_⟩
                    · omega
                    · rw [e4316]; omega
                    · rw [e4317]; omega
                    · rw [e4325]; omega
                    · rw [e4318]; omega
                    · rw [e4319]; omega
                    · rw [eI4312, pp_off _ _ (ly_ne hy (by decide) (by decide) (by decide)), eI4281, pp_off _ _ (ly_ne hy (by decide) (by decide) (by decide)), eI4251, pp_off _ _ (ly_ne hy (by decide) (by decide) (by decide)), eI4222, pp_off _ _ (ly_ne hy (by decide) (by decide) (by decide)), FC_at hy g4190 6 (by decide) (by decide), FC_at hy g4156 6 (by decide) (by decide), eI4122, pp_off _ _ (ly_ne hy (by decide) (by decide) (by decide)), eI4094, pp_off _ _ (ly_ne hy (by decide) (by decide) (by decide)), eI4067, pp_off _ _ (ly_ne hy (by decide) (by decide) (by decide)), eI4036, pp_off _ _ (ly_ne hy (by decide) (by decide) (by decide)), eI4011, pp_off _ _ (ly_ne hy (by decide) (by decide) (by decide)), eI3987, pp_off _ _ (ly_ne hy (by decide) (by decide) (by decide)), eI3959, pp_off _ _ (ly_ne hy (by decide) (by decide) (by decide)), eI3937, pp_off _ _ (ly_ne hy (by decide) (by decide) (by decide)), eI3916, pp_off _ _ (ly_ne hy (by decide) (by decide) (by decide)), eI3891, pp_off _ _ (ly_ne hy (by decide) (by decide) (by decide)), eI3872, pp_off _ _ (ly_ne hy (by decide) (by decide) (by decide)), eI3854, pp_off _ _ (ly_ne hy (by decide) (by decide) (by decide)), FC_at hy g3829 6 (by decide) (by decide), FC_at hy g3807 6 (by decide) (by decide), FC_at hy g3785 6 (by decide) (by decide), FC_at hy g3763 6 (by decide) (by decide), FC_at hy g3741 6 (by decide) (by decide), FC_at hy g3719 6 (by decide) (by decide), FC_at hy g3697 6 (by decide) (by decide), FC_at hy g3675 6 (by decide) (by decide), FC_at hy g3653 6 (by decide) (by decide), FC_at hy g3631 6 (by decide) (by decide), FC_at hy g3609 6 (by decide) (by decide), FC_at hy g3587 6 (by decide) (by decide), FC_at hy g3565 6 (by decide) (by decide), d6 q hq]; exact hR.2.1 q hq
                    · intro e he q hq
                      have hmul := hb2
                      rcases (show e = (8, 2, 1) ∨ e = (9, 3, 1) ∨ e = (10, 4, 1) ∨ e = (11, 5, 1) ∨ e = (20, 6, 7) ∨ e = (24, 7, 7) ∨ e = (25, 8, 7) ∨ e = (26, 9, 7) by simpa [tsT] using he) with rfl | rfl | rfl | rfl | rfl | rfl | rfl | rfl
                      · show (I4312 (ad g 8) q).toInt = S2.1 2 q
                        have hq2 : (q : Int) < 1 * S2.1 0 1 := hq
                        rw [eI4312, pp_off _ _ (ly_ne hy (by decide) (by decide) (by decide)), eI4281, pp_off _ _ (ly_ne hy (by decide) (by decide) (by decide)), eI4251, pp_off _ _ (ly_ne hy (by decide) (by decide) (by decide)), eI4222, pp_off _ _ (ly_ne hy (by decide) (by decide) (by decide)), FC_at hy g4190 8 (by decide) (by decide), FC_at hy g4156 8 (by decide) (by decide), eI4122, pp_off _ _ (ly_ne hy (by decide) (by decide) (by decide)), eI4094, pp_off _ _ (ly_ne hy (by decide) (by decide) (by decide)), eI4067, pp_off _ _ (ly_ne hy (by decide) (by decide) (by decide)), eI4036, pp_off _ _ (ly_ne hy (by decide) (by decide) (by decide)), eI4011, pp_off _ _ (ly_ne hy (by decide) (by decide) (by decide)), eI3987, pp_off _ _ (ly_ne hy (by decide) (by decide) (by decide)), eI3959, pp_off _ _ (ly_ne hy (by decide) (by decide) (by decide)), eI3937, pp_off _ _ (ly_ne hy (by decide) (by decide) (by decide)), eI3916, pp_off _ _ (ly_ne hy (by decide) (by decide) (by decide)), eI3891, pp_off _ _ (ly_ne hy (by decide) (by decide) (by decide)), eI3872, pp_off _ _ (ly_ne hy (by decide) (by decide) (by decide)), eI3854, pp_off _ _ (ly_ne hy (by decide) (by decide) (by decide)), FC_at hy g3829 8 (by decide) (by decide), FC_at hy g3807 8 (by decide) (by decide), FC_at hy g3785 8 (by decide) (by decide), FC_at hy g3763 8 (by decide) (by decide), FC_at hy g3741 8 (by decide) (by decide), FC_at hy g3719 8 (by decide) (by decide), FC_at hy g3697 8 (by decide) (by decide), FC_at hy g3675 8 (by decide) (by decide), FC_at hy g3653 8 (by decide) (by decide), FC_at hy g3631 8 (by decide) (by decide), FC_at hy g3609 8 (by decide) (by decide), FC_at hy g3587 8 (by decide) (by decide), d8 q (by omega)]
                        exact hb4 (14, 2, 1) (by decide) q hq
                      · show (I4312 (ad g 9) q).toInt = S2.1 3 q
                        have hq2 : (q : Int) < 1 * S2.1 0 1 := hq
                        rw [eI4312, pp_off _ _ (ly_ne hy (by decide) (by decide) (by decide)), eI4281, pp_off _ _ (ly_ne hy (by decide) (by decide) (by decide)), eI4251, pp_off _ _ (ly_ne hy (by decide) (by decide) (by decide)), eI4222, pp_off _ _ (ly_ne hy (by decide) (by decide) (by decide)), FC_at hy g4190 9 (by decide) (by decide), FC_at hy g4156 9 (by decide) (by decide), eI4122, pp_off _ _ (ly_ne hy (by decide) (by decide) (by decide)), eI4094, pp_off _ _ (ly_ne hy (by decide) (by decide) (by decide)), eI4067, pp_off _ _ (ly_ne hy (by decide) (by decide) (by decide)), eI4036, pp_off _ _ (ly_ne hy (by decide) (by decide) (by decide)), eI4011, pp_off _ _ (ly_ne hy (by decide) (by decide) (by decide)), eI3987, pp_off _ _ (ly_ne hy (by decide) (by decide) (by decide)), eI3959, pp_off _ _ (ly_ne hy (by decide) (by decide) (by decide)), eI3937, pp_off _ _ (ly_ne hy (by decide) (by decide) (by decide)), eI3916, pp_off _ _ (ly_ne hy (by decide) (by decide) (by decide)), eI3891, pp_off _ _ (ly_ne hy (by decide) (by decide) (by decide)), eI3872, pp_off _ _ (ly_ne hy (by decide) (by decide) (by decide)), eI3854, pp_off _ _ (ly_ne hy (by decide) (by decide) (by decide)), FC_at hy g3829 9 (by decide) (by decide), FC_at hy g3807 9 (by decide) (by decide), FC_at hy g3785 9 (by decide) (by decide), FC_at hy g3763 9 (by decide) (by decide), FC_at hy g3741 9 (by decide) (by decide), FC_at hy g3719 9 (by decide) (by decide), FC_at hy g3697 9 (by decide) (by decide), FC_at hy g3675 9 (by decide) (by decide), FC_at hy g3653 9 (by decide) (by decide), FC_at hy g3631 9 (by decide) (by decide), FC_at hy g3609 9 (by decide) (by decide), d9 q (by omega)]
                        exact hb4 (15, 3, 1) (by decide) q hq
                      · show (I4312 (ad g 10) q).toInt = S2.1 4 q
                        have hq2 : (q : Int) < 1 * S2.1 0 1 := hq
                        rw [eI4312, pp_off _ _ (ly_ne hy (by decide) (by decide) (by decide)), eI4281, pp_off _ _ (ly_ne hy (by decide) (by decide) (by decide)), eI4251, pp_off _ _ (ly_ne hy (by decide) (by decide) (by decide)), eI4222, pp_off _ _ (ly_ne hy (by decide) (by decide) (by decide)), FC_at hy g4190 10 (by decide) (by decide), FC_at hy g4156 10 (by decide) (by decide), eI4122, pp_off _ _ (ly_ne hy (by decide) (by decide) (by decide)), eI4094, pp_off _ _ (ly_ne hy (by decide) (by decide) (by decide)), eI4067, pp_off _ _ (ly_ne hy (by decide) (by decide) (by decide)), eI4036, pp_off _ _ (ly_ne hy (by decide) (by decide) (by decide)), eI4011, pp_off _ _ (ly_ne hy (by decide) (by decide) (by decide)), eI3987, pp_off _ _ (ly_ne hy (by decide) (by decide) (by decide)), eI3959, pp_off _ _ (ly_ne hy (by decide) (by decide) (by decide)), eI3937, pp_off _ _ (ly_ne hy (by decide) (by decide) (by decide)), eI3916, pp_off _ _ (ly_ne hy (by decide) (by decide) (by decide)), eI3891, pp_off _ _ (ly_ne hy (by decide) (by decide) (by decide)), eI3872, pp_off _ _ (ly_ne hy (by decide) (by decide) (by decide)), eI3854, pp_off _ _ (ly_ne hy (by decide) (by decide) (by decide)), FC_at hy g3829 10 (by decide) (by decide), FC_at hy g3807 10 (by decide) (by decide), FC_at hy g3785 10 (by decide) (by decide), FC_at hy g3763 10 (by decide) (by decide), FC_at hy g3741 10 (by decide) (by decide), FC_at hy g3719 10 (by decide) (by decide), FC_at hy g3697 10 (by decide) (by decide), FC_at hy g3675 10 (by decide) (by decide), FC_at hy g3653 10 (by decide) (by decide), FC_at hy g3631 10 (by decide) (by decide), d10 q (by omega)]
                        exact hb4 (16, 4, 1) (by decide) q hq
                      · show (I4312 (ad g 11) q).toInt = S2.1 5 q
                        have hq2 : (q : Int) < 1 * S2.1 0 1 := hq
                        rw [eI4312, pp_off _ _ (ly_ne hy (by decide) (by decide) (by decide)), eI4281, pp_off _ _ (ly_ne hy (by decide) (by decide) (by decide)), eI4251, pp_off _ _ (ly_ne hy (by decide) (by decide) (by decide)), eI4222, pp_off _ _ (ly_ne hy (by decide) (by decide) (by decide)), FC_at hy g4190 11 (by decide) (by decide), FC_at hy g4156 11 (by decide) (by decide), eI4122, pp_off _ _ (ly_ne hy (by decide) (by decide) (by decide)), eI4094, pp_off _ _ (ly_ne hy (by decide) (by decide) (by decide)), eI4067, pp_off _ _ (ly_ne hy (by decide) (by decide) (by decide)), eI4036, pp_off _ _ (ly_ne hy (by decide) (by decide) (by decide)), eI4011, pp_off _ _ (ly_ne hy (by decide) (by decide) (by decide)), eI3987, pp_off _ _ (ly_ne hy (by decide) (by decide) (by decide)), eI3959, pp_off _ _ (ly_ne hy (by decide) (by decide) (by decide)), eI3937, pp_off _ _ (ly_ne hy (by decide) (by decide) (by decide)), eI3916, pp_off _ _ (ly_ne hy (by decide) (by decide) (by decide)), eI3891, pp_off _ _ (ly_ne hy (by decide) (by decide) (by decide)), eI3872, pp_off _ _ (ly_ne hy (by decide) (by decide) (by decide)), eI3854, pp_off _ _ (ly_ne hy (by decide) (by decide) (by decide)), FC_at hy g3829 11 (by decide) (by decide), FC_at hy g3807 11 (by decide) (by decide), FC_at hy g3785 11 (by decide) (by decide), FC_at hy g3763 11 (by decide) (by decide), FC_at hy g3741 11 (by decide) (by decide), FC_at hy g3719 11 (by decide) (by decide), FC_at hy g3697 11 (by decide) (by decide), FC_at hy g3675 11 (by decide) (by decide), FC_at hy g3653 11 (by decide) (by decide), d11 q (by omega)]
                        exact hb4 (17, 5, 1) (by decide) q hq
                      · show (I4312 (ad g 20) q).toInt = S2.1 6 q
                        have hq2 : (q : Int) < 7 * S2.1 0 1 := hq
                        rw [eI4312, pp_off _ _ (ly_ne hy (by decide) (by decide) (by decide)), eI4281, pp_off _ _ (ly_ne hy (by decide) (by decide) (by decide)), eI4251, pp_off _ _ (ly_ne hy (by decide) (by decide) (by decide)), eI4222, pp_off _ _ (ly_ne hy (by decide) (by decide) (by decide)), FC_at hy g4190 20 (by decide) (by decide), FC_at hy g4156 20 (by decide) (by decide), eI4122, pp_off _ _ (ly_ne hy (by decide) (by decide) (by decide)), eI4094, pp_off _ _ (ly_ne hy (by decide) (by decide) (by decide)), eI4067, pp_off _ _ (ly_ne hy (by decide) (by decide) (by decide)), eI4036, pp_off _ _ (ly_ne hy (by decide) (by decide) (by decide)), eI4011, pp_off _ _ (ly_ne hy (by decide) (by decide) (by decide)), eI3987, pp_off _ _ (ly_ne hy (by decide) (by decide) (by decide)), eI3959, pp_off _ _ (ly_ne hy (by decide) (by decide) (by decide)), eI3937, pp_off _ _ (ly_ne hy (by decide) (by decide) (by decide)), eI3916, pp_off _ _ (ly_ne hy (by decide) (by decide) (by decide)), eI3891, pp_off _ _ (ly_ne hy (by decide) (by decide) (by decide)), eI3872, pp_off _ _ (ly_ne hy (by decide) (by decide) (by decide)), eI3854, pp_off _ _ (ly_ne hy (by decide) (by decide) (by decide)), FC_at hy g3829 20 (by decide) (by decide), FC_at hy g3807 20 (by decide) (by decide), FC_at hy g3785 20 (by decide) (by decide), FC_at hy g3763 20 (by decide) (by decide), FC_at hy g3741 20 (by decide) (by decide), FC_at hy g3719 20 (by decide) (by decide), d20 q (by omega)]
                        exact hb4 (27, 6, 7) (by decide) q hq
                      · show (I4312 (ad g 24) q).toInt = S2.1 7 q
                        have hq2 : (q : Int) < 7 * S2.1 0 1 := hq
                        rw [eI4312, pp_off _ _ (ly_ne hy (by decide) (by decide) (by decide)), eI4281, pp_off _ _ (ly_ne hy (by decide) (by decide) (by decide)), eI4251, pp_off _ _ (ly_ne hy (by decide) (by decide) (by decide)), eI4222, pp_off _ _ (ly_ne hy (by decide) (by decide) (by decide)), FC_at hy g4190 24 (by decide) (by decide), FC_at hy g4156 24 (by decide) (by decide), eI4122, pp_off _ _ (ly_ne hy (by decide) (by decide) (by decide)), eI4094, pp_off _ _ (ly_ne hy (by decide) (by decide) (by decide)), eI4067, pp_off _ _ (ly_ne hy (by decide) (by decide) (by decide)), eI4036, pp_off _ _ (ly_ne hy (by decide) (by decide) (by decide)), eI4011, pp_off _ _ (ly_ne hy (by decide) (by decide) (by decide)), eI3987, pp_off _ _ (ly_ne hy (by decide) (by decide) (by decide)), eI3959, pp_off _ _ (ly_ne hy (by decide) (by decide) (by decide)), eI3937, pp_off _ _ (ly_ne hy (by decide) (by decide) (by decide)), eI3916, pp_off _ _ (ly_ne hy (by decide) (by decide) (by decide)), eI3891, pp_off _ _ (ly_ne hy (by decide) (by decide) (by decide)), eI3872, pp_off _ _ (ly_ne hy (by decide) (by decide) (by decide)), eI3854, pp_off _ _ (ly_ne hy (by decide) (by decide) (by decide)), FC_at hy g3829 24 (by decide) (by decide), FC_at hy g3807 24 (by decide) (by decide), d24 q (by omega)]
                        exact hb4 (30, 7, 7) (by decide) q hq
                      · show (I4312 (ad g 25) q).toInt = S2.1 8 q
                        have hq2 : (q : Int) < 7 * S2.1 0 1 := hq
                        rw [eI4312, pp_off _ _ (ly_ne hy (by decide) (by decide) (by decide)), eI4281, pp_off _ _ (ly_ne hy (by decide) (by decide) (by decide)), eI4251, pp_off _ _ (ly_ne hy (by decide) (by decide) (by decide)), eI4222, pp_off _ _ (ly_ne hy (by decide) (by decide) (by decide)), FC_at hy g4190 25 (by decide) (by decide), FC_at hy g4156 25 (by decide) (by decide), eI4122, pp_off _ _ (ly_ne hy (by decide) (by decide) (by decide)), eI4094, pp_off _ _ (ly_ne hy (by decide) (by decide) (by decide)), eI4067, pp_off _ _ (ly_ne hy (by decide) (by decide) (by decide)), eI4036, pp_off _ _ (ly_ne hy (by decide) (by decide) (by decide)), eI4011, pp_off _ _ (ly_ne hy (by decide) (by decide) (by decide)), eI3987, pp_off _ _ (ly_ne hy (by decide) (by decide) (by decide)), eI3959, pp_off _ _ (ly_ne hy (by decide) (by decide) (by decide)), eI3937, pp_off _ _ (ly_ne hy (by decide) (by decide) (by decide)), eI3916, pp_off _ _ (ly_ne hy (by decide) (by decide) (by decide)), eI3891, pp_off _ _ (ly_ne hy (by decide) (by decide) (by decide)), eI3872, pp_off _ _ (ly_ne hy (by decide) (by decide) (by decide)), eI3854, pp_off _ _ (ly_ne hy (by decide) (by decide) (by decide)), FC_at hy g3829 25 (by decide) (by decide), d25 q (by omega)]
                        exact hb4 (31, 8, 7) (by decide) q hq
                      · show (I4312 (ad g 26) q).toInt = S2.1 9 q
                        have hq2 : (q : Int) < 7 * S2.1 0 1 := hq
                        rw [eI4312, pp_off _ _ (ly_ne hy (by decide) (by decide) (by decide)), eI4281, pp_off _ _ (ly_ne hy (by decide) (by decide) (by decide)), eI4251, pp_off _ _ (ly_ne hy (by decide) (by decide) (by decide)), eI4222, pp_off _ _ (ly_ne hy (by decide) (by decide) (by decide)), FC_at hy g4190 26 (by decide) (by decide), FC_at hy g4156 26 (by decide) (by decide), eI4122, pp_off _ _ (ly_ne hy (by decide) (by decide) (by decide)), eI4094, pp_off _ _ (ly_ne hy (by decide) (by decide) (by decide)), eI4067, pp_off _ _ (ly_ne hy (by decide) (by decide) (by decide)), eI4036, pp_off _ _ (ly_ne hy (by decide) (by decide) (by decide)), eI4011, pp_off _ _ (ly_ne hy (by decide) (by decide) (by decide)), eI3987, pp_off _ _ (ly_ne hy (by decide) (by decide) (by decide)), eI3959, pp_off _ _ (ly_ne hy (by decide) (by decide) (by decide)), eI3937, pp_off _ _ (ly_ne hy (by decide) (by decide) (by decide)), eI3916, pp_off _ _ (ly_ne hy (by decide) (by decide) (by decide)), eI3891, pp_off _ _ (ly_ne hy (by decide) (by decide) (by decide)), eI3872, pp_off _ _ (ly_ne hy (by decide) (by decide) (by decide)), eI3854, pp_off _ _ (ly_ne hy (by decide) (by decide) (by decide)), d26 q (by omega)]
                        exact hb4 (32, 9, 7) (by decide) q hq
                    · intro e he q hq
                      have hmul := hb3
                      rcases (show e = (12, 10, 1) ∨ e = (13, 11, 1) ∨ e = (21, 12, 7) ∨ e = (23, 13, 7) by simpa [ttT] using he) with rfl | rfl | rfl | rfl
                      · show (I4312 (ad g 12) q).toInt = S2.1 10 q
                        have hq2 : (q : Int) < 1 * S2.1 0 2 := hq
                        rw [eI4312, pp_off _ _ (ly_ne hy (by decide) (by decide) (by decide)), eI4281, pp_off _ _ (ly_ne hy (by decide) (by decide) (by decide)), eI4251, pp_off _ _ (ly_ne hy (by decide) (by decide) (by decide)), eI4222, pp_off _ _ (ly_ne hy (by decide) (by decide) (by decide)), FC_at hy g4190 12 (by decide) (by decide), FC_at hy g4156 12 (by decide) (by decide), eI4122, pp_off _ _ (ly_ne hy (by decide) (by decide) (by decide)), eI4094, pp_off _ _ (ly_ne hy (by decide) (by decide) (by decide)), eI4067, pp_off _ _ (ly_ne hy (by decide) (by decide) (by decide)), eI4036, pp_off _ _ (ly_ne hy (by decide) (by decide) (by decide)), eI4011, pp_off _ _ (ly_ne hy (by decide) (by decide) (by decide)), eI3987, pp_off _ _ (ly_ne hy (by decide) (by decide) (by decide)), eI3959, pp_off _ _ (ly_ne hy (by decide) (by decide) (by decide)), eI3937, pp_off _ _ (ly_ne hy (by decide) (by decide) (by decide)), eI3916, pp_off _ _ (ly_ne hy (by decide) (by decide) (by decide)), eI3891, pp_off _ _ (ly_ne hy (by decide) (by decide) (by decide)), eI3872, pp_off _ _ (ly_ne hy (by decide) (by decide) (by decide)), eI3854, pp_off _ _ (ly_ne hy (by decide) (by decide) (by decide)), FC_at hy g3829 12 (by decide) (by decide), FC_at hy g3807 12 (by decide) (by decide), FC_at hy g3785 12 (by decide) (by decide), FC_at hy g3763 12 (by decide) (by decide), FC_at hy g3741 12 (by decide) (by decide), FC_at hy g3719 12 (by decide) (by decide), FC_at hy g3697 12 (by decide) (by decide), FC_at hy g3675 12 (by decide) (by decide), d12 q (by omega)]
                        exact hb5 (18, 10, 1) (by decide) q hq
                      · show (I4312 (ad g 13) q).toInt = S2.1 11 q
                        have hq2 : (q : Int) < 1 * S2.1 0 2 := hq
                        rw [eI4312, pp_off _ _ (ly_ne hy (by decide) (by decide) (by decide)), eI4281, pp_off _ _ (ly_ne hy (by decide) (by decide) (by decide)), eI4251, pp_off _ _ (ly_ne hy (by decide) (by decide) (by decide)), eI4222, pp_off _ _ (ly_ne hy (by decide) (by decide) (by decide)), FC_at hy g4190 13 (by decide) (by decide), FC_at hy g4156 13 (by decide) (by decide), eI4122, pp_off _ _ (ly_ne hy (by decide) (by decide) (by decide)), eI4094, pp_off _ _ (ly_ne hy (by decide) (by decide) (by decide)), eI4067, pp_off _ _ (ly_ne hy (by decide) (by decide) (by decide)), eI4036, pp_off _ _ (ly_ne hy (by decide) (by decide) (by decide)), eI4011, pp_off _ _ (ly_ne hy (by decide) (by decide) (by decide)), eI3987, pp_off _ _ (ly_ne hy (by decide) (by decide) (by decide)), eI3959, pp_off _ _ (ly_ne hy (by decide) (by decide) (by decide)), eI3937, pp_off _ _ (ly_ne hy (by decide) (by decide) (by decide)), eI3916, pp_off _ _ (ly_ne hy (by decide) (by decide) (by decide)), eI3891, pp_off _ _ (ly_ne hy (by decide) (by decide) (by decide)), eI3872, pp_off _ _ (ly_ne hy (by decide) (by decide) (by decide)), eI3854, pp_off _ _ (ly_ne hy (by decide) (by decide) (by decide)), FC_at hy g3829 13 (by decide) (by decide), FC_at hy g3807 13 (by decide) (by decide), FC_at hy g3785 13 (by decide) (by decide), FC_at hy g3763 13 (by decide) (by decide), FC_at hy g3741 13 (by decide) (by decide), FC_at hy g3719 13 (by decide) (by decide), FC_at hy g3697 13 (by decide) (by decide), d13 q (by omega)]
                        exact hb5 (19, 11, 1) (by decide) q hq
                      · show (I4312 (ad g 21) q).toInt = S2.1 12 q
                        have hq2 : (q : Int) < 7 * S2.1 0 2 := hq
                        rw [eI4312, pp_off _ _ (ly_ne hy (by decide) (by decide) (by decide)), eI4281, pp_off _ _ (ly_ne hy (by decide) (by decide) (by decide)), eI4251, pp_off _ _ (ly_ne hy (by decide) (by decide) (by decide)), eI4222, pp_off _ _ (ly_ne hy (by decide) (by decide) (by decide)), FC_at hy g4190 21 (by decide) (by decide), FC_at hy g4156 21 (by decide) (by decide), eI4122, pp_off _ _ (ly_ne hy (by decide) (by decide) (by decide)), eI4094, pp_off _ _ (ly_ne hy (by decide) (by decide) (by decide)), eI4067, pp_off _ _ (ly_ne hy (by decide) (by decide) (by decide)), eI4036, pp_off _ _ (ly_ne hy (by decide) (by decide) (by decide)), eI4011, pp_off _ _ (ly_ne hy (by decide) (by decide) (by decide)), eI3987, pp_off _ _ (ly_ne hy (by decide) (by decide) (by decide)), eI3959, pp_off _ _ (ly_ne hy (by decide) (by decide) (by decide)), eI3937, pp_off _ _ (ly_ne hy (by decide) (by decide) (by decide)), eI3916, pp_off _ _ (ly_ne hy (by decide) (by decide) (by decide)), eI3891, pp_off _ _ (ly_ne hy (by decide) (by decide) (by decide)), eI3872, pp_off _ _ (ly_ne hy (by decide) (by decide) (by decide)), eI3854, pp_off _ _ (ly_ne hy (by decide) (by decide) (by decide)), FC_at hy g3829 21 (by decide) (by decide), FC_at hy g3807 21 (by decide) (by decide), FC_at hy g3785 21 (by decide) (by decide), FC_at hy g3763 21 (by decide) (by decide), FC_at hy g3741 21 (by decide) (by decide), d21 q (by omega)]
                        exact hb5 (28, 12, 7) (by decide) q hq
                      · show (I4312 (ad g 23) q).toInt = S2.1 13 q
                        have hq2 : (q : Int) < 7 * S2.1 0 2 := hq
                        rw [eI4312, pp_off _ _ (ly_ne hy (by decide) (by decide) (by decide)), eI4281, pp_off _ _ (ly_ne hy (by decide) (by decide) (by decide)), eI4251, pp_off _ _ (ly_ne hy (by decide) (by decide) (by decide)), eI4222, pp_off _ _ (ly_ne hy (by decide) (by decide) (by decide)), FC_at hy g4190 23 (by decide) (by decide), FC_at hy g4156 23 (by decide) (by decide), eI4122, pp_off _ _ (ly_ne hy (by decide) (by decide) (by decide)), eI4094, pp_off _ _ (ly_ne hy (by decide) (by decide) (by decide)), eI4067, pp_off _ _ (ly_ne hy (by decide) (by decide) (by decide)), eI4036, pp_off _ _ (ly_ne hy (by decide) (by decide) (by decide)), eI4011, pp_off _ _ (ly_ne hy (by decide) (by decide) (by decide)), eI3987, pp_off _ _ (ly_ne hy (by decide) (by decide) (by decide)), eI3959, pp_off _ _ (ly_ne hy (by decide) (by decide) (by decide)), eI3937, pp_off _ _ (ly_ne hy (by decide) (by decide) (by decide)), eI3916, pp_off _ _ (ly_ne hy (by decide) (by decide) (by decide)), eI3891, pp_off _ _ (ly_ne hy (by decide) (by decide) (by decide)), eI3872, pp_off _ _ (ly_ne hy (by decide) (by decide) (by decide)), eI3854, pp_off _ _ (ly_ne hy (by decide) (by decide) (by decide)), FC_at hy g3829 23 (by decide) (by decide), FC_at hy g3807 23 (by decide) (by decide), FC_at hy g3785 23 (by decide) (by decide), d23 q (by omega)]
                        exact hb5 (29, 13, 7) (by decide) q hq
                    · intro q hq; rw [FC_at hy g4191 2 (by decide) (by decide), eJ4184, pp_off _ _ (ly_ne hy (by decide) (by decide) (by decide)), FC_at hy g4157 2 (by decide) (by decide), FC_at hy g3830 2 (by decide) (by decide), FC_at hy g3808 2 (by decide) (by decide), FC_at hy g3786 2 (by decide) (by decide), FC_at hy g3764 2 (by decide) (by decide), FC_at hy g3742 2 (by decide) (by decide), FC_at hy g3720 2 (by decide) (by decide), FC_at hy g3698 2 (by decide) (by decide), FC_at hy g3676 2 (by decide) (by decide), FC_at hy g3654 2 (by decide) (by decide), FC_at hy g3632 2 (by decide) (by decide), FC_at hy g3610 2 (by decide) (by decide), FC_at hy g3588 2 (by decide) (by decide), FC_at hy g3566 2 (by decide) (by decide), FC_at hy g3544 2 (by decide) (by decide), FC_at hy kG 2 (by decide) (by decide), jA q (by omega)]; exact hR.2.2.2.2.2.2.2.1 q hq
                    · intro q hq; rw [FC_at hy g4191 3 (by decide) (by decide), eJ4184, pp_off _ _ (ly_ne hy (by decide) (by decide) (by decide)), FC_at hy g4157 3 (by decide) (by decide), FC_at hy g3830 3 (by decide) (by decide), FC_at hy g3808 3 (by decide) (by decide), FC_at hy g3786 3 (by decide) (by decide), FC_at hy g3764 3 (by decide) (by decide), FC_at hy g3742 3 (by decide) (by decide), FC_at hy g3720 3 (by decide) (by decide), FC_at hy g3698 3 (by decide) (by decide), FC_at hy g3676 3 (by decide) (by decide), FC_at hy g3654 3 (by decide) (by decide), FC_at hy g3632 3 (by decide) (by decide), FC_at hy g3610 3 (by decide) (by decide), FC_at hy g3588 3 (by decide) (by decide), FC_at hy g3566 3 (by decide) (by decide), FC_at hy g3544 3 (by decide) (by decide), kA q (by omega)]; exact hR.2.2.2.2.2.2.2.2 q hq
                    · rw [eI4312, pp_off _ _ (ly_ne hy (by decide) (by decide) (by decide)), eI4281, pp_off _ _ (ly_ne hy (by decide) (by decide) (by decide)), eI4251, pp_off _ _ (ly_ne hy (by decide) (by decide) (by decide)), eI4222, pp_off _ _ (ly_ne hy (by decide) (by decide) (by decide)), FC_at hy g4190 22 (by decide) (by decide), FC_at hy g4156 22 (by decide) (by decide), eI4122, pp_off _ _ (ly_ne hy (by decide) (by decide) (by decide)), eI4094, pp_off _ _ (ly_ne hy (by decide) (by decide) (by decide)), eI4067, pp_off _ _ (ly_ne hy (by decide) (by decide) (by decide)), eI4036, pp_off _ _ (ly_ne hy (by decide) (by decide) (by decide)), eI4011, pp_off _ _ (ly_ne hy (by decide) (by decide) (by decide)), eI3987, pp_off _ _ (ly_ne hy (by decide) (by decide) (by decide)), eI3959, pp_off _ _ (ly_ne hy (by decide) (by decide) (by decide)), eI3937, pp_off _ _ (ly_ne hy (by decide) (by decide) (by decide)), eI3916, pp_off _ _ (ly_ne hy (by decide) (by decide) (by decide)), eI3891, pp_off _ _ (ly_ne hy (by decide) (by decide) (by decide)), eI3872, pp_off _ _ (ly_ne hy (by decide) (by decide) (by decide)), eI3854, pp_off _ _ (ly_ne hy (by decide) (by decide) (by decide)), FC_at hy g3829 22 (by decide) (by decide), FC_at hy g3807 22 (by decide) (by decide), FC_at hy g3785 22 (by decide) (by decide), FC_at hy g3763 22 (by decide) (by decide), d22 q (by omega)]; exact hb5 (28, 12, 7) (by decide) q hq
                    · rw [eI4312, pp_off _ _ (ly_ne hy (by decide) (by decide) (by decide)), eI4281, pp_off _ _ (ly_ne hy (by decide) (by decide) (by decide)), eI4251, pp_off _ _ (ly_ne hy (by decide) (by decide) (by decide)), eI4222, pp_off _ _ (ly_ne hy (by decide) (by decide) (by decide)), FC_at hy g4190 38 (by decide) (by decide)]
                      unfold NW0
                      by_cases h9 : q < 28 ∨ 32 ≤ q
                      · rw [if_pos h9, p4153.1 q hq h9]
                        split
                        · rw [d10b q (by omega)]; exact hb4 (16, 4, 1) (by decide) q (by show (q : Int) < 1 * S2.1 0 1; omega)
                        · rfl
                      · rw [if_neg h9, p4153.2 q (by omega) (by omega)]
                        rcases (show q = 28 ∨ q = 29 ∨ q = 30 ∨ q = 31 by omega) with rfl | rfl | rfl | rfl
                        · rw [e4136]; omega
                        · rw [e4139]; omega
                        · rw [e4142]; omega
                        · rw [e4145]; omega
                    · rw [e4214]; omega
                    · rcases (show q = 0 ∨ q = 1 ∨ q = 2 by omega) with rfl | rfl | rfl
                      · first | exact narz (by omega) | (rw [e4334]; exact narz (by omega))
                      · first | exact narz (by omega) | (rw [e4335]; exact narz (by omega))
                      · first | exact narz (by omega) | (rw [e4336]; exact narz (by omega))
                    · rw [eI4312, pp_off _ _ (ly_ne hy (by decide) (by decide) (by decide)), eI4281, pp_off _ _ (ly_ne hy (by decide) (by decide) (by decide)), eI4251, pp_off _ _ (ly_ne hy (by decide) (by decide) (by decide)), eI4222, pp_off _ _ (ly_ne hy (by decide) (by decide) (by decide))]; exact p4187 q hq
                    · rcases (show q = 0 ∨ q = 1 ∨ q = 2 ∨ q = 3 by omega) with rfl | rfl | rfl | rfl
                      · constructor <;> first | omega | (rw [e4326]; omega) | (rw [e4327]; omega)
                      · constructor <;> first | omega | (rw [e4328]; omega) | (rw [e4329]; omega)
                      · constructor <;> first | omega | (rw [e4330]; omega) | (rw [e4331]; omega)
                      · constructor <;> first | omega | (rw [e4332]; omega) | (rw [e4333]; omega)
                    · rw [e4337]; omega⟩
                · refine WP_aload_n dX11_town_114 rfl ?_
                  refine WP_getr dX11_town_115 fX11_230 rfl (ly_is hy 0 11 rfl) (rf hr 0 21 3 (by decide)) ?_
                  refine WP_iload_n dX11_town_118 rfl ?_
                  refine WP_aload_n dX11_town_119 rfl ?_
                  refine WP_getr dX11_town_120 fX11_129 rfl (ly_is hy 0 11 rfl) (rf hr 0 23 5 (by decide)) ?_
                  refine WP_iload_n dX11_town_123 rfl ?_
                  refine WE_la dX11_town_124 (ly_is hy 5 14 rfl) (ly_n hy 5 3 rfl) (by omega) (by omega) (fun l4340 el4340 => ?_)
                  refine WE_ls dX11_town_125 (ly_is hy 3 14 rfl) (ly_n hy 3 3 rfl) (by omega) (by omega) (fun J4341 eJ4341 => ?_)
                  have e4342 : J4341 (ad g 5) i3535.toInt.toNat = l4340 := by rw [eJ4341, pp_ne _ _ (Or.inl (ly_ne hy (by decide) (by decide) (by decide)))]; exact el4340
                  have fJ4343 : FC g [0, 2, 3, 4, 5] J J4341 := by rw [eJ4341]; exact FC_pp fJ3537 (by decide)
                  refine WP_iinc (ls' := [(0, _), (1, _)]) dX11_town_126 rfl (by decide) rfl ?_
                  have hv4344 : (i3535 + Int32.ofInt (1)).toInt = i3535.toInt + (1) := ia_n rfl (by omega) (by omega)
                  generalize i3535 + Int32.ofInt (1) = v4344 at hv4344 ⊢
                  refine WP_goto 106 dX11_town_129 rfl ?_
                  refine WP_sub (fc rfl (fc rfl fn)) (ihlp3538 v4344 J4341 fJ4343 ?_ ?_)
                  · try simp only [e3513, e3514, e3515, e3516, e3517, e3518, e3519, e3520, e3521, e3522, e3523, e3524, ew3395, ew3396, ew3397, ew3398, ew3399, ew3400, ew3401, ew3402, ew3403, ew3404, ew3405, ew3406]
                    refine ⟨k2 + 1, by omega, by omega, fun q hq => ?_, by rw [eJ4341]; exact FC_pp kF (by decide), by rw [eJ4341]; exact FC_pp kG (by decide)⟩
                    rw [eJ4341, show i3535.toInt.toNat = k2 by omega, pp_at]
                    split
                    · rename_i e9
                      rw [e9, ← el4340, show i3535.toInt.toNat = k2 by omega, FC_at hy kF 5 (by decide) (by decide)]
                    · exact kA q (by omega)
                  · try simp only [e3513, e3514, e3515, e3516, e3517, e3518, e3519, e3520, e3521, e3522, e3523, e3524, ew3395, ew3396, ew3397, ew3398, ew3399, ew3400, ew3401, ew3402, ew3403, ew3404, ew3405, ew3406]
                    omega
            refine WP_sub (fc rfl (fc rfl fn)) (lp3538 _ v3534 J3530 fJ3531 ?_ (Nat.lt_succ_self _))
            · try simp only [e3513, e3514, e3515, e3516, e3517, e3518, e3519, e3520, e3521, e3522, e3523, e3524, ew3395, ew3396, ew3397, ew3398, ew3399, ew3400, ew3401, ew3402, ew3403, ew3404, ew3405, ew3406]
              exact ⟨0, by omega, by omega, fun q h => absurd h (Nat.not_lt_zero _), FC_mono jF (by decide), FC_rf⟩
          · refine WP_aload_n dX11_town_86 rfl ?_
            refine WP_getr dX11_town_87 fX11_227 rfl (ly_is hy 0 11 rfl) (rf hr 0 20 2 (by decide)) ?_
            refine WP_iload_n dX11_town_90 rfl ?_
            refine WP_aload_n dX11_town_91 rfl ?_
            refine WP_getr dX11_town_92 fX11_91 rfl (ly_is hy 0 11 rfl) (rf hr 0 22 4 (by decide)) ?_
            refine WP_iload_n dX11_town_95 rfl ?_
            refine WE_la dX11_town_96 (ly_is hy 4 14 rfl) (ly_n hy 4 4 rfl) (by omega) (by omega) (fun l4345 el4345 => ?_)
            refine WE_ls dX11_town_97 (ly_is hy 2 14 rfl) (ly_n hy 2 4 rfl) (by omega) (by omega) (fun J4346 eJ4346 => ?_)
            have e4347 : J4346 (ad g 4) i3529.toInt.toNat = l4345 := by rw [eJ4346, pp_ne _ _ (Or.inl (ly_ne hy (by decide) (by decide) (by decide)))]; exact el4345
            have fJ4348 : FC g [0, 2, 3, 4, 5] J J4346 := by rw [eJ4346]; exact FC_pp fJ3531 (by decide)
            refine WP_iinc (ls' := [(0, _), (1, _)]) dX11_town_98 rfl (by decide) rfl ?_
            have hv4349 : (i3529 + Int32.ofInt (1)).toInt = i3529.toInt + (1) := ia_n rfl (by omega) (by omega)
            generalize i3529 + Int32.ofInt (1) = v4349 at hv4349 ⊢
            refine WP_goto 78 dX11_town_101 rfl ?_
            refine WP_sub (fc rfl (fc rfl fn)) (ihlp3532 v4349 J4346 fJ4348 ?_ ?_)
            · try simp only [e3513, e3514, e3515, e3516, e3517, e3518, e3519, e3520, e3521, e3522, e3523, e3524, ew3395, ew3396, ew3397, ew3398, ew3399, ew3400, ew3401, ew3402, ew3403, ew3404, ew3405, ew3406]
              refine ⟨k + 1, by omega, by omega, fun q hq => ?_, by rw [eJ4346]; exact FC_pp jF (by decide)⟩
              rw [eJ4346, show i3529.toInt.toNat = k by omega, pp_at]
              split
              · rename_i e9
                rw [e9, ← el4345, show i3529.toInt.toNat = k by omega, FC_at hy jF 4 (by decide) (by decide)]
              · exact jA q (by omega)
            · try simp only [e3513, e3514, e3515, e3516, e3517, e3518, e3519, e3520, e3521, e3522, e3523, e3524, ew3395, ew3396, ew3397, ew3398, ew3399, ew3400, ew3401, ew3402, ew3403, ew3404, ew3405, ew3406]
              omega
      refine WP_sub (fc rfl (fc rfl fn)) (lp3532 _ v3528 J3431 fJ3441 ?_ (Nat.lt_succ_self _))
      · try simp only [e3513, e3514, e3515, e3516, e3517, e3518, e3519, e3520, e3521, e3522, e3523, e3524, ew3395, ew3396, ew3397, ew3398, ew3399, ew3400, ew3401, ew3402, ew3403, ew3404, ew3405, ew3406]
        exact ⟨0, by omega, by omega, fun q h => absurd h (Nat.not_lt_zero _), FC_rf⟩
    refine WP_aload_n dX11_town_37 rfl ?_
    refine WP_aload_n dX11_town_38 rfl ?_
    refine WQ_getim dX11_town_39 fX11_161 rfl (ly_is hy 0 11 rfl) e3489 ?_
    refine WQ_iconst (-1) (-1) dX11_town_42 rfl rfl (fun v4350 hv4350 => ?_)
    refine WQ_icmp_eq 53 dX11_town_43 rfl (fun c4350 => ?_) (fun c4350 => ?_)
    · have hs36 : S2.2 36 0 = false := by
        cases h36 : S2.2 36 0 with
        | false => rfl
        | true =>
          have z := hR1.2.2.2
          rw [h36, if_pos rfl] at z
          have z2 := hst h36
          omega
      have h18 := hst2 hs36
      refine WP_aload_n dX11_town_53 rfl ?_
      refine WQ_getim dX11_town_54 fX11_332 rfl (ly_is hy 0 11 rfl) e3492 ?_
      refine WQ_if_le 64 dX11_town_57 rfl (fun c4351 => ?_) (fun c4351 => ?_)
      · refine WQ_iconst (-1) (-1) dX11_town_64 rfl rfl (fun v4353 hv4353 => ?_)
        refine WQ_puti dX11_town_65 fX11_224 rfl rfl (ly_is hy 0 11 rfl) (fun I4354 eI4354 => ?_)
        have e4355 : I4354 (ad g 0) 1 = w3425 := by rw [eI4354, pp_ne _ _ (Or.inr (by decide))]; exact e3483
        have e4356 : I4354 (ad g 0) 8 = w3443 := by rw [eI4354, pp_ne _ _ (Or.inr (by decide))]; exact e3484
        have e4357 : I4354 (ad g 0) 9 = w3444 := by rw [eI4354, pp_ne _ _ (Or.inr (by decide))]; exact e3485
        have e4358 : I4354 (ad g 0) 15 = w3445 := by rw [eI4354, pp_ne _ _ (Or.inr (by decide))]; exact e3486
        have e4359 : I4354 (ad g 0) 16 = w3446 := by rw [eI4354, pp_ne _ _ (Or.inr (by decide))]; exact e3487
        have e4360 : I4354 (ad g 0) 17 = w3447 := by rw [eI4354, pp_ne _ _ (Or.inr (by decide))]; exact e3488
        have e4361 : I4354 (ad g 0) 18 = w3448 := by rw [eI4354, pp_ne _ _ (Or.inr (by decide))]; exact e3489
        have e4362 : I4354 (ad g 0) 19 = w3449 := by rw [eI4354, pp_ne _ _ (Or.inr (by decide))]; exact e3490
        have e4363 : I4354 (ad g 0) 10 = w3445 := by rw [eI4354, pp_ne _ _ (Or.inr (by decide))]; exact e3491
        have e4364 : I4354 (ad g 0) 11 = w3446 := by rw [eI4354, pp_ne _ _ (Or.inr (by decide))]; exact e3492
        have e4365 : I4354 (ad g 0) 13 = w3447 := by rw [eI4354, pp_ne _ _ (Or.inr (by decide))]; exact e3493
        have e4366 : I4354 (ad g 0) 14 = v4353 := by rw [eI4354, pp_self]
        have fI4367 : FC g [0, 6, 7, 8, 9, 10, 11, 12, 13, 14, 15, 16, 17, 18, 19, 20, 21, 22, 23, 24, 25, 26, 27, 28, 29, 30, 31, 32, 33, 34, 37, 38, 44, 46, 47] I I4354 := by rw [eI4354]; exact FC_pp fI3494 (by decide)
        have fQ4368 : FQ g [1, 2, 3, 4, 5, 6, 7, 8, 9, 10, 11, 12, 13, 14, 15, 16, 17, 18, 19, 51, 68] I I4354 := by rw [eI4354]; exact FQ_pp0 fQ3495 (by decide)
        refine WP_sub (fc rfl fn) (jn3499 I4354 fI4367 fQ4368 ?_)
        · try simp only [e4355, e4356, e4357, e4363, e4364, e4365, e4366, e4358, e4359, e4360, e4361, e4362, ew3395, ew3396, ew3397, ew3398, ew3399, ew3400, ew3401, ew3402, ew3403, ew3404, ew3405, ew3406]
          refine ⟨by rw [eI4354]; exact FC_pp (by rw [eI3481]; exact FC_pp (by rw [eI3466]; exact FC_pp (by rw [eI3451]; exact FC_pp FC_rf (by decide)) (by decide)) (by decide)) (by decide), by first | omega | (rw [e4363]; omega), by first | omega | (rw [e4364]; omega), by first | omega | (rw [e4365]; omega), by first | omega | (rw [e4366]; omega), by first | omega | (rw [e4362]; omega)⟩
      · refine WQ_iconst (0) (0) dX11_town_60 rfl rfl (fun v4369 hv4369 => ?_)
        refine WP_goto 65 dX11_town_61 rfl ?_
        refine WQ_puti dX11_town_65 fX11_224 rfl rfl (ly_is hy 0 11 rfl) (fun I4370 eI4370 => ?_)
        have e4371 : I4370 (ad g 0) 1 = w3425 := by rw [eI4370, pp_ne _ _ (Or.inr (by decide))]; exact e3483
        have e4372 : I4370 (ad g 0) 8 = w3443 := by rw [eI4370, pp_ne _ _ (Or.inr (by decide))]; exact e3484
        have e4373 : I4370 (ad g 0) 9 = w3444 := by rw [eI4370, pp_ne _ _ (Or.inr (by decide))]; exact e3485
        have e4374 : I4370 (ad g 0) 15 = w3445 := by rw [eI4370, pp_ne _ _ (Or.inr (by decide))]; exact e3486
        have e4375 : I4370 (ad g 0) 16 = w3446 := by rw [eI4370, pp_ne _ _ (Or.inr (by decide))]; exact e3487
        have e4376 : I4370 (ad g 0) 17 = w3447 := by rw [eI4370, pp_ne _ _ (Or.inr (by decide))]; exact e3488
        have e4377 : I4370 (ad g 0) 18 = w3448 := by rw [eI4370, pp_ne _ _ (Or.inr (by decide))]; exact e3489
        have e4378 : I4370 (ad g 0) 19 = w3449 := by rw [eI4370, pp_ne _ _ (Or.inr (by decide))]; exact e3490
        have e4379 : I4370 (ad g 0) 10 = w3445 := by rw [eI4370, pp_ne _ _ (Or.inr (by decide))]; exact e3491
        have e4380 : I4370 (ad g 0) 11 = w3446 := by rw [eI4370, pp_ne _ _ (Or.inr (by decide))]; exact e3492
        have e4381 : I4370 (ad g 0) 13 = w3447 := by rw [eI4370, pp_ne _ _ (Or.inr (by decide))]; exact e3493
        have e4382 : I4370 (ad g 0) 14 = v4369 := by rw [eI4370, pp_self]
        have fI4383 : FC g [0, 6, 7, 8, 9, 10, 11, 12, 13, 14, 15, 16, 17, 18, 19, 20, 21, 22, 23, 24, 25, 26, 27, 28, 29, 30, 31, 32, 33, 34, 37, 38, 44, 46, 47] I I4370 := by rw [eI4370]; exact FC_pp fI3494 (by decide)
        have fQ4384 : FQ g [1, 2, 3, 4, 5, 6, 7, 8, 9, 10, 11, 12, 13, 14, 15, 16, 17, 18, 19, 51, 68] I I4370 := by rw [eI4370]; exact FQ_pp0 fQ3495 (by decide)
        refine WP_sub (fc rfl fn) (jn3499 I4370 fI4383 fQ4384 ?_)
        · try simp only [e4371, e4372, e4373, e4379, e4380, e4381, e4382, e4374, e4375, e4376, e4377, e4378, ew3395, ew3396, ew3397, ew3398, ew3399, ew3400, ew3401, ew3402, ew3403, ew3404, ew3405, ew3406]
          refine ⟨by rw [eI4370]; exact FC_pp (by rw [eI3481]; exact FC_pp (by rw [eI3466]; exact FC_pp (by rw [eI3451]; exact FC_pp FC_rf (by decide)) (by decide)) (by decide)) (by decide), by first | omega | (rw [e4379]; omega), by first | omega | (rw [e4380]; omega), by first | omega | (rw [e4381]; omega), by first | omega | (rw [e4382]; omega), by first | omega | (rw [e4378]; omega)⟩
    · have hs36 : S2.2 36 0 = true := by
        cases h36 : S2.2 36 0 with
        | true => rfl
        | false => exact absurd hR1.2.2.2 (by rw [h36]; intro z; rw [if_neg (by decide)] at z; omega)
      have h18 := hR1.2.2.2
      rw [if_pos hs36] at h18
      refine WP_aload_n dX11_town_46 rfl ?_
      refine WQ_getim dX11_town_47 fX11_161 rfl (ly_is hy 0 11 rfl) e3489 ?_
      refine WP_goto 65 dX11_town_50 rfl ?_
      refine WQ_puti dX11_town_65 fX11_224 rfl rfl (ly_is hy 0 11 rfl) (fun I4385 eI4385 => ?_)
      have e4386 : I4385 (ad g 0) 1 = w3425 := by rw [eI4385, pp_ne _ _ (Or.inr (by decide))]; exact e3483
      have e4387 : I4385 (ad g 0) 8 = w3443 := by rw [eI4385, pp_ne _ _ (Or.inr (by decide))]; exact e3484
      have e4388 : I4385 (ad g 0) 9 = w3444 := by rw [eI4385, pp_ne _ _ (Or.inr (by decide))]; exact e3485
      have e4389 : I4385 (ad g 0) 15 = w3445 := by rw [eI4385, pp_ne _ _ (Or.inr (by decide))]; exact e3486
      have e4390 : I4385 (ad g 0) 16 = w3446 := by rw [eI4385, pp_ne _ _ (Or.inr (by decide))]; exact e3487
      have e4391 : I4385 (ad g 0) 17 = w3447 := by rw [eI4385, pp_ne _ _ (Or.inr (by decide))]; exact e3488
      have e4392 : I4385 (ad g 0) 18 = w3448 := by rw [eI4385, pp_ne _ _ (Or.inr (by decide))]; exact e3489
      have e4393 : I4385 (ad g 0) 19 = w3449 := by rw [eI4385, pp_ne _ _ (Or.inr (by decide))]; exact e3490
      have e4394 : I4385 (ad g 0) 10 = w3445 := by rw [eI4385, pp_ne _ _ (Or.inr (by decide))]; exact e3491
      have e4395 : I4385 (ad g 0) 11 = w3446 := by rw [eI4385, pp_ne _ _ (Or.inr (by decide))]; exact e3492
      have e4396 : I4385 (ad g 0) 13 = w3447 := by rw [eI4385, pp_ne _ _ (Or.inr (by decide))]; exact e3493
      have e4397 : I4385 (ad g 0) 14 = w3448 := by rw [eI4385, pp_self]
      have fI4398 : FC g [0, 6, 7, 8, 9, 10, 11, 12, 13, 14, 15, 16, 17, 18, 19, 20, 21, 22, 23, 24, 25, 26, 27, 28, 29, 30, 31, 32, 33, 34, 37, 38, 44, 46, 47] I I4385 := by rw [eI4385]; exact FC_pp fI3494 (by decide)
      have fQ4399 : FQ g [1, 2, 3, 4, 5, 6, 7, 8, 9, 10, 11, 12, 13, 14, 15, 16, 17, 18, 19, 51, 68] I I4385 := by rw [eI4385]; exact FQ_pp0 fQ3495 (by decide)
      refine WP_sub (fc rfl fn) (jn3499 I4385 fI4398 fQ4399 ?_)
      · try simp only [e4386, e4387, e4388, e4394, e4395, e4396, e4397, e4389, e4390, e4391, e4392, e4393, ew3395, ew3396, ew3397, ew3398, ew3399, ew3400, ew3401, ew3402, ew3403, ew3404, ew3405, ew3406]
        refine ⟨by rw [eI4385]; exact FC_pp (by rw [eI3481]; exact FC_pp (by rw [eI3466]; exact FC_pp (by rw [eI3451]; exact FC_pp FC_rf (by decide)) (by decide)) (by decide)) (by decide), by first | omega | (rw [e4394]; omega), by first | omega | (rw [e4395]; omega), by first | omega | (rw [e4396]; omega), by first | omega | (rw [e4397]; omega), by first | omega | (rw [e4393]; omega)⟩
  · refine WQ_iconst (-1) (-1) dX11_town_11 rfl rfl (fun v4400 hv4400 => ?_)
    exact WP_iret dX11_town_12 rfl ⟨rfl, fI3440, fJ3441, fQ3442, v4400, rfl, by
      try simp only [e3435, e3436, e3437, e3438, e3439, ew3443, ew3444, ew3445, ew3446, ew3447, ew3448, ew3449, ew3395, ew3396, ew3397, ew3398, ew3399, ew3400, ew3401, ew3402, ew3403, ew3404, ew3405, ew3406]
      rcases p3428 with ⟨z, e⟩ | ⟨z, -⟩
      · exact Or.inl ⟨by omega, e, FC_tr (FC_mono g3410 (by decide)) (FC_mono g3432 (by decide)), FC_tr (FC_mono g3411 (by decide)) (FC_mono g3433 (by decide)), FQ_tr (FQ_mono g3412 (by decide)) (FQ_mono g3434 (by decide))⟩
      · exact absurd z (by omega)⟩
