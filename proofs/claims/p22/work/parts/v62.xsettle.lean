/-! FOUR BYTES of an int; a row with bytes put behind; STAMPS; the market, a run as they begin -/
def by4 (v : Int32) : Nat → Int32
  | 0 => vp_nar .byte ((v >>> (24 &&& 31)).toInt8.toInt32)
  | 1 => vp_nar .byte ((v >>> (16 &&& 31)).toInt8.toInt32)
  | 2 => vp_nar .byte ((v >>> (8 &&& 31)).toInt8.toInt32)
  | _ => vp_nar .byte ((v >>> (0 &&& 31)).toInt8.toInt32)
theorem by4_of {x y u b : Int32} {k : Nat} (hk : k < 4) (hy : y.toInt = 24 - 8 * (k : Int)) (x1 : u = x >>> (y &&& 31)) (x2 : b = u.toInt8.toInt32) : vp_nar .byte b = by4 x k := by
  subst x2
  subst x1
  match k, hk with
  | 0, _ => rw [(eq32 y 24).mpr (by rw [hy]; rfl)]; rfl
  | 1, _ => rw [(eq32 y 16).mpr (by rw [hy]; rfl)]; rfl
  | 2, _ => rw [(eq32 y 8).mpr (by rw [hy]; rfl)]; rfl
  | 3, _ => rw [(eq32 y 0).mpr (by rw [hy]; rfl)]; rfl
def PUT (f : Nat → Int32) (n : Nat) (v : Int32) (k : Nat) : Nat → Int32 := fun q => if n ≤ q ∧ q < n + k then by4 v (q - n) else f q
theorem PUT_0 {f : Nat → Int32} {n : Nat} {v : Int32} : PUT f n v 0 = f := funext fun q => by
  unfold PUT
  rw [if_neg (by omega)]
theorem PUT_s {f : Nat → Int32} {n k : Nat} {v b : Int32} (hb : b = by4 v k) : (fun q => if q = n + k then b else PUT f n v k q) = PUT f n v (k + 1) := funext fun q => by
  unfold PUT
  by_cases h : q = n + k
  · subst h
    rw [if_pos rfl, if_pos (by omega), hb, show n + k - n = k by omega]
  · rw [if_neg h]
    by_cases h2 : n ≤ q ∧ q < n + k
    · rw [if_pos h2, if_pos (by omega)]
    · rw [if_neg h2, if_neg (by omega)]
theorem PUT_eq {f f' : Nat → Int32} {n k q : Nat} {v : Int32} (h : f q = f' q) : PUT f n v k q = PUT f' n v k q := by
  unfold PUT
  split
  · rfl
  · exact h
def PUT5 (f : Nat → Int32) (n : Nat) (a b c d e : Int32) : Nat → Int32 := PUT (PUT (PUT (PUT (PUT f n a 4) (n + 4) b 4) (n + 4 + 4) c 4) (n + 4 + 4 + 4) d 4) (n + 4 + 4 + 4 + 4) e 4
theorem PUT5_eq {f f' : Nat → Int32} {n q : Nat} {a b c d e : Int32} (h : f q = f' q) : PUT5 f n a b c d e q = PUT5 f' n a b c d e q := PUT_eq (PUT_eq (PUT_eq (PUT_eq (PUT_eq h))))
theorem pp_fun {α : Type} (f : Nat → Nat → α) (a q : Nat) (v : α) : pp f a q v a = fun k => if k = q then v else f a k := funext fun k => pp_at f a q v k
def cstS (S : TwS) : Int := if S.1 0 4 = -1 then 0 else S.1 11 (S.1 0 4).toNat
def splS (S : TwS) : Int := if S.1 0 4 = -1 then 0 else S.1 10 (S.1 0 4).toNat
/-- the market as a town opens it -/
def MKX (g : GG) (S : TwS) (I : pI) : Prop :=
  (∀ q : Nat, (q : Int) < 7 * S.1 0 2 → (I (ad g 22) q).toInt = S.1 12 q) ∧ (∀ q, q < 7 → (I (ad g 23) q).toInt = S.1 1 q) ∧
  (∀ d c : Nat, d < 7 → c < 61 → (I (ad g 24) (d * 61 + c)).toInt = c - stp c (S.1 1 d)) ∧
  (∀ u : Nat, u < 6 → (I (ad g 25) u).toInt = u * cstS S) ∧ (∀ u : Nat, u < 6 → (I (ad g 26) u).toInt = u - u * splS S / 1000)
def BG0 (S : TwS) (q : Nat) : Int := if q % 7 = 0 ∧ ((q / 7 : Nat) : Int) < S.1 0 1 then S.1 4 (q / 7) else 0
/-- a run as it begins: its fields at cell c, its facts at cell f -/
def BGX (g : GG) (c f : Nat) (S : TwS) (I : pI) (J : pJ) : Prop := (I (ad g c) 0).toInt = 0 ∧ (I (ad g c) 1).toInt = 0 ∧ (I (ad g c) 2).toInt = 0 ∧ (J (ad g c) 3).toInt = 0 ∧ ∀ q : Nat, q < 28 → (I (ad g f) q).toInt = BG0 S q
/-- all that begins anew with a town -/
def STX (g : GG) (S : TwS) (I : pI) (J : pJ) : Prop := MKX g S I ∧ BGX g 53 55 S I J ∧ (∀ q, q < 4 → (I (ad g 54) q).toInt = 1) ∧ ((I (ad g 60) 0).toInt = -1 ∧ (I (ad g 63) 0).toInt = -1 ∧ (I (ad g 66) 0).toInt = -1) ∧ (∀ q, q < 8 → (I (ad g 73) q).toInt = 0) ∧ (I (ad g 0) 11).toInt = -1
set_option maxHeartbeats 4000000 in
set_option maxRecDepth 100000 in
theorem ex_put {g : GG} {I : pI} {J : pJ} {R : pR} (hy : LyX g) (hr : RfX g R) {n : Nat} (four : Int32) (h1 : (I (ad g 1) 1).toInt = (n : Int)) (hn : n + 4 ≤ 900) : SP g mX5_put [.ref (ad g 1), .int four] I J R (fun r I' J' R' => R' = R ∧ FC g [1, 2] I I' ∧ FC g [] J J' ∧ r = none ∧ ((I' (ad g 1) 1).toInt = (n + 4 : Nat) ∧ I' (ad g 2) = PUT (I (ad g 2)) n four 4)) := by
  refine SP_of ⟨by decide, rfl⟩ (Nat.le_of_ble_eq_true rfl) ?_
  have fI0 : FC g [1, 2] I I := FC_rf
  have fJ0 : FC g [] J J := FC_rf
  obtain ⟨w2592, ew2592⟩ : ∃ w : Int32, I (ad g 1) 1 = w := ⟨_, rfl⟩
  try simp only [ew2592] at h1
  refine WQ_bipush (24) (24) dX5_put_0 rfl rfl (fun v2593 hv2593 => ?_)
  refine WP_istore_n (ls' := [(0, _), (1, _), (2, _)]) dX5_put_2 (by decide) rfl ?_
  have lp2598 : ∀ (mz : Nat) (i2594 : Int32) (I2595 : pI), FC g [1, 2] I I2595 → (∃ k : Nat, k ≤ 4 ∧ i2594.toInt = 24 - 8 * (k : Int) ∧ (I2595 (ad g 1) 1).toInt = (n : Int) + k ∧ I2595 (ad g 2) = PUT (I (ad g 2)) n four k) → (i2594.toInt + 9).toNat < mz → WP g mX5_put 3 [(0, .ref (ad g 1)), (1, .int four), (2, .int i2594)] [] I2595 J R (fun r I' J' R' => R' = R ∧ FC g [1, 2] I I' ∧ FC g [] J J' ∧ r = none ∧ ((I' (ad g 1) 1).toInt = (n + 4 : Nat) ∧ I' (ad g 2) = PUT (I (ad g 2)) n four 4)) := by
    intro mz
    induction mz with
    | zero =>
      intro i2594 I2595 fI2596 hvlp2598 hmlp2598
      exact absurd hmlp2598 (Nat.not_lt_zero _)
    | succ mz ihlp2598 =>
      intro i2594 I2595 fI2596 hvlp2598 hmlp2598
      obtain ⟨w2599, ew2599⟩ : ∃ w : Int32, I2595 (ad g 1) 1 = w := ⟨_, rfl⟩
      try simp only [ew2599, ew2592] at hvlp2598 hmlp2598
      obtain ⟨k, ik, i2, i1, iP⟩ := hvlp2598
      refine WP_iload_n dX5_put_3 rfl ?_
      refine WQ_if_lt 46 dX5_put_4 rfl (fun c2599 => ?_) (fun c2599 => ?_)
      · exact WP_vret dX5_put_46 rfl ⟨rfl, fI2596, fJ0, rfl, by
          try simp only [ew2599, ew2592]
          obtain rfl : k = 4 := by omega
          exact ⟨by omega, iP⟩⟩
      · refine WP_aload_n dX5_put_7 rfl ?_
        refine WQ_getim dX5_put_8 fX5_15 rfl (lyx_is hy 1 5 rfl) ew2599 ?_
        refine WQ_sipush (900) (900) dX5_put_11 rfl rfl (fun v2601 hv2601 => ?_)
        refine WQ_icmp_ge 40 dX5_put_14 rfl (fun c2601 => False.elim (by omega)) (fun c2601 => ?_)
        refine WP_aload_n dX5_put_17 rfl ?_
        refine WP_getr dX5_put_18 fX5_9 rfl (lyx_is hy 1 5 rfl) (rfx hr 1 0 2 (by decide)) ?_
        refine WP_aload_n dX5_put_21 rfl ?_
        refine WQ_getim dX5_put_22 fX5_15 rfl (lyx_is hy 1 5 rfl) ew2599 ?_
        refine WP_iload_n dX5_put_25 rfl ?_
        refine WP_iload_n dX5_put_26 rfl ?_
        refine WP_ishr dX5_put_27 ?_
        obtain ⟨v2603, xv2603⟩ : ∃ v : Int32, v = four >>> (i2594 &&& 31) := ⟨_, rfl⟩
        rw [← xv2603]
        refine WP_i2b dX5_put_28 ?_
        obtain ⟨v2604, xv2604⟩ : ∃ v : Int32, v = v2603.toInt8.toInt32 := ⟨_, rfl⟩
        rw [← xv2604]
        refine WE_bs dX5_put_29 (lyx_is hy 2 12 rfl) (lyx_n hy 2 900 rfl) (by omega) (by omega) (fun I2605 eI2605 => ?_)
        have e2606 : I2605 (ad g 1) 1 = w2599 := by rw [eI2605, pp_ne _ _ (Or.inl (lyx_ne hy (by decide) (by decide) (by decide)))]; exact ew2599
        have fI2607 : FC g [1, 2] I I2605 := by rw [eI2605]; exact FC_pp fI2596 (by decide)
        refine WP_aload_n dX5_put_30 rfl ?_
        refine WP_dup dX5_put_31 rfl ?_
        refine WQ_getim dX5_put_32 fX5_15 rfl (lyx_is hy 1 5 rfl) e2606 ?_
        refine WQ_iconst (1) (1) dX5_put_35 rfl rfl (fun v2608 hv2608 => ?_)
        refine WQ_iadd dX5_put_36 (by omega) (by omega) (fun v2609 hv2609 => ?_)
        refine WQ_puti dX5_put_37 fX5_15 rfl rfl (lyx_is hy 1 5 rfl) (fun I2610 eI2610 => ?_)
        have e2611 : I2610 (ad g 1) 1 = v2609 := by rw [eI2610, pp_self]
        have fI2612 : FC g [1, 2] I I2610 := by rw [eI2610]; exact FC_pp fI2607 (by decide)
        refine WP_iinc (ls' := [(0, _), (1, _), (2, _)]) dX5_put_40 rfl (by decide) rfl ?_
        have hv2613 : (i2594 + Int32.ofInt (-8)).toInt = i2594.toInt + (-8) := ia_n rfl (by omega) (by omega)
        generalize i2594 + Int32.ofInt (-8) = v2613 at hv2613 ⊢
        refine WP_goto 3 dX5_put_43 rfl ?_
        refine WP_sub (fc rfl (fc rfl (fc rfl fn))) (ihlp2598 v2613 I2610 fI2612 ?_ ?_)
        · try simp only [e2611, ew2592]
          refine ⟨k + 1, by omega, by omega, by omega, ?_⟩
          rw [eI2610, pp_off _ _ (lyx_ne hy (by decide) (by decide) (by decide)), eI2605, show w2599.toInt.toNat = n + k by omega, pp_fun, iP]
          exact PUT_s (by4_of (by omega) (by omega) xv2603 xv2604)
        · try simp only [e2611, ew2592]
          omega
  refine WP_sub (fc rfl (fc rfl (fc rfl fn))) (lp2598 _ v2593 I fI0 ?_ (Nat.lt_succ_self _))
  · try simp only [ew2592]
    exact ⟨0, by omega, by omega, by omega, PUT_0.symm⟩
set_option maxHeartbeats 4000000 in
set_option maxRecDepth 100000 in
theorem ex_feed {g : GG} {I : pI} {J : pJ} {R : pR} (hy : LyX g) (hr : RfX g R) {n : Nat} (a : Int32) (b : Int32) (c : Int32) (d : Int32) (e : Int32) (h1 : (I (ad g 1) 1).toInt = (n : Int)) (hn : n ≤ 900) : SP g mX10_feed [.ref (ad g 0), .int a, .int b, .int c, .int d, .int e] I J R (fun r I' J' R' => R' = R ∧ FC g [1, 2] I I' ∧ FC g [] J J' ∧ ∃ v : Int32, r = some (.int v) ∧ ((880 < n ∧ v.toInt = -3 ∧ I' (ad g 2) = I (ad g 2)) ∨ (n ≤ 880 ∧ v.toInt = (n : Int) + 20 ∧ I' (ad g 2) = PUT5 (I (ad g 2)) n a b c d e))) := by
  refine SP_of ⟨by decide, rfl⟩ (Nat.le_of_ble_eq_true rfl) ?_
  have fI0 : FC g [1, 2] I I := FC_rf
  have fJ0 : FC g [] J J := FC_rf
  have h1x := h1
  obtain ⟨w2614, ew2614⟩ : ∃ w : Int32, I (ad g 1) 1 = w := ⟨_, rfl⟩
  try simp only [ew2614] at h1
  refine WP_aload_n dX10_feed_0 rfl ?_
  refine WP_getr dX10_feed_1 fX10_12 rfl (lyx_is hy 0 10 rfl) (rfx hr 0 0 1 (by decide)) ?_
  refine WQ_getim dX10_feed_4 fX10_90 rfl (lyx_is hy 1 5 rfl) ew2614 ?_
  refine WQ_bipush (20) (20) dX10_feed_7 rfl rfl (fun v2615 hv2615 => ?_)
  refine WQ_iadd dX10_feed_9 (by omega) (by omega) (fun v2616 hv2616 => ?_)
  refine WQ_sipush (900) (900) dX10_feed_10 rfl rfl (fun v2617 hv2617 => ?_)
  refine WQ_icmp_le 19 dX10_feed_13 rfl (fun c2617 => ?_) (fun c2617 => ?_)
  · refine WP_aload_n dX10_feed_19 rfl ?_
    refine WP_getr dX10_feed_20 fX10_12 rfl (lyx_is hy 0 10 rfl) (rfx hr 0 0 1 (by decide)) ?_
    refine WP_iload_n dX10_feed_23 rfl ?_
    refine WP_callV1 (k := 5) dX10_feed_24 ⟨⟨⟨by decide, by decide⟩, zX5_put⟩, lX10_94, by decide, rfl, vX5_put.1, vX5_put.2⟩ (lyx_is hy 1 5 rfl) (ex_put hy hr _  (n := n) h1x (by omega)) (Nat.le_of_ble_eq_true rfl) ?_
    intro r I2620 J2621 Ra hq
    obtain ⟨ec, g2622, g2623, er, p2619⟩ := hq
    rw [ec, er]
    clear ec er Ra r
    have fI2625 : FC g [1, 2] I I2620 := FC_tr fI0 (FC_mono g2622 (by decide))
    have fJ2626 : FC g [] J J2621 := FC_tr fJ0 (FC_mono g2623 (by decide))
    obtain ⟨w2627, ew2627⟩ : ∃ w : Int32, I2620 (ad g 1) 1 = w := ⟨_, rfl⟩
    try simp only [ew2627, ew2614] at p2619
    obtain ⟨a1, b1⟩ := p2619
    refine WP_aload_n dX10_feed_27 rfl ?_
    refine WP_getr dX10_feed_28 fX10_12 rfl (lyx_is hy 0 10 rfl) (rfx hr 0 0 1 (by decide)) ?_
    refine WP_iload_n dX10_feed_31 rfl ?_
    refine WP_callV1 (k := 5) dX10_feed_32 ⟨⟨⟨by decide, by decide⟩, zX5_put⟩, lX10_94, by decide, rfl, vX5_put.1, vX5_put.2⟩ (lyx_is hy 1 5 rfl) (ex_put hy hr _  (n := n + 4) (by rw [ew2627]; exact a1) (by omega)) (Nat.le_of_ble_eq_true rfl) ?_
    intro r I2629 J2630 Ra hq
    obtain ⟨ec, g2631, g2632, er, p2628⟩ := hq
    rw [ec, er]
    clear ec er Ra r
    have fI2634 : FC g [1, 2] I I2629 := FC_tr fI2625 (FC_mono g2631 (by decide))
    have fJ2635 : FC g [] J J2630 := FC_tr fJ2626 (FC_mono g2632 (by decide))
    obtain ⟨w2636, ew2636⟩ : ∃ w : Int32, I2629 (ad g 1) 1 = w := ⟨_, rfl⟩
    try simp only [ew2636, ew2614] at p2628
    obtain ⟨a2, b2⟩ := p2628
    refine WP_aload_n dX10_feed_35 rfl ?_
    refine WP_getr dX10_feed_36 fX10_12 rfl (lyx_is hy 0 10 rfl) (rfx hr 0 0 1 (by decide)) ?_
    refine WP_iload_n dX10_feed_39 rfl ?_
    refine WP_callV1 (k := 5) dX10_feed_40 ⟨⟨⟨by decide, by decide⟩, zX5_put⟩, lX10_94, by decide, rfl, vX5_put.1, vX5_put.2⟩ (lyx_is hy 1 5 rfl) (ex_put hy hr _  (n := n + 4 + 4) (by rw [ew2636]; exact a2) (by omega)) (Nat.le_of_ble_eq_true rfl) ?_
    intro r I2638 J2639 Ra hq
    obtain ⟨ec, g2640, g2641, er, p2637⟩ := hq
    rw [ec, er]
    clear ec er Ra r
    have fI2643 : FC g [1, 2] I I2638 := FC_tr fI2634 (FC_mono g2640 (by decide))
    have fJ2644 : FC g [] J J2639 := FC_tr fJ2635 (FC_mono g2641 (by decide))
    obtain ⟨w2645, ew2645⟩ : ∃ w : Int32, I2638 (ad g 1) 1 = w := ⟨_, rfl⟩
    try simp only [ew2645, ew2614] at p2637
    obtain ⟨a3, b3⟩ := p2637
    refine WP_aload_n dX10_feed_43 rfl ?_
    refine WP_getr dX10_feed_44 fX10_12 rfl (lyx_is hy 0 10 rfl) (rfx hr 0 0 1 (by decide)) ?_
    refine WP_iload dX10_feed_47 rfl ?_
    refine WP_callV1 (k := 5) dX10_feed_49 ⟨⟨⟨by decide, by decide⟩, zX5_put⟩, lX10_94, by decide, rfl, vX5_put.1, vX5_put.2⟩ (lyx_is hy 1 5 rfl) (ex_put hy hr _  (n := n + 4 + 4 + 4) (by rw [ew2645]; exact a3) (by omega)) (Nat.le_of_ble_eq_true rfl) ?_
    intro r I2647 J2648 Ra hq
    obtain ⟨ec, g2649, g2650, er, p2646⟩ := hq
    rw [ec, er]
    clear ec er Ra r
    have fI2652 : FC g [1, 2] I I2647 := FC_tr fI2643 (FC_mono g2649 (by decide))
    have fJ2653 : FC g [] J J2648 := FC_tr fJ2644 (FC_mono g2650 (by decide))
    obtain ⟨w2654, ew2654⟩ : ∃ w : Int32, I2647 (ad g 1) 1 = w := ⟨_, rfl⟩
    try simp only [ew2654, ew2614] at p2646
    obtain ⟨a4, b4⟩ := p2646
    refine WP_aload_n dX10_feed_52 rfl ?_
    refine WP_getr dX10_feed_53 fX10_12 rfl (lyx_is hy 0 10 rfl) (rfx hr 0 0 1 (by decide)) ?_
    refine WP_iload dX10_feed_56 rfl ?_
    refine WP_callV1 (k := 5) dX10_feed_58 ⟨⟨⟨by decide, by decide⟩, zX5_put⟩, lX10_94, by decide, rfl, vX5_put.1, vX5_put.2⟩ (lyx_is hy 1 5 rfl) (ex_put hy hr _  (n := n + 4 + 4 + 4 + 4) (by rw [ew2654]; exact a4) (by omega)) (Nat.le_of_ble_eq_true rfl) ?_
    intro r I2656 J2657 Ra hq
    obtain ⟨ec, g2658, g2659, er, p2655⟩ := hq
    rw [ec, er]
    clear ec er Ra r
    have fI2661 : FC g [1, 2] I I2656 := FC_tr fI2652 (FC_mono g2658 (by decide))
    have fJ2662 : FC g [] J J2657 := FC_tr fJ2653 (FC_mono g2659 (by decide))
    obtain ⟨w2663, ew2663⟩ : ∃ w : Int32, I2656 (ad g 1) 1 = w := ⟨_, rfl⟩
    try simp only [ew2663, ew2614] at p2655
    obtain ⟨a5, b5⟩ := p2655
    refine WP_aload_n dX10_feed_61 rfl ?_
    refine WP_getr dX10_feed_62 fX10_12 rfl (lyx_is hy 0 10 rfl) (rfx hr 0 0 1 (by decide)) ?_
    refine WQ_getim dX10_feed_65 fX10_90 rfl (lyx_is hy 1 5 rfl) ew2663 ?_
    exact WP_iret dX10_feed_68 rfl ⟨rfl, fI2661, fJ2662, w2663, rfl, by
      try simp only [ew2663, ew2614]
      refine Or.inr ⟨by omega, by omega, ?_⟩
      rw [b5, b4, b3, b2, b1]
      rfl⟩
  · refine WQ_bipush (-3) (-3) dX10_feed_16 rfl rfl (fun v2664 hv2664 => ?_)
    exact WP_iret dX10_feed_18 rfl ⟨rfl, fI0, fJ0, v2664, rfl, by
      try simp only [ew2614]
      exact Or.inl ⟨by omega, by omega, by first | rfl | trivial⟩⟩
set_option maxHeartbeats 4000000 in
set_option maxRecDepth 100000 in
theorem ex_pricesAsTolda {g : GG} {I : pI} {J : pJ} {R : pR} (hy : LyX g) (hr : RfX g R)   (hT : R (ad g 5) 0 = some (ad g 6)) : SP g mX0_pricesAsTold [.ref (ad g 5)] I J R (fun r I' J' R' => R' = R ∧ FC g [22] I I' ∧ FC g [] J J' ∧ r = none ∧ (∀ q, q < 21 → I' (ad g 22) q = I (ad g 18) q)) := by
  refine SP_of ⟨by decide, rfl⟩ (Nat.le_of_ble_eq_true rfl) ?_
  have fI0 : FC g [22] I I := FC_rf
  have fJ0 : FC g [] J J := FC_rf
  refine WP_aload_n dX0_pricesAsTold_0 rfl ?_
  refine WP_getr dX0_pricesAsTold_1 fX0_27 rfl (lyx_is hy 5 0 rfl) hT ?_
  refine WP_getr dX0_pricesAsTold_4 fX0_49 rfl (lyx_is hy 6 7 rfl) (rfx hr 6 16 18 (by decide)) ?_
  refine WQ_iconst (0) (0) dX0_pricesAsTold_7 rfl rfl (fun v2698 hv2698 => ?_)
  refine WP_aload_n dX0_pricesAsTold_8 rfl ?_
  refine WP_getr dX0_pricesAsTold_9 fX0_9 rfl (lyx_is hy 5 0 rfl) (rfx hr 5 1 22 (by decide)) ?_
  refine WQ_iconst (0) (0) dX0_pricesAsTold_12 rfl rfl (fun v2699 hv2699 => ?_)
  refine WP_aload_n dX0_pricesAsTold_13 rfl ?_
  refine WP_getr dX0_pricesAsTold_14 fX0_9 rfl (lyx_is hy 5 0 rfl) (rfx hr 5 1 22 (by decide)) ?_
  refine WP_alen dX0_pricesAsTold_17 (lyx_is hy 22 13 rfl) (by decide) ?_
  rw [(lyx_n hy 22 21 rfl)]
  obtain ⟨v2700, hv2700, ev2700⟩ : ∃ v : Int32, v.toInt = 21 ∧ nI 21 = v := ⟨_, nI_toInt (by decide), rfl⟩
  rw [ev2700]; clear ev2700
  refine WQ_copy0 (N := 21) dX0_pricesAsTold_18 lX0_50 ⟨by decide, Nat.le_of_ble_eq_true rfl⟩ (lyx_is hy 18 13 rfl) (lyx_is hy 22 13 rfl) hv2698 hv2699 hv2700 (lyx_n hy 18 21 rfl) (lyx_n hy 22 21 rfl) (fun I2701 cI2701 oI2701 => ?_)
  have g2702 : FC g [22] I I2701 := fun b hb => oI2701 b (hb 22 (by decide))
  have fI2703 : FC g [22] I I2701 := FC_tr fI0 (FC_mono g2702 (by decide))
  exact WP_vret dX0_pricesAsTold_21 rfl ⟨rfl, fI2703, fJ0, rfl, by
    exact cI2701⟩
set_option maxHeartbeats 4000000 in
set_option maxRecDepth 100000 in
theorem ex_opena {g : GG} {I : pI} {J : pJ} {R : pR} (hy : LyX g) (hr : RfX g R) {S : TwS}  (hT : R (ad g 5) 0 = some (ad g 6)) (hS : RTW g 6 S I J) (hD : TBD S) (hB : SBn S) : SP g mX0_open [.ref (ad g 5)] I J R (fun r I' J' R' => R' = R ∧ FC g [22, 23, 24, 25, 26] I I' ∧ FC g [] J J' ∧ r = none ∧ (MKX g S I')) := by
  refine SP_of ⟨by decide, rfl⟩ (Nat.le_of_ble_eq_true rfl) ?_
  have fI0 : FC g [22, 23, 24, 25, 26] I I := FC_rf
  have fJ0 : FC g [] J J := FC_rf
  have hx4 := hS.1.2.2.2.2
  have hB2 := hB
  unfold SBn at hB2
  have hD2 := hD.2.2.1
  have hz4 := hx4
  obtain ⟨w2718, ew2718⟩ : ∃ w : Int32, I (ad g 6) 4 = w := ⟨_, rfl⟩
  try simp only [ew2718] at hx4
  refine WP_aload_n dX0_open_0 rfl ?_
  refine WP_getr dX0_open_1 fX0_27 rfl (lyx_is hy 5 0 rfl) hT ?_
  refine WQ_getim dX0_open_4 fX0_31 rfl (lyx_is hy 6 7 rfl) ew2718 ?_
  refine WQ_iconst (-1) (-1) dX0_open_7 rfl rfl (fun v2719 hv2719 => ?_)
  refine WQ_icmp_ne 15 dX0_open_8 rfl (fun c2719 => ?_) (fun c2719 => ?_)
  · refine WP_aload_n dX0_open_15 rfl ?_
    refine WP_getr dX0_open_16 fX0_27 rfl (lyx_is hy 5 0 rfl) hT ?_
    refine WP_getr dX0_open_19 fX0_37 rfl (lyx_is hy 6 7 rfl) (rfx hr 6 15 17 (by decide)) ?_
    refine WP_aload_n dX0_open_22 rfl ?_
    refine WP_getr dX0_open_23 fX0_27 rfl (lyx_is hy 5 0 rfl) hT ?_
    refine WQ_getim dX0_open_26 fX0_31 rfl (lyx_is hy 6 7 rfl) ew2718 ?_
    refine WE_ia dX0_open_29 (lyx_is hy 17 13 rfl) (lyx_n hy 17 3 rfl) (by omega) (by omega) (fun v2721 ev2721 => ?_)
    have hcs : v2721.toInt = cstS S := by
      unfold cstS
      rw [if_neg (by omega), ← ev2721, show w2718.toInt.toNat = (S.1 0 4).toNat by omega]
      exact RTW_T hS (c := 11) (by decide) (by omega)
    have hcb := hD.1.2.2.2 (S.1 0 4).toNat (by omega)
    have hcb2 : 0 ≤ cstS S ∧ cstS S ≤ 9 := by unfold cstS; rw [if_neg (by omega)]; exact hcb
    refine WP_istore_n (ls' := [(0, _), (1, _)]) dX0_open_30 (by decide) rfl ?_
    refine WP_aload_n dX0_open_31 rfl ?_
    refine WP_getr dX0_open_32 fX0_27 rfl (lyx_is hy 5 0 rfl) hT ?_
    refine WQ_getim dX0_open_35 fX0_31 rfl (lyx_is hy 6 7 rfl) ew2718 ?_
    refine WQ_iconst (-1) (-1) dX0_open_38 rfl rfl (fun v2722 hv2722 => ?_)
    refine WQ_icmp_ne 46 dX0_open_39 rfl (fun c2722 => ?_) (fun c2722 => False.elim (by omega))
    refine WP_aload_n dX0_open_46 rfl ?_
    refine WP_getr dX0_open_47 fX0_27 rfl (lyx_is hy 5 0 rfl) hT ?_
    refine WP_getr dX0_open_50 fX0_40 rfl (lyx_is hy 6 7 rfl) (rfx hr 6 14 16 (by decide)) ?_
    refine WP_aload_n dX0_open_53 rfl ?_
    refine WP_getr dX0_open_54 fX0_27 rfl (lyx_is hy 5 0 rfl) hT ?_
    refine WQ_getim dX0_open_57 fX0_31 rfl (lyx_is hy 6 7 rfl) ew2718 ?_
    refine WE_ia dX0_open_60 (lyx_is hy 16 13 rfl) (lyx_n hy 16 3 rfl) (by omega) (by omega) (fun v2724 ev2724 => ?_)
    have hss : v2724.toInt = splS S := by
      unfold splS
      rw [if_neg (by omega), ← ev2724, show w2718.toInt.toNat = (S.1 0 4).toNat by omega]
      exact RTW_T hS (c := 10) (by decide) (by omega)
    have hsb := hD.1.2.2.1 (S.1 0 4).toNat (by omega)
    have hsb2 : 0 ≤ splS S ∧ splS S ≤ 1000 := by unfold splS; rw [if_neg (by omega)]; exact hsb
    refine WP_istore_n (ls' := [(0, _), (1, _), (2, _)]) dX0_open_61 (by decide) rfl ?_
    refine WQ_iconst (0) (0) dX0_open_62 rfl rfl (fun v2725 hv2725 => ?_)
    refine WP_istore_n (ls' := [(0, _), (1, _), (2, _), (3, _)]) dX0_open_63 (by decide) rfl ?_
    have q1 : v2721.toInt = cstS S := by omega
    have q2 : v2724.toInt = splS S := by omega
    have q3 : 0 ≤ cstS S ∧ cstS S ≤ 9 := by omega
    have q4 : 0 ≤ splS S ∧ splS S ≤ 1000 := by omega
    have lp2730 : ∀ (mz : Nat) (i2726 : Int32) (I2727 : pI), FC g [22, 23, 24, 25, 26] I I2727 → (∃ u : Nat, i2726.toInt = (u : Int) ∧ u ≤ 6 ∧ (∀ x : Nat, x < u → (I2727 (ad g 25) x).toInt = x * cstS S) ∧ (∀ x : Nat, x < u → (I2727 (ad g 26) x).toInt = x - x * splS S / 1000)) → (7 - i2726.toInt.toNat) < mz → WP g mX0_open 64 [(0, .ref (ad g 5)), (1, .int v2721), (2, .int v2724), (3, .int i2726)] [] I2727 J R (fun r I' J' R' => R' = R ∧ FC g [22, 23, 24, 25, 26] I I' ∧ FC g [] J J' ∧ r = none ∧ (MKX g S I')) := by
      intro mz
      induction mz with
      | zero =>
        intro i2726 I2727 fI2728 hvlp2730 hmlp2730
        exact absurd hmlp2730 (Nat.not_lt_zero _)
      | succ mz ihlp2730 =>
        intro i2726 I2727 fI2728 hvlp2730 hmlp2730
        obtain ⟨w2731, ew2731⟩ : ∃ w : Int32, I2727 (ad g 6) 4 = w := ⟨_, rfl⟩
        try simp only [ew2731, ew2718] at hvlp2730 hmlp2730
        obtain ⟨u, iu, iu6, iA, iB⟩ := hvlp2730
        refine WP_iload_n dX0_open_64 rfl ?_
        refine WQ_bipush (6) (6) dX0_open_65 rfl rfl (fun v2732 hv2732 => ?_)
        refine WQ_icmp_ge 100 dX0_open_67 rfl (fun c2732 => ?_) (fun c2732 => ?_)
        · have fB := fI2728
          refine WP_aload_n dX0_open_100 rfl ?_
          refine WP_callV0 (k := 0) dX0_open_101 ⟨⟨⟨by decide, by decide⟩, zX0_pricesAsTold⟩, lX0_43, by decide, rfl, vX0_pricesAsTold.1, vX0_pricesAsTold.2⟩ (lyx_is hy 5 0 rfl) (ex_pricesAsTolda hy hr   hT) (Nat.le_of_ble_eq_true rfl) ?_
          intro r I2735 J2736 Ra hq
          obtain ⟨ec, g2737, g2738, er, p2734⟩ := hq
          rw [ec, er]
          clear ec er Ra r
          have e2740 : I2735 (ad g 6) 4 = w2731 := by rw [FCx_at hy g2737 6 (by decide) (by decide)]; exact ew2731
          have fI2741 : FC g [22, 23, 24, 25, 26] I I2735 := FC_tr fI2728 (FC_mono g2737 (by decide))
          have fJ2742 : FC g [] J J2736 := FC_tr fJ0 (FC_mono g2738 (by decide))
          try simp only [e2740, ew2718] at p2734
          refine WP_aload_n dX0_open_104 rfl ?_
          refine WP_callV0 (k := 0) dX0_open_105 ⟨⟨⟨by decide, by decide⟩, zX0_lossesAsTold⟩, lX0_46, by decide, rfl, vX0_lossesAsTold.1, vX0_lossesAsTold.2⟩ (lyx_is hy 5 0 rfl) (ex_lossesAsTolda hy hr   hT (by intro q hq; rw [FCx_at hy fI2741 7 (by decide) (by decide), hS.2.1 q hq]; have z := hD.1.1.1 q (by omega); omega)) (Nat.le_of_ble_eq_true rfl) ?_
          intro r I2744 J2745 Ra hq
          obtain ⟨ec, g2746, g2747, er, p2743⟩ := hq
          rw [ec, er]
          clear ec er Ra r
          have e2749 : I2744 (ad g 6) 4 = w2731 := by rw [FCx_at hy g2746 6 (by decide) (by decide)]; exact e2740
          have fI2750 : FC g [22, 23, 24, 25, 26] I I2744 := FC_tr fI2741 (FC_mono g2746 (by decide))
          have fJ2751 : FC g [] J J2745 := FC_tr fJ2742 (FC_mono g2747 (by decide))
          try simp only [e2749, ew2718] at p2743
          exact WP_vret dX0_open_108 rfl ⟨rfl, fI2750, fJ2751, rfl, by
            try simp only [e2749, ew2718]
            have fa := g2746
            have fb := g2737
            refine ⟨fun q hq => ?_, fun q hq => ?_, fun d c hd hc => ?_, fun u hu => ?_, fun u hu => ?_⟩
            · rw [FCx_at hy fa 22 (by decide) (by decide), p2734 q (by omega), FCx_at hy fB 18 (by decide) (by decide)]; exact hS.2.2.2.1 (12, 7) (by decide) q hq
            · rw [p2743.1 q hq, FCx_at hy fb 7 (by decide) (by decide), FCx_at hy fB 7 (by decide) (by decide)]; exact hS.2.1 q hq
            · rw [p2743.2 d c hd hc, FCx_at hy fb 7 (by decide) (by decide), FCx_at hy fB 7 (by decide) (by decide), hS.2.1 d hd]
            · rw [FCx_at hy fa 25 (by decide) (by decide), FCx_at hy fb 25 (by decide) (by decide)]; exact iA u (by omega)
            · rw [FCx_at hy fa 26 (by decide) (by decide), FCx_at hy fb 26 (by decide) (by decide)]; exact iB u (by omega)⟩
        · refine WP_aload_n dX0_open_70 rfl ?_
          refine WP_getr dX0_open_71 fX0_21 rfl (lyx_is hy 5 0 rfl) (rfx hr 5 4 25 (by decide)) ?_
          refine WP_iload_n dX0_open_74 rfl ?_
          refine WP_iload_n dX0_open_75 rfl ?_
          refine WP_iload_n dX0_open_76 rfl ?_
          refine WQ_imulb (6) (9) dX0_open_77 ⟨by omega, by omega⟩ ⟨by omega, by omega⟩ (by decide) (fun v2752 hv2752 av2752 bv2752 cv2752 => ?_)
          refine WE_is dX0_open_78 (lyx_is hy 25 13 rfl) (lyx_n hy 25 6 rfl) (by omega) (by omega) (fun I2753 eI2753 => ?_)
          have e2754 : I2753 (ad g 6) 4 = w2731 := by rw [eI2753, pp_ne _ _ (Or.inl (lyx_ne hy (by decide) (by decide) (by decide)))]; exact ew2731
          have fI2755 : FC g [22, 23, 24, 25, 26] I I2753 := by rw [eI2753]; exact FC_pp fI2728 (by decide)
          refine WP_aload_n dX0_open_79 rfl ?_
          refine WP_getr dX0_open_80 fX0_24 rfl (lyx_is hy 5 0 rfl) (rfx hr 5 5 26 (by decide)) ?_
          refine WP_iload_n dX0_open_83 rfl ?_
          refine WP_iload_n dX0_open_84 rfl ?_
          refine WP_iload_n dX0_open_85 rfl ?_
          refine WP_iload_n dX0_open_86 rfl ?_
          refine WQ_imulb (6) (1000) dX0_open_87 ⟨by omega, by omega⟩ ⟨by omega, by omega⟩ (by decide) (fun v2756 hv2756 av2756 bv2756 cv2756 => ?_)
          refine WQ_sipush (1000) (1000) dX0_open_88 rfl rfl (fun v2757 hv2757 => ?_)
          refine WQ_idivk (1000) dX0_open_91 hv2757 (by decide) (by omega) (fun v2758 hv2758 => ?_)
          refine WQ_isub dX0_open_92 (by omega) (by omega) (fun v2759 hv2759 => ?_)
          refine WE_is dX0_open_93 (lyx_is hy 26 13 rfl) (lyx_n hy 26 6 rfl) (by omega) (by omega) (fun I2760 eI2760 => ?_)
          have e2761 : I2760 (ad g 6) 4 = w2731 := by rw [eI2760, pp_ne _ _ (Or.inl (lyx_ne hy (by decide) (by decide) (by decide)))]; exact e2754
          have fI2762 : FC g [22, 23, 24, 25, 26] I I2760 := by rw [eI2760]; exact FC_pp fI2755 (by decide)
          refine WP_iinc (ls' := [(0, _), (1, _), (2, _), (3, _)]) dX0_open_94 rfl (by decide) rfl ?_
          have hv2763 : (i2726 + Int32.ofInt (1)).toInt = i2726.toInt + (1) := ia_n rfl (by omega) (by omega)
          generalize i2726 + Int32.ofInt (1) = v2763 at hv2763 ⊢
          refine WP_goto 64 dX0_open_97 rfl ?_
          refine WP_sub (fc rfl (fc rfl (fc rfl (fc rfl fn)))) (ihlp2730 v2763 I2760 fI2762 ?_ ?_)
          · try simp only [e2761, ew2718]
            refine ⟨u + 1, by omega, by omega, fun y hy9 => ?_, fun y hy9 => ?_⟩
            · rw [eI2760, pp_off _ _ (lyx_ne hy (by decide) (by decide) (by decide)), eI2753, show i2726.toInt.toNat = u by omega, pp_at]
              split
              · rename_i e9
                first
                | rw [hv2752, iu, q1, e9]
                | (rw [hv2752, iu, e9, show cstS S = 0 by omega])
              · exact iA y (by omega)
            · rw [eI2760, show i2726.toInt.toNat = u by omega, pp_at]
              split
              · rename_i e9
                first
                | rw [hv2759, hv2758, hv2756, iu, q2, e9]
                | (rw [hv2759, hv2758, hv2756, iu, e9, show splS S = 0 by omega])
              · rw [eI2753, pp_off _ _ (lyx_ne hy (by decide) (by decide) (by decide))]; exact iB y (by omega)
          · try simp only [e2761, ew2718]
            omega
    refine WP_sub (fc rfl (fc rfl (fc rfl (fc rfl fn)))) (lp2730 _ v2725 I fI0 ?_ (Nat.lt_succ_self _))
    · try simp only [ew2718]
      exact ⟨0, by omega, by omega, fun q h => absurd h (Nat.not_lt_zero _), fun q h => absurd h (Nat.not_lt_zero _)⟩
  · refine WQ_iconst (0) (0) dX0_open_11 rfl rfl (fun v2764 hv2764 => ?_)
    have hcs : cstS S = 0 := by unfold cstS; rw [if_pos (by omega)]
    refine WP_goto 30 dX0_open_12 rfl ?_
    refine WP_istore_n (ls' := [(0, _), (1, _)]) dX0_open_30 (by decide) rfl ?_
    refine WP_aload_n dX0_open_31 rfl ?_
    refine WP_getr dX0_open_32 fX0_27 rfl (lyx_is hy 5 0 rfl) hT ?_
    refine WQ_getim dX0_open_35 fX0_31 rfl (lyx_is hy 6 7 rfl) ew2718 ?_
    refine WQ_iconst (-1) (-1) dX0_open_38 rfl rfl (fun v2765 hv2765 => ?_)
    refine WQ_icmp_ne 46 dX0_open_39 rfl (fun c2765 => False.elim (by omega)) (fun c2765 => ?_)
    refine WQ_iconst (0) (0) dX0_open_42 rfl rfl (fun v2767 hv2767 => ?_)
    have hss : splS S = 0 := by unfold splS; rw [if_pos (by omega)]
    refine WP_goto 61 dX0_open_43 rfl ?_
    refine WP_istore_n (ls' := [(0, _), (1, _), (2, _)]) dX0_open_61 (by decide) rfl ?_
    refine WQ_iconst (0) (0) dX0_open_62 rfl rfl (fun v2768 hv2768 => ?_)
    refine WP_istore_n (ls' := [(0, _), (1, _), (2, _), (3, _)]) dX0_open_63 (by decide) rfl ?_
    have q1 : v2764.toInt = cstS S := by omega
    have q2 : v2767.toInt = splS S := by omega
    have q3 : 0 ≤ cstS S ∧ cstS S ≤ 9 := by omega
    have q4 : 0 ≤ splS S ∧ splS S ≤ 1000 := by omega
    have lp2773 : ∀ (mz : Nat) (i2769 : Int32) (I2770 : pI), FC g [22, 23, 24, 25, 26] I I2770 → (∃ u : Nat, i2769.toInt = (u : Int) ∧ u ≤ 6 ∧ (∀ x : Nat, x < u → (I2770 (ad g 25) x).toInt = x * cstS S) ∧ (∀ x : Nat, x < u → (I2770 (ad g 26) x).toInt = x - x * splS S / 1000)) → (7 - i2769.toInt.toNat) < mz → WP g mX0_open 64 [(0, .ref (ad g 5)), (1, .int v2764), (2, .int v2767), (3, .int i2769)] [] I2770 J R (fun r I' J' R' => R' = R ∧ FC g [22, 23, 24, 25, 26] I I' ∧ FC g [] J J' ∧ r = none ∧ (MKX g S I')) := by
      intro mz
      induction mz with
      | zero =>
        intro i2769 I2770 fI2771 hvlp2773 hmlp2773
        exact absurd hmlp2773 (Nat.not_lt_zero _)
      | succ mz ihlp2773 =>
        intro i2769 I2770 fI2771 hvlp2773 hmlp2773
        obtain ⟨w2774, ew2774⟩ : ∃ w : Int32, I2770 (ad g 6) 4 = w := ⟨_, rfl⟩
        try simp only [ew2774, ew2718] at hvlp2773 hmlp2773
        obtain ⟨u, iu, iu6, iA, iB⟩ := hvlp2773
        refine WP_iload_n dX0_open_64 rfl ?_
        refine WQ_bipush (6) (6) dX0_open_65 rfl rfl (fun v2775 hv2775 => ?_)
        refine WQ_icmp_ge 100 dX0_open_67 rfl (fun c2775 => ?_) (fun c2775 => ?_)
        · have fB := fI2771
          refine WP_aload_n dX0_open_100 rfl ?_
          refine WP_callV0 (k := 0) dX0_open_101 ⟨⟨⟨by decide, by decide⟩, zX0_pricesAsTold⟩, lX0_43, by decide, rfl, vX0_pricesAsTold.1, vX0_pricesAsTold.2⟩ (lyx_is hy 5 0 rfl) (ex_pricesAsTolda hy hr   hT) (Nat.le_of_ble_eq_true rfl) ?_
          intro r I2778 J2779 Ra hq
          obtain ⟨ec, g2780, g2781, er, p2777⟩ := hq
          rw [ec, er]
          clear ec er Ra r
          have e2783 : I2778 (ad g 6) 4 = w2774 := by rw [FCx_at hy g2780 6 (by decide) (by decide)]; exact ew2774
          have fI2784 : FC g [22, 23, 24, 25, 26] I I2778 := FC_tr fI2771 (FC_mono g2780 (by decide))
          have fJ2785 : FC g [] J J2779 := FC_tr fJ0 (FC_mono g2781 (by decide))
          try simp only [e2783, ew2718] at p2777
          refine WP_aload_n dX0_open_104 rfl ?_
          refine WP_callV0 (k := 0) dX0_open_105 ⟨⟨⟨by decide, by decide⟩, zX0_lossesAsTold⟩, lX0_46, by decide, rfl, vX0_lossesAsTold.1, vX0_lossesAsTold.2⟩ (lyx_is hy 5 0 rfl) (ex_lossesAsTolda hy hr   hT (by intro q hq; rw [FCx_at hy fI2784 7 (by decide) (by decide), hS.2.1 q hq]; have z := hD.1.1.1 q (by omega); omega)) (Nat.le_of_ble_eq_true rfl) ?_
          intro r I2787 J2788 Ra hq
          obtain ⟨ec, g2789, g2790, er, p2786⟩ := hq
          rw [ec, er]
          clear ec er Ra r
          have e2792 : I2787 (ad g 6) 4 = w2774 := by rw [FCx_at hy g2789 6 (by decide) (by decide)]; exact e2783
          have fI2793 : FC g [22, 23, 24, 25, 26] I I2787 := FC_tr fI2784 (FC_mono g2789 (by decide))
          have fJ2794 : FC g [] J J2788 := FC_tr fJ2785 (FC_mono g2790 (by decide))
          try simp only [e2792, ew2718] at p2786
          exact WP_vret dX0_open_108 rfl ⟨rfl, fI2793, fJ2794, rfl, by
            try simp only [e2792, ew2718]
            have fa := g2789
            have fb := g2780
            refine ⟨fun q hq => ?_, fun q hq => ?_, fun d c hd hc => ?_, fun u hu => ?_, fun u hu => ?_⟩
            · rw [FCx_at hy fa 22 (by decide) (by decide), p2777 q (by omega), FCx_at hy fB 18 (by decide) (by decide)]; exact hS.2.2.2.1 (12, 7) (by decide) q hq
            · rw [p2786.1 q hq, FCx_at hy fb 7 (by decide) (by decide), FCx_at hy fB 7 (by decide) (by decide)]; exact hS.2.1 q hq
            · rw [p2786.2 d c hd hc, FCx_at hy fb 7 (by decide) (by decide), FCx_at hy fB 7 (by decide) (by decide), hS.2.1 d hd]
            · rw [FCx_at hy fa 25 (by decide) (by decide), FCx_at hy fb 25 (by decide) (by decide)]; exact iA u (by omega)
            · rw [FCx_at hy fa 26 (by decide) (by decide), FCx_at hy fb 26 (by decide) (by decide)]; exact iB u (by omega)⟩
        · refine WP_aload_n dX0_open_70 rfl ?_
          refine WP_getr dX0_open_71 fX0_21 rfl (lyx_is hy 5 0 rfl) (rfx hr 5 4 25 (by decide)) ?_
          refine WP_iload_n dX0_open_74 rfl ?_
          refine WP_iload_n dX0_open_75 rfl ?_
          refine WP_iload_n dX0_open_76 rfl ?_
          refine WQ_imulk (0) dX0_open_77 hv2764 (by omega) (by omega) (fun v2795 hv2795 => ?_)
          refine WE_is dX0_open_78 (lyx_is hy 25 13 rfl) (lyx_n hy 25 6 rfl) (by omega) (by omega) (fun I2796 eI2796 => ?_)
          have e2797 : I2796 (ad g 6) 4 = w2774 := by rw [eI2796, pp_ne _ _ (Or.inl (lyx_ne hy (by decide) (by decide) (by decide)))]; exact ew2774
          have fI2798 : FC g [22, 23, 24, 25, 26] I I2796 := by rw [eI2796]; exact FC_pp fI2771 (by decide)
          refine WP_aload_n dX0_open_79 rfl ?_
          refine WP_getr dX0_open_80 fX0_24 rfl (lyx_is hy 5 0 rfl) (rfx hr 5 5 26 (by decide)) ?_
          refine WP_iload_n dX0_open_83 rfl ?_
          refine WP_iload_n dX0_open_84 rfl ?_
          refine WP_iload_n dX0_open_85 rfl ?_
          refine WP_iload_n dX0_open_86 rfl ?_
          refine WQ_imulk (0) dX0_open_87 hv2767 (by omega) (by omega) (fun v2799 hv2799 => ?_)
          refine WQ_sipush (1000) (1000) dX0_open_88 rfl rfl (fun v2800 hv2800 => ?_)
          refine WQ_idivk (1000) dX0_open_91 hv2800 (by decide) (by omega) (fun v2801 hv2801 => ?_)
          refine WQ_isub dX0_open_92 (by omega) (by omega) (fun v2802 hv2802 => ?_)
          refine WE_is dX0_open_93 (lyx_is hy 26 13 rfl) (lyx_n hy 26 6 rfl) (by omega) (by omega) (fun I2803 eI2803 => ?_)
          have e2804 : I2803 (ad g 6) 4 = w2774 := by rw [eI2803, pp_ne _ _ (Or.inl (lyx_ne hy (by decide) (by decide) (by decide)))]; exact e2797
          have fI2805 : FC g [22, 23, 24, 25, 26] I I2803 := by rw [eI2803]; exact FC_pp fI2798 (by decide)
          refine WP_iinc (ls' := [(0, _), (1, _), (2, _), (3, _)]) dX0_open_94 rfl (by decide) rfl ?_
          have hv2806 : (i2769 + Int32.ofInt (1)).toInt = i2769.toInt + (1) := ia_n rfl (by omega) (by omega)
          generalize i2769 + Int32.ofInt (1) = v2806 at hv2806 ⊢
          refine WP_goto 64 dX0_open_97 rfl ?_
          refine WP_sub (fc rfl (fc rfl (fc rfl (fc rfl fn)))) (ihlp2773 v2806 I2803 fI2805 ?_ ?_)
          · try simp only [e2804, ew2718]
            refine ⟨u + 1, by omega, by omega, fun y hy9 => ?_, fun y hy9 => ?_⟩
            · rw [eI2803, pp_off _ _ (lyx_ne hy (by decide) (by decide) (by decide)), eI2796, show i2769.toInt.toNat = u by omega, pp_at]
              split
              · rename_i e9
                first
                | rw [hv2795, iu, q1, e9]
                | (rw [hv2795, iu, e9, show cstS S = 0 by omega])
              · exact iA y (by omega)
            · rw [eI2803, show i2769.toInt.toNat = u by omega, pp_at]
              split
              · rename_i e9
                first
                | rw [hv2802, hv2801, hv2799, iu, q2, e9]
                | (rw [hv2802, hv2801, hv2799, iu, e9, show splS S = 0 by omega])
              · rw [eI2796, pp_off _ _ (lyx_ne hy (by decide) (by decide) (by decide))]; exact iB y (by omega)
          · try simp only [e2804, ew2718]
            omega
    refine WP_sub (fc rfl (fc rfl (fc rfl (fc rfl fn)))) (lp2773 _ v2768 I fI0 ?_ (Nat.lt_succ_self _))
    · try simp only [ew2718]
      exact ⟨0, by omega, by omega, fun q h => absurd h (Nat.not_lt_zero _), fun q h => absurd h (Nat.not_lt_zero _)⟩
set_option maxHeartbeats 4000000 in
set_option maxRecDepth 100000 in
theorem ex_begin53a {g : GG} {I : pI} {J : pJ} {R : pR} (hy : LyX g) (hr : RfX g R) {S : TwS}  (hS : RTW g 6 S I J) (hB : SBn S) : SP g mX4_begin [.ref (ad g 53), .ref (ad g 6)] I J R (fun r I' J' R' => R' = R ∧ FC g [53, 55] I I' ∧ FC g [53] J J' ∧ r = none ∧ (BGX g 53 55 S I' J')) := by
  refine SP_of ⟨by decide, rfl⟩ (Nat.le_of_ble_eq_true rfl) ?_
  have fI0 : FC g [53, 55] I I := FC_rf
  have fJ0 : FC g [53] J J := FC_rf
  have hx1 := hS.1.2.1
  have hB2 := hB
  unfold SBn at hB2
  obtain ⟨w2807, ew2807⟩ : ∃ w : Int32, I (ad g 6) 1 = w := ⟨_, rfl⟩
  try simp only [ew2807] at hx1
  refine WP_aload_n dX4_begin_0 rfl ?_
  refine WQ_iconst (0) (0) dX4_begin_1 rfl rfl (fun v2808 hv2808 => ?_)
  refine WQ_puti dX4_begin_2 fX4_18 rfl rfl (lyx_is hy 53 4 rfl) (fun I2809 eI2809 => ?_)
  have e2810 : I2809 (ad g 6) 1 = w2807 := by rw [eI2809, pp_ne _ _ (Or.inl (lyx_ne hy (by decide) (by decide) (by decide)))]; exact ew2807
  have e2811 : I2809 (ad g 53) 0 = v2808 := by rw [eI2809, pp_self]
  have fI2812 : FC g [53, 55] I I2809 := by rw [eI2809]; exact FC_pp fI0 (by decide)
  refine WP_aload_n dX4_begin_5 rfl ?_
  refine WQ_iconst (0) (0) dX4_begin_6 rfl rfl (fun v2813 hv2813 => ?_)
  refine WQ_puti dX4_begin_7 fX4_22 rfl rfl (lyx_is hy 53 4 rfl) (fun I2814 eI2814 => ?_)
  have e2815 : I2814 (ad g 6) 1 = w2807 := by rw [eI2814, pp_ne _ _ (Or.inl (lyx_ne hy (by decide) (by decide) (by decide)))]; exact e2810
  have e2816 : I2814 (ad g 53) 0 = v2808 := by rw [eI2814, pp_ne _ _ (Or.inr (by decide))]; exact e2811
  have e2817 : I2814 (ad g 53) 1 = v2813 := by rw [eI2814, pp_self]
  have fI2818 : FC g [53, 55] I I2814 := by rw [eI2814]; exact FC_pp fI2812 (by decide)
  refine WP_aload_n dX4_begin_10 rfl ?_
  refine WQ_iconst (0) (0) dX4_begin_11 rfl rfl (fun v2819 hv2819 => ?_)
  refine WQ_puti dX4_begin_12 fX4_25 rfl rfl (lyx_is hy 53 4 rfl) (fun I2820 eI2820 => ?_)
  have e2821 : I2820 (ad g 6) 1 = w2807 := by rw [eI2820, pp_ne _ _ (Or.inl (lyx_ne hy (by decide) (by decide) (by decide)))]; exact e2815
  have e2822 : I2820 (ad g 53) 0 = v2808 := by rw [eI2820, pp_ne _ _ (Or.inr (by decide))]; exact e2816
  have e2823 : I2820 (ad g 53) 1 = v2813 := by rw [eI2820, pp_ne _ _ (Or.inr (by decide))]; exact e2817
  have e2824 : I2820 (ad g 53) 2 = v2819 := by rw [eI2820, pp_self]
  have fI2825 : FC g [53, 55] I I2820 := by rw [eI2820]; exact FC_pp fI2818 (by decide)
  refine WP_aload_n dX4_begin_15 rfl ?_
  refine WP_lconst (0) dX4_begin_16 rfl ?_
  obtain ⟨l2826, hl2826, el2826⟩ : ∃ v : Int64, v.toInt = 0 ∧ (0 : Int64) = v := ⟨_, rfl, rfl⟩
  rw [el2826]
  refine WQ_putl dX4_begin_17 fX4_28 rfl rfl (lyx_is hy 53 4 rfl) (fun J2827 eJ2827 => ?_)
  have e2828 : J2827 (ad g 53) 3 = l2826 := by rw [eJ2827, pp_self]
  have fJ2829 : FC g [53] J J2827 := by rw [eJ2827]; exact FC_pp fJ0 (by decide)
  refine WP_aload_n dX4_begin_20 rfl ?_
  refine WP_getr dX4_begin_21 fX4_15 rfl (lyx_is hy 53 4 rfl) (rfx hr 53 5 55 (by decide)) ?_
  refine WQ_iconst (0) (0) dX4_begin_24 rfl rfl (fun v2830 hv2830 => ?_)
  refine WP_callS2u dX4_begin_25 ⟨⟨⟨by decide, by decide⟩, zJ7_fill_53178⟩, lX4_32, tJ7_fill_53178⟩ (s_fill hy hr 55 28 rfl rfl (by decide) v2830) (Nat.le_of_ble_eq_true rfl) ?_
  obtain ⟨I2831, eI2831⟩ : ∃ I9 : pI, I9 = fi I2820 (ad g 55) 28 v2830 := ⟨_, rfl⟩
  rw [← eI2831]
  have e2832 : I2831 (ad g 6) 1 = w2807 := by rw [eI2831, fi_off (lyx_ne hy (by decide) (by decide) (by decide))]; exact e2821
  have e2833 : I2831 (ad g 53) 0 = v2808 := by rw [eI2831, fi_off (lyx_ne hy (by decide) (by decide) (by decide))]; exact e2822
  have e2834 : I2831 (ad g 53) 1 = v2813 := by rw [eI2831, fi_off (lyx_ne hy (by decide) (by decide) (by decide))]; exact e2823
  have e2835 : I2831 (ad g 53) 2 = v2819 := by rw [eI2831, fi_off (lyx_ne hy (by decide) (by decide) (by decide))]; exact e2824
  have fI2836 : FC g [53, 55] I I2831 := by rw [eI2831]; exact FC_fi fI2825 (by decide)
  refine WQ_iconst (0) (0) dX4_begin_28 rfl rfl (fun v2837 hv2837 => ?_)
  refine WP_istore_n (ls' := [(0, _), (1, _), (2, _)]) dX4_begin_29 (by decide) rfl ?_
  have lp2842 : ∀ (mz : Nat) (i2838 : Int32) (I2839 : pI), FC g [53, 55] I I2839 → (∃ k : Nat, i2838.toInt = (k : Int) ∧ (k : Int) ≤ S.1 0 1 ∧ (I2839 (ad g 53) 0).toInt = 0 ∧ (I2839 (ad g 53) 1).toInt = 0 ∧ (I2839 (ad g 53) 2).toInt = 0 ∧ ∀ q : Nat, q < 28 → (I2839 (ad g 55) q).toInt = if q % 7 = 0 ∧ q / 7 < k then S.1 4 (q / 7) else 0) → (5 - i2838.toInt.toNat) < mz → WP g mX4_begin 30 [(0, .ref (ad g 53)), (1, .ref (ad g 6)), (2, .int i2838)] [] I2839 J2827 R (fun r I' J' R' => R' = R ∧ FC g [53, 55] I I' ∧ FC g [53] J J' ∧ r = none ∧ (BGX g 53 55 S I' J')) := by
    intro mz
    induction mz with
    | zero =>
      intro i2838 I2839 fI2840 hvlp2842 hmlp2842
      exact absurd hmlp2842 (Nat.not_lt_zero _)
    | succ mz ihlp2842 =>
      intro i2838 I2839 fI2840 hvlp2842 hmlp2842
      obtain ⟨w2843, ew2843⟩ : ∃ w : Int32, I2839 (ad g 6) 1 = w := ⟨_, rfl⟩
      try simp only [ew2843, ew2807] at hvlp2842 hmlp2842
      obtain ⟨k, ik, ik4, i0, i1, i2, iA⟩ := hvlp2842
      have hx2 := hS.1.2.1
      rw [← FCx_at hy fI2840 6 (by decide) (by decide), ew2843] at hx2
      refine WP_iload_n dX4_begin_30 rfl ?_
      refine WP_aload_n dX4_begin_31 rfl ?_
      refine WQ_getim dX4_begin_32 fX4_38 rfl (lyx_is hy 6 7 rfl) ew2843 ?_
      refine WQ_icmp_ge 61 dX4_begin_35 rfl (fun c2843 => ?_) (fun c2843 => ?_)
      · exact WP_vret dX4_begin_61 rfl ⟨rfl, fI2840, fJ2829, rfl, by
          try simp only [ew2843, e2828, ew2807]
          refine ⟨by omega, by omega, by omega, by rw [e2828]; omega, fun q hq => ?_⟩
          unfold BG0
          rw [iA q hq]
          by_cases e8 : q % 7 = 0 ∧ q / 7 < k
          · rw [if_pos e8, if_pos (by omega)]
          · rw [if_neg e8, if_neg (by omega)]⟩
      · refine WP_aload_n dX4_begin_38 rfl ?_
        refine WP_getr dX4_begin_39 fX4_15 rfl (lyx_is hy 53 4 rfl) (rfx hr 53 5 55 (by decide)) ?_
        refine WP_iload_n dX4_begin_42 rfl ?_
        refine WQ_bipush (7) (7) dX4_begin_43 rfl rfl (fun v2845 hv2845 => ?_)
        refine WQ_imulk (7) dX4_begin_45 hv2845 (by omega) (by omega) (fun v2846 hv2846 => ?_)
        refine WQ_iconst (0) (0) dX4_begin_46 rfl rfl (fun v2847 hv2847 => ?_)
        refine WQ_iadd dX4_begin_47 (by omega) (by omega) (fun v2848 hv2848 => ?_)
        refine WP_aload_n dX4_begin_48 rfl ?_
        refine WP_getr dX4_begin_49 fX4_43 rfl (lyx_is hy 6 7 rfl) (rfx hr 6 8 10 (by decide)) ?_
        refine WP_iload_n dX4_begin_52 rfl ?_
        have fB := fI2840
        refine WE_ia dX4_begin_53 (lyx_is hy 10 13 rfl) (lyx_n hy 10 4 rfl) (by omega) (by omega) (fun v2849 ev2849 => ?_)
        refine WE_is dX4_begin_54 (lyx_is hy 55 13 rfl) (lyx_n hy 55 28 rfl) (by omega) (by omega) (fun I2850 eI2850 => ?_)
        have e2851 : I2850 (ad g 6) 1 = w2843 := by rw [eI2850, pp_ne _ _ (Or.inl (lyx_ne hy (by decide) (by decide) (by decide)))]; exact ew2843
        have e2852 : I2850 (ad g 10) i2838.toInt.toNat = v2849 := by rw [eI2850, pp_ne _ _ (Or.inl (lyx_ne hy (by decide) (by decide) (by decide)))]; exact ev2849
        have fI2853 : FC g [53, 55] I I2850 := by rw [eI2850]; exact FC_pp fI2840 (by decide)
        refine WP_iinc (ls' := [(0, _), (1, _), (2, _)]) dX4_begin_55 rfl (by decide) rfl ?_
        have hv2854 : (i2838 + Int32.ofInt (1)).toInt = i2838.toInt + (1) := ia_n rfl (by omega) (by omega)
        generalize i2838 + Int32.ofInt (1) = v2854 at hv2854 ⊢
        refine WP_goto 30 dX4_begin_58 rfl ?_
        refine WP_sub (fc rfl (fc rfl (fc rfl fn))) (ihlp2842 v2854 I2850 fI2853 ?_ ?_)
        · try simp only [e2851, ew2807]
          have zz : I2850 (ad g 53) = I2839 (ad g 53) := by rw [eI2850, pp_off _ _ (lyx_ne hy (by decide) (by decide) (by decide))]
          refine ⟨k + 1, by omega, by omega, by rw [zz]; exact i0, by rw [zz]; exact i1, by rw [zz]; exact i2, fun q hq => ?_⟩
          rw [eI2850, show v2848.toInt.toNat = 7 * k by omega, pp_at]
          split
          · rename_i e9
            rw [if_pos (by omega), show q / 7 = k by omega, ← ev2849, show i2838.toInt.toNat = k by omega, FCx_at hy fB 10 (by decide) (by decide)]
            exact RTW_S hS (c := 4) (by decide) (by omega)
          · rename_i e9
            rw [iA q hq]
            by_cases e8 : q % 7 = 0 ∧ q / 7 < k
            · rw [if_pos e8, if_pos (by omega)]
            · rw [if_neg e8, if_neg (by omega)]
        · try simp only [e2851, ew2807]
          omega
  refine WP_sub (fc rfl (fc rfl (fc rfl fn))) (lp2842 _ v2837 I2831 fI2836 ?_ (Nat.lt_succ_self _))
  · try simp only [e2832, ew2807]
    refine ⟨0, by omega, by omega, by rw [e2833]; omega, by rw [e2834]; omega, by rw [e2835]; omega, fun q hq => ?_⟩
    rw [eI2831, fi_in hq, if_neg (by omega)]
    omega
set_option maxHeartbeats 4000000 in
set_option maxRecDepth 100000 in
theorem ex_pricesAsToldb {g : GG} {I : pI} {J : pJ} {R : pR} (hy : LyX g) (hr : RfX g R)   (hT : R (ad g 5) 0 = some (ad g 27)) : SP g mX0_pricesAsTold [.ref (ad g 5)] I J R (fun r I' J' R' => R' = R ∧ FC g [22] I I' ∧ FC g [] J J' ∧ r = none ∧ (∀ q, q < 21 → I' (ad g 22) q = I (ad g 39) q)) := by
  refine SP_of ⟨by decide, rfl⟩ (Nat.le_of_ble_eq_true rfl) ?_
  have fI0 : FC g [22] I I := FC_rf
  have fJ0 : FC g [] J J := FC_rf
  refine WP_aload_n dX0_pricesAsTold_0 rfl ?_
  refine WP_getr dX0_pricesAsTold_1 fX0_27 rfl (lyx_is hy 5 0 rfl) hT ?_
  refine WP_getr dX0_pricesAsTold_4 fX0_49 rfl (lyx_is hy 27 7 rfl) (rfx hr 27 16 39 (by decide)) ?_
  refine WQ_iconst (0) (0) dX0_pricesAsTold_7 rfl rfl (fun v2903 hv2903 => ?_)
  refine WP_aload_n dX0_pricesAsTold_8 rfl ?_
  refine WP_getr dX0_pricesAsTold_9 fX0_9 rfl (lyx_is hy 5 0 rfl) (rfx hr 5 1 22 (by decide)) ?_
  refine WQ_iconst (0) (0) dX0_pricesAsTold_12 rfl rfl (fun v2904 hv2904 => ?_)
  refine WP_aload_n dX0_pricesAsTold_13 rfl ?_
  refine WP_getr dX0_pricesAsTold_14 fX0_9 rfl (lyx_is hy 5 0 rfl) (rfx hr 5 1 22 (by decide)) ?_
  refine WP_alen dX0_pricesAsTold_17 (lyx_is hy 22 13 rfl) (by decide) ?_
  rw [(lyx_n hy 22 21 rfl)]
  obtain ⟨v2905, hv2905, ev2905⟩ : ∃ v : Int32, v.toInt = 21 ∧ nI 21 = v := ⟨_, nI_toInt (by decide), rfl⟩
  rw [ev2905]; clear ev2905
  refine WQ_copy0 (N := 21) dX0_pricesAsTold_18 lX0_50 ⟨by decide, Nat.le_of_ble_eq_true rfl⟩ (lyx_is hy 39 13 rfl) (lyx_is hy 22 13 rfl) hv2903 hv2904 hv2905 (lyx_n hy 39 21 rfl) (lyx_n hy 22 21 rfl) (fun I2906 cI2906 oI2906 => ?_)
  have g2907 : FC g [22] I I2906 := fun b hb => oI2906 b (hb 22 (by decide))
  have fI2908 : FC g [22] I I2906 := FC_tr fI0 (FC_mono g2907 (by decide))
  exact WP_vret dX0_pricesAsTold_21 rfl ⟨rfl, fI2908, fJ0, rfl, by
    exact cI2906⟩
set_option maxHeartbeats 4000000 in
set_option maxRecDepth 100000 in
theorem ex_openb {g : GG} {I : pI} {J : pJ} {R : pR} (hy : LyX g) (hr : RfX g R) {S : TwS}  (hT : R (ad g 5) 0 = some (ad g 27)) (hS : RTW g 27 S I J) (hD : TBD S) (hB : SBn S) : SP g mX0_open [.ref (ad g 5)] I J R (fun r I' J' R' => R' = R ∧ FC g [22, 23, 24, 25, 26] I I' ∧ FC g [] J J' ∧ r = none ∧ (MKX g S I')) := by
  refine SP_of ⟨by decide, rfl⟩ (Nat.le_of_ble_eq_true rfl) ?_
  have fI0 : FC g [22, 23, 24, 25, 26] I I := FC_rf
  have fJ0 : FC g [] J J := FC_rf
  have hx4 := hS.1.2.2.2.2
  have hB2 := hB
  unfold SBn at hB2
  have hD2 := hD.2.2.1
  have hz4 := hx4
  obtain ⟨w2923, ew2923⟩ : ∃ w : Int32, I (ad g 27) 4 = w := ⟨_, rfl⟩
  try simp only [ew2923] at hx4
  refine WP_aload_n dX0_open_0 rfl ?_
  refine WP_getr dX0_open_1 fX0_27 rfl (lyx_is hy 5 0 rfl) hT ?_
  refine WQ_getim dX0_open_4 fX0_31 rfl (lyx_is hy 27 7 rfl) ew2923 ?_
  refine WQ_iconst (-1) (-1) dX0_open_7 rfl rfl (fun v2924 hv2924 => ?_)
  refine WQ_icmp_ne 15 dX0_open_8 rfl (fun c2924 => ?_) (fun c2924 => ?_)
  · refine WP_aload_n dX0_open_15 rfl ?_
    refine WP_getr dX0_open_16 fX0_27 rfl (lyx_is hy 5 0 rfl) hT ?_
    refine WP_getr dX0_open_19 fX0_37 rfl (lyx_is hy 27 7 rfl) (rfx hr 27 15 38 (by decide)) ?_
    refine WP_aload_n dX0_open_22 rfl ?_
    refine WP_getr dX0_open_23 fX0_27 rfl (lyx_is hy 5 0 rfl) hT ?_
    refine WQ_getim dX0_open_26 fX0_31 rfl (lyx_is hy 27 7 rfl) ew2923 ?_
    refine WE_ia dX0_open_29 (lyx_is hy 38 13 rfl) (lyx_n hy 38 3 rfl) (by omega) (by omega) (fun v2926 ev2926 => ?_)
    have hcs : v2926.toInt = cstS S := by
      unfold cstS
      rw [if_neg (by omega), ← ev2926, show w2923.toInt.toNat = (S.1 0 4).toNat by omega]
      exact RTW_T hS (c := 11) (by decide) (by omega)
    have hcb := hD.1.2.2.2 (S.1 0 4).toNat (by omega)
    have hcb2 : 0 ≤ cstS S ∧ cstS S ≤ 9 := by unfold cstS; rw [if_neg (by omega)]; exact hcb
    refine WP_istore_n (ls' := [(0, _), (1, _)]) dX0_open_30 (by decide) rfl ?_
    refine WP_aload_n dX0_open_31 rfl ?_
    refine WP_getr dX0_open_32 fX0_27 rfl (lyx_is hy 5 0 rfl) hT ?_
    refine WQ_getim dX0_open_35 fX0_31 rfl (lyx_is hy 27 7 rfl) ew2923 ?_
    refine WQ_iconst (-1) (-1) dX0_open_38 rfl rfl (fun v2927 hv2927 => ?_)
    refine WQ_icmp_ne 46 dX0_open_39 rfl (fun c2927 => ?_) (fun c2927 => False.elim (by omega))
    refine WP_aload_n dX0_open_46 rfl ?_
    refine WP_getr dX0_open_47 fX0_27 rfl (lyx_is hy 5 0 rfl) hT ?_
    refine WP_getr dX0_open_50 fX0_40 rfl (lyx_is hy 27 7 rfl) (rfx hr 27 14 37 (by decide)) ?_
    refine WP_aload_n dX0_open_53 rfl ?_
    refine WP_getr dX0_open_54 fX0_27 rfl (lyx_is hy 5 0 rfl) hT ?_
    refine WQ_getim dX0_open_57 fX0_31 rfl (lyx_is hy 27 7 rfl) ew2923 ?_
    refine WE_ia dX0_open_60 (lyx_is hy 37 13 rfl) (lyx_n hy 37 3 rfl) (by omega) (by omega) (fun v2929 ev2929 => ?_)
    have hss : v2929.toInt = splS S := by
      unfold splS
      rw [if_neg (by omega), ← ev2929, show w2923.toInt.toNat = (S.1 0 4).toNat by omega]
      exact RTW_T hS (c := 10) (by decide) (by omega)
    have hsb := hD.1.2.2.1 (S.1 0 4).toNat (by omega)
    have hsb2 : 0 ≤ splS S ∧ splS S ≤ 1000 := by unfold splS; rw [if_neg (by omega)]; exact hsb
    refine WP_istore_n (ls' := [(0, _), (1, _), (2, _)]) dX0_open_61 (by decide) rfl ?_
    refine WQ_iconst (0) (0) dX0_open_62 rfl rfl (fun v2930 hv2930 => ?_)
    refine WP_istore_n (ls' := [(0, _), (1, _), (2, _), (3, _)]) dX0_open_63 (by decide) rfl ?_
    have q1 : v2926.toInt = cstS S := by omega
    have q2 : v2929.toInt = splS S := by omega
    have q3 : 0 ≤ cstS S ∧ cstS S ≤ 9 := by omega
    have q4 : 0 ≤ splS S ∧ splS S ≤ 1000 := by omega
    have lp2935 : ∀ (mz : Nat) (i2931 : Int32) (I2932 : pI), FC g [22, 23, 24, 25, 26] I I2932 → (∃ u : Nat, i2931.toInt = (u : Int) ∧ u ≤ 6 ∧ (∀ x : Nat, x < u → (I2932 (ad g 25) x).toInt = x * cstS S) ∧ (∀ x : Nat, x < u → (I2932 (ad g 26) x).toInt = x - x * splS S / 1000)) → (7 - i2931.toInt.toNat) < mz → WP g mX0_open 64 [(0, .ref (ad g 5)), (1, .int v2926), (2, .int v2929), (3, .int i2931)] [] I2932 J R (fun r I' J' R' => R' = R ∧ FC g [22, 23, 24, 25, 26] I I' ∧ FC g [] J J' ∧ r = none ∧ (MKX g S I')) := by
      intro mz
      induction mz with
      | zero =>
        intro i2931 I2932 fI2933 hvlp2935 hmlp2935
        exact absurd hmlp2935 (Nat.not_lt_zero _)
      | succ mz ihlp2935 =>
        intro i2931 I2932 fI2933 hvlp2935 hmlp2935
        obtain ⟨w2936, ew2936⟩ : ∃ w : Int32, I2932 (ad g 27) 4 = w := ⟨_, rfl⟩
        try simp only [ew2936, ew2923] at hvlp2935 hmlp2935
        obtain ⟨u, iu, iu6, iA, iB⟩ := hvlp2935
        refine WP_iload_n dX0_open_64 rfl ?_
        refine WQ_bipush (6) (6) dX0_open_65 rfl rfl (fun v2937 hv2937 => ?_)
        refine WQ_icmp_ge 100 dX0_open_67 rfl (fun c2937 => ?_) (fun c2937 => ?_)
        · have fB := fI2933
          refine WP_aload_n dX0_open_100 rfl ?_
          refine WP_callV0 (k := 0) dX0_open_101 ⟨⟨⟨by decide, by decide⟩, zX0_pricesAsTold⟩, lX0_43, by decide, rfl, vX0_pricesAsTold.1, vX0_pricesAsTold.2⟩ (lyx_is hy 5 0 rfl) (ex_pricesAsToldb hy hr   hT) (Nat.le_of_ble_eq_true rfl) ?_
          intro r I2940 J2941 Ra hq
          obtain ⟨ec, g2942, g2943, er, p2939⟩ := hq
          rw [ec, er]
          clear ec er Ra r
          have e2945 : I2940 (ad g 27) 4 = w2936 := by rw [FCx_at hy g2942 27 (by decide) (by decide)]; exact ew2936
          have fI2946 : FC g [22, 23, 24, 25, 26] I I2940 := FC_tr fI2933 (FC_mono g2942 (by decide))
          have fJ2947 : FC g [] J J2941 := FC_tr fJ0 (FC_mono g2943 (by decide))
          try simp only [e2945, ew2923] at p2939
          refine WP_aload_n dX0_open_104 rfl ?_
          refine WP_callV0 (k := 0) dX0_open_105 ⟨⟨⟨by decide, by decide⟩, zX0_lossesAsTold⟩, lX0_46, by decide, rfl, vX0_lossesAsTold.1, vX0_lossesAsTold.2⟩ (lyx_is hy 5 0 rfl) (ex_lossesAsToldb hy hr   hT (by intro q hq; rw [FCx_at hy fI2946 28 (by decide) (by decide), hS.2.1 q hq]; have z := hD.1.1.1 q (by omega); omega)) (Nat.le_of_ble_eq_true rfl) ?_
          intro r I2949 J2950 Ra hq
          obtain ⟨ec, g2951, g2952, er, p2948⟩ := hq
          rw [ec, er]
          clear ec er Ra r
          have e2954 : I2949 (ad g 27) 4 = w2936 := by rw [FCx_at hy g2951 27 (by decide) (by decide)]; exact e2945
          have fI2955 : FC g [22, 23, 24, 25, 26] I I2949 := FC_tr fI2946 (FC_mono g2951 (by decide))
          have fJ2956 : FC g [] J J2950 := FC_tr fJ2947 (FC_mono g2952 (by decide))
          try simp only [e2954, ew2923] at p2948
          exact WP_vret dX0_open_108 rfl ⟨rfl, fI2955, fJ2956, rfl, by
            try simp only [e2954, ew2923]
            have fa := g2951
            have fb := g2942
            refine ⟨fun q hq => ?_, fun q hq => ?_, fun d c hd hc => ?_, fun u hu => ?_, fun u hu => ?_⟩
            · rw [FCx_at hy fa 22 (by decide) (by decide), p2939 q (by omega), FCx_at hy fB 39 (by decide) (by decide)]; exact hS.2.2.2.1 (12, 7) (by decide) q hq
            · rw [p2948.1 q hq, FCx_at hy fb 28 (by decide) (by decide), FCx_at hy fB 28 (by decide) (by decide)]; exact hS.2.1 q hq
            · rw [p2948.2 d c hd hc, FCx_at hy fb 28 (by decide) (by decide), FCx_at hy fB 28 (by decide) (by decide), hS.2.1 d hd]
            · rw [FCx_at hy fa 25 (by decide) (by decide), FCx_at hy fb 25 (by decide) (by decide)]; exact iA u (by omega)
            · rw [FCx_at hy fa 26 (by decide) (by decide), FCx_at hy fb 26 (by decide) (by decide)]; exact iB u (by omega)⟩
        · refine WP_aload_n dX0_open_70 rfl ?_
          refine WP_getr dX0_open_71 fX0_21 rfl (lyx_is hy 5 0 rfl) (rfx hr 5 4 25 (by decide)) ?_
          refine WP_iload_n dX0_open_74 rfl ?_
          refine WP_iload_n dX0_open_75 rfl ?_
          refine WP_iload_n dX0_open_76 rfl ?_
          refine WQ_imulb (6) (9) dX0_open_77 ⟨by omega, by omega⟩ ⟨by omega, by omega⟩ (by decide) (fun v2957 hv2957 av2957 bv2957 cv2957 => ?_)
          refine WE_is dX0_open_78 (lyx_is hy 25 13 rfl) (lyx_n hy 25 6 rfl) (by omega) (by omega) (fun I2958 eI2958 => ?_)
          have e2959 : I2958 (ad g 27) 4 = w2936 := by rw [eI2958, pp_ne _ _ (Or.inl (lyx_ne hy (by decide) (by decide) (by decide)))]; exact ew2936
          have fI2960 : FC g [22, 23, 24, 25, 26] I I2958 := by rw [eI2958]; exact FC_pp fI2933 (by decide)
          refine WP_aload_n dX0_open_79 rfl ?_
          refine WP_getr dX0_open_80 fX0_24 rfl (lyx_is hy 5 0 rfl) (rfx hr 5 5 26 (by decide)) ?_
          refine WP_iload_n dX0_open_83 rfl ?_
          refine WP_iload_n dX0_open_84 rfl ?_
          refine WP_iload_n dX0_open_85 rfl ?_
          refine WP_iload_n dX0_open_86 rfl ?_
          refine WQ_imulb (6) (1000) dX0_open_87 ⟨by omega, by omega⟩ ⟨by omega, by omega⟩ (by decide) (fun v2961 hv2961 av2961 bv2961 cv2961 => ?_)
          refine WQ_sipush (1000) (1000) dX0_open_88 rfl rfl (fun v2962 hv2962 => ?_)
          refine WQ_idivk (1000) dX0_open_91 hv2962 (by decide) (by omega) (fun v2963 hv2963 => ?_)
          refine WQ_isub dX0_open_92 (by omega) (by omega) (fun v2964 hv2964 => ?_)
          refine WE_is dX0_open_93 (lyx_is hy 26 13 rfl) (lyx_n hy 26 6 rfl) (by omega) (by omega) (fun I2965 eI2965 => ?_)
          have e2966 : I2965 (ad g 27) 4 = w2936 := by rw [eI2965, pp_ne _ _ (Or.inl (lyx_ne hy (by decide) (by decide) (by decide)))]; exact e2959
          have fI2967 : FC g [22, 23, 24, 25, 26] I I2965 := by rw [eI2965]; exact FC_pp fI2960 (by decide)
          refine WP_iinc (ls' := [(0, _), (1, _), (2, _), (3, _)]) dX0_open_94 rfl (by decide) rfl ?_
          have hv2968 : (i2931 + Int32.ofInt (1)).toInt = i2931.toInt + (1) := ia_n rfl (by omega) (by omega)
          generalize i2931 + Int32.ofInt (1) = v2968 at hv2968 ⊢
          refine WP_goto 64 dX0_open_97 rfl ?_
          refine WP_sub (fc rfl (fc rfl (fc rfl (fc rfl fn)))) (ihlp2935 v2968 I2965 fI2967 ?_ ?_)
          · try simp only [e2966, ew2923]
            refine ⟨u + 1, by omega, by omega, fun y hy9 => ?_, fun y hy9 => ?_⟩
            · rw [eI2965, pp_off _ _ (lyx_ne hy (by decide) (by decide) (by decide)), eI2958, show i2931.toInt.toNat = u by omega, pp_at]
              split
              · rename_i e9
                first
                | rw [hv2957, iu, q1, e9]
                | (rw [hv2957, iu, e9, show cstS S = 0 by omega])
              · exact iA y (by omega)
            · rw [eI2965, show i2931.toInt.toNat = u by omega, pp_at]
              split
              · rename_i e9
                first
                | rw [hv2964, hv2963, hv2961, iu, q2, e9]
                | (rw [hv2964, hv2963, hv2961, iu, e9, show splS S = 0 by omega])
              · rw [eI2958, pp_off _ _ (lyx_ne hy (by decide) (by decide) (by decide))]; exact iB y (by omega)
          · try simp only [e2966, ew2923]
            omega
    refine WP_sub (fc rfl (fc rfl (fc rfl (fc rfl fn)))) (lp2935 _ v2930 I fI0 ?_ (Nat.lt_succ_self _))
    · try simp only [ew2923]
      exact ⟨0, by omega, by omega, fun q h => absurd h (Nat.not_lt_zero _), fun q h => absurd h (Nat.not_lt_zero _)⟩
  · refine WQ_iconst (0) (0) dX0_open_11 rfl rfl (fun v2969 hv2969 => ?_)
    have hcs : cstS S = 0 := by unfold cstS; rw [if_pos (by omega)]
    refine WP_goto 30 dX0_open_12 rfl ?_
    refine WP_istore_n (ls' := [(0, _), (1, _)]) dX0_open_30 (by decide) rfl ?_
    refine WP_aload_n dX0_open_31 rfl ?_
    refine WP_getr dX0_open_32 fX0_27 rfl (lyx_is hy 5 0 rfl) hT ?_
    refine WQ_getim dX0_open_35 fX0_31 rfl (lyx_is hy 27 7 rfl) ew2923 ?_
    refine WQ_iconst (-1) (-1) dX0_open_38 rfl rfl (fun v2970 hv2970 => ?_)
    refine WQ_icmp_ne 46 dX0_open_39 rfl (fun c2970 => False.elim (by omega)) (fun c2970 => ?_)
    refine WQ_iconst (0) (0) dX0_open_42 rfl rfl (fun v2972 hv2972 => ?_)
    have hss : splS S = 0 := by unfold splS; rw [if_pos (by omega)]
    refine WP_goto 61 dX0_open_43 rfl ?_
    refine WP_istore_n (ls' := [(0, _), (1, _), (2, _)]) dX0_open_61 (by decide) rfl ?_
    refine WQ_iconst (0) (0) dX0_open_62 rfl rfl (fun v2973 hv2973 => ?_)
    refine WP_istore_n (ls' := [(0, _), (1, _), (2, _), (3, _)]) dX0_open_63 (by decide) rfl ?_
    have q1 : v2969.toInt = cstS S := by omega
    have q2 : v2972.toInt = splS S := by omega
    have q3 : 0 ≤ cstS S ∧ cstS S ≤ 9 := by omega
    have q4 : 0 ≤ splS S ∧ splS S ≤ 1000 := by omega
    have lp2978 : ∀ (mz : Nat) (i2974 : Int32) (I2975 : pI), FC g [22, 23, 24, 25, 26] I I2975 → (∃ u : Nat, i2974.toInt = (u : Int) ∧ u ≤ 6 ∧ (∀ x : Nat, x < u → (I2975 (ad g 25) x).toInt = x * cstS S) ∧ (∀ x : Nat, x < u → (I2975 (ad g 26) x).toInt = x - x * splS S / 1000)) → (7 - i2974.toInt.toNat) < mz → WP g mX0_open 64 [(0, .ref (ad g 5)), (1, .int v2969), (2, .int v2972), (3, .int i2974)] [] I2975 J R (fun r I' J' R' => R' = R ∧ FC g [22, 23, 24, 25, 26] I I' ∧ FC g [] J J' ∧ r = none ∧ (MKX g S I')) := by
      intro mz
      induction mz with
      | zero =>
        intro i2974 I2975 fI2976 hvlp2978 hmlp2978
        exact absurd hmlp2978 (Nat.not_lt_zero _)
      | succ mz ihlp2978 =>
        intro i2974 I2975 fI2976 hvlp2978 hmlp2978
        obtain ⟨w2979, ew2979⟩ : ∃ w : Int32, I2975 (ad g 27) 4 = w := ⟨_, rfl⟩
        try simp only [ew2979, ew2923] at hvlp2978 hmlp2978
        obtain ⟨u, iu, iu6, iA, iB⟩ := hvlp2978
        refine WP_iload_n dX0_open_64 rfl ?_
        refine WQ_bipush (6) (6) dX0_open_65 rfl rfl (fun v2980 hv2980 => ?_)
        refine WQ_icmp_ge 100 dX0_open_67 rfl (fun c2980 => ?_) (fun c2980 => ?_)
        · have fB := fI2976
          refine WP_aload_n dX0_open_100 rfl ?_
          refine WP_callV0 (k := 0) dX0_open_101 ⟨⟨⟨by decide, by decide⟩, zX0_pricesAsTold⟩, lX0_43, by decide, rfl, vX0_pricesAsTold.1, vX0_pricesAsTold.2⟩ (lyx_is hy 5 0 rfl) (ex_pricesAsToldb hy hr   hT) (Nat.le_of_ble_eq_true rfl) ?_
          intro r I2983 J2984 Ra hq
          obtain ⟨ec, g2985, g2986, er, p2982⟩ := hq
          rw [ec, er]
          clear ec er Ra r
          have e2988 : I2983 (ad g 27) 4 = w2979 := by rw [FCx_at hy g2985 27 (by decide) (by decide)]; exact ew2979
          have fI2989 : FC g [22, 23, 24, 25, 26] I I2983 := FC_tr fI2976 (FC_mono g2985 (by decide))
          have fJ2990 : FC g [] J J2984 := FC_tr fJ0 (FC_mono g2986 (by decide))
          try simp only [e2988, ew2923] at p2982
          refine WP_aload_n dX0_open_104 rfl ?_
          refine WP_callV0 (k := 0) dX0_open_105 ⟨⟨⟨by decide, by decide⟩, zX0_lossesAsTold⟩, lX0_46, by decide, rfl, vX0_lossesAsTold.1, vX0_lossesAsTold.2⟩ (lyx_is hy 5 0 rfl) (ex_lossesAsToldb hy hr   hT (by intro q hq; rw [FCx_at hy fI2989 28 (by decide) (by decide), hS.2.1 q hq]; have z := hD.1.1.1 q (by omega); omega)) (Nat.le_of_ble_eq_true rfl) ?_
          intro r I2992 J2993 Ra hq
          obtain ⟨ec, g2994, g2995, er, p2991⟩ := hq
          rw [ec, er]
          clear ec er Ra r
          have e2997 : I2992 (ad g 27) 4 = w2979 := by rw [FCx_at hy g2994 27 (by decide) (by decide)]; exact e2988
          have fI2998 : FC g [22, 23, 24, 25, 26] I I2992 := FC_tr fI2989 (FC_mono g2994 (by decide))
          have fJ2999 : FC g [] J J2993 := FC_tr fJ2990 (FC_mono g2995 (by decide))
          try simp only [e2997, ew2923] at p2991
          exact WP_vret dX0_open_108 rfl ⟨rfl, fI2998, fJ2999, rfl, by
            try simp only [e2997, ew2923]
            have fa := g2994
            have fb := g2985
            refine ⟨fun q hq => ?_, fun q hq => ?_, fun d c hd hc => ?_, fun u hu => ?_, fun u hu => ?_⟩
            · rw [FCx_at hy fa 22 (by decide) (by decide), p2982 q (by omega), FCx_at hy fB 39 (by decide) (by decide)]; exact hS.2.2.2.1 (12, 7) (by decide) q hq
            · rw [p2991.1 q hq, FCx_at hy fb 28 (by decide) (by decide), FCx_at hy fB 28 (by decide) (by decide)]; exact hS.2.1 q hq
            · rw [p2991.2 d c hd hc, FCx_at hy fb 28 (by decide) (by decide), FCx_at hy fB 28 (by decide) (by decide), hS.2.1 d hd]
            · rw [FCx_at hy fa 25 (by decide) (by decide), FCx_at hy fb 25 (by decide) (by decide)]; exact iA u (by omega)
            · rw [FCx_at hy fa 26 (by decide) (by decide), FCx_at hy fb 26 (by decide) (by decide)]; exact iB u (by omega)⟩
        · refine WP_aload_n dX0_open_70 rfl ?_
          refine WP_getr dX0_open_71 fX0_21 rfl (lyx_is hy 5 0 rfl) (rfx hr 5 4 25 (by decide)) ?_
          refine WP_iload_n dX0_open_74 rfl ?_
          refine WP_iload_n dX0_open_75 rfl ?_
          refine WP_iload_n dX0_open_76 rfl ?_
          refine WQ_imulk (0) dX0_open_77 hv2969 (by omega) (by omega) (fun v3000 hv3000 => ?_)
          refine WE_is dX0_open_78 (lyx_is hy 25 13 rfl) (lyx_n hy 25 6 rfl) (by omega) (by omega) (fun I3001 eI3001 => ?_)
          have e3002 : I3001 (ad g 27) 4 = w2979 := by rw [eI3001, pp_ne _ _ (Or.inl (lyx_ne hy (by decide) (by decide) (by decide)))]; exact ew2979
          have fI3003 : FC g [22, 23, 24, 25, 26] I I3001 := by rw [eI3001]; exact FC_pp fI2976 (by decide)
          refine WP_aload_n dX0_open_79 rfl ?_
          refine WP_getr dX0_open_80 fX0_24 rfl (lyx_is hy 5 0 rfl) (rfx hr 5 5 26 (by decide)) ?_
          refine WP_iload_n dX0_open_83 rfl ?_
          refine WP_iload_n dX0_open_84 rfl ?_
          refine WP_iload_n dX0_open_85 rfl ?_
          refine WP_iload_n dX0_open_86 rfl ?_
          refine WQ_imulk (0) dX0_open_87 hv2972 (by omega) (by omega) (fun v3004 hv3004 => ?_)
          refine WQ_sipush (1000) (1000) dX0_open_88 rfl rfl (fun v3005 hv3005 => ?_)
          refine WQ_idivk (1000) dX0_open_91 hv3005 (by decide) (by omega) (fun v3006 hv3006 => ?_)
          refine WQ_isub dX0_open_92 (by omega) (by omega) (fun v3007 hv3007 => ?_)
          refine WE_is dX0_open_93 (lyx_is hy 26 13 rfl) (lyx_n hy 26 6 rfl) (by omega) (by omega) (fun I3008 eI3008 => ?_)
          have e3009 : I3008 (ad g 27) 4 = w2979 := by rw [eI3008, pp_ne _ _ (Or.inl (lyx_ne hy (by decide) (by decide) (by decide)))]; exact e3002
          have fI3010 : FC g [22, 23, 24, 25, 26] I I3008 := by rw [eI3008]; exact FC_pp fI3003 (by decide)
          refine WP_iinc (ls' := [(0, _), (1, _), (2, _), (3, _)]) dX0_open_94 rfl (by decide) rfl ?_
          have hv3011 : (i2974 + Int32.ofInt (1)).toInt = i2974.toInt + (1) := ia_n rfl (by omega) (by omega)
          generalize i2974 + Int32.ofInt (1) = v3011 at hv3011 ⊢
          refine WP_goto 64 dX0_open_97 rfl ?_
          refine WP_sub (fc rfl (fc rfl (fc rfl (fc rfl fn)))) (ihlp2978 v3011 I3008 fI3010 ?_ ?_)
          · try simp only [e3009, ew2923]
            refine ⟨u + 1, by omega, by omega, fun y hy9 => ?_, fun y hy9 => ?_⟩
            · rw [eI3008, pp_off _ _ (lyx_ne hy (by decide) (by decide) (by decide)), eI3001, show i2974.toInt.toNat = u by omega, pp_at]
              split
              · rename_i e9
                first
                | rw [hv3000, iu, q1, e9]
                | (rw [hv3000, iu, e9, show cstS S = 0 by omega])
              · exact iA y (by omega)
            · rw [eI3008, show i2974.toInt.toNat = u by omega, pp_at]
              split
              · rename_i e9
                first
                | rw [hv3007, hv3006, hv3004, iu, q2, e9]
                | (rw [hv3007, hv3006, hv3004, iu, e9, show splS S = 0 by omega])
              · rw [eI3001, pp_off _ _ (lyx_ne hy (by decide) (by decide) (by decide))]; exact iB y (by omega)
          · try simp only [e3009, ew2923]
            omega
    refine WP_sub (fc rfl (fc rfl (fc rfl (fc rfl fn)))) (lp2978 _ v2973 I fI0 ?_ (Nat.lt_succ_self _))
    · try simp only [ew2923]
      exact ⟨0, by omega, by omega, fun q h => absurd h (Nat.not_lt_zero _), fun q h => absurd h (Nat.not_lt_zero _)⟩
set_option maxHeartbeats 4000000 in
set_option maxRecDepth 100000 in
theorem ex_begin53b {g : GG} {I : pI} {J : pJ} {R : pR} (hy : LyX g) (hr : RfX g R) {S : TwS}  (hS : RTW g 27 S I J) (hB : SBn S) : SP g mX4_begin [.ref (ad g 53), .ref (ad g 27)] I J R (fun r I' J' R' => R' = R ∧ FC g [53, 55] I I' ∧ FC g [53] J J' ∧ r = none ∧ (BGX g 53 55 S I' J')) := by
  refine SP_of ⟨by decide, rfl⟩ (Nat.le_of_ble_eq_true rfl) ?_
  have fI0 : FC g [53, 55] I I := FC_rf
  have fJ0 : FC g [53] J J := FC_rf
  have hx1 := hS.1.2.1
  have hB2 := hB
  unfold SBn at hB2
  obtain ⟨w3012, ew3012⟩ : ∃ w : Int32, I (ad g 27) 1 = w := ⟨_, rfl⟩
  try simp only [ew3012] at hx1
  refine WP_aload_n dX4_begin_0 rfl ?_
  refine WQ_iconst (0) (0) dX4_begin_1 rfl rfl (fun v3013 hv3013 => ?_)
  refine WQ_puti dX4_begin_2 fX4_18 rfl rfl (lyx_is hy 53 4 rfl) (fun I3014 eI3014 => ?_)
  have e3015 : I3014 (ad g 27) 1 = w3012 := by rw [eI3014, pp_ne _ _ (Or.inl (lyx_ne hy (by decide) (by decide) (by decide)))]; exact ew3012
  have e3016 : I3014 (ad g 53) 0 = v3013 := by rw [eI3014, pp_self]
  have fI3017 : FC g [53, 55] I I3014 := by rw [eI3014]; exact FC_pp fI0 (by decide)
  refine WP_aload_n dX4_begin_5 rfl ?_
  refine WQ_iconst (0) (0) dX4_begin_6 rfl rfl (fun v3018 hv3018 => ?_)
  refine WQ_puti dX4_begin_7 fX4_22 rfl rfl (lyx_is hy 53 4 rfl) (fun I3019 eI3019 => ?_)
  have e3020 : I3019 (ad g 27) 1 = w3012 := by rw [eI3019, pp_ne _ _ (Or.inl (lyx_ne hy (by decide) (by decide) (by decide)))]; exact e3015
  have e3021 : I3019 (ad g 53) 0 = v3013 := by rw [eI3019, pp_ne _ _ (Or.inr (by decide))]; exact e3016
  have e3022 : I3019 (ad g 53) 1 = v3018 := by rw [eI3019, pp_self]
  have fI3023 : FC g [53, 55] I I3019 := by rw [eI3019]; exact FC_pp fI3017 (by decide)
  refine WP_aload_n dX4_begin_10 rfl ?_
  refine WQ_iconst (0) (0) dX4_begin_11 rfl rfl (fun v3024 hv3024 => ?_)
  refine WQ_puti dX4_begin_12 fX4_25 rfl rfl (lyx_is hy 53 4 rfl) (fun I3025 eI3025 => ?_)
  have e3026 : I3025 (ad g 27) 1 = w3012 := by rw [eI3025, pp_ne _ _ (Or.inl (lyx_ne hy (by decide) (by decide) (by decide)))]; exact e3020
  have e3027 : I3025 (ad g 53) 0 = v3013 := by rw [eI3025, pp_ne _ _ (Or.inr (by decide))]; exact e3021
  have e3028 : I3025 (ad g 53) 1 = v3018 := by rw [eI3025, pp_ne _ _ (Or.inr (by decide))]; exact e3022
  have e3029 : I3025 (ad g 53) 2 = v3024 := by rw [eI3025, pp_self]
  have fI3030 : FC g [53, 55] I I3025 := by rw [eI3025]; exact FC_pp fI3023 (by decide)
  refine WP_aload_n dX4_begin_15 rfl ?_
  refine WP_lconst (0) dX4_begin_16 rfl ?_
  obtain ⟨l3031, hl3031, el3031⟩ : ∃ v : Int64, v.toInt = 0 ∧ (0 : Int64) = v := ⟨_, rfl, rfl⟩
  rw [el3031]
  refine WQ_putl dX4_begin_17 fX4_28 rfl rfl (lyx_is hy 53 4 rfl) (fun J3032 eJ3032 => ?_)
  have e3033 : J3032 (ad g 53) 3 = l3031 := by rw [eJ3032, pp_self]
  have fJ3034 : FC g [53] J J3032 := by rw [eJ3032]; exact FC_pp fJ0 (by decide)
  refine WP_aload_n dX4_begin_20 rfl ?_
  refine WP_getr dX4_begin_21 fX4_15 rfl (lyx_is hy 53 4 rfl) (rfx hr 53 5 55 (by decide)) ?_
  refine WQ_iconst (0) (0) dX4_begin_24 rfl rfl (fun v3035 hv3035 => ?_)
  refine WP_callS2u dX4_begin_25 ⟨⟨⟨by decide, by decide⟩, zJ7_fill_53178⟩, lX4_32, tJ7_fill_53178⟩ (s_fill hy hr 55 28 rfl rfl (by decide) v3035) (Nat.le_of_ble_eq_true rfl) ?_
  obtain ⟨I3036, eI3036⟩ : ∃ I9 : pI, I9 = fi I3025 (ad g 55) 28 v3035 := ⟨_, rfl⟩
  rw [← eI3036]
  have e3037 : I3036 (ad g 27) 1 = w3012 := by rw [eI3036, fi_off (lyx_ne hy (by decide) (by decide) (by decide))]; exact e3026
  have e3038 : I3036 (ad g 53) 0 = v3013 := by rw [eI3036, fi_off (lyx_ne hy (by decide) (by decide) (by decide))]; exact e3027
  have e3039 : I3036 (ad g 53) 1 = v3018 := by rw [eI3036, fi_off (lyx_ne hy (by decide) (by decide) (by decide))]; exact e3028
  have e3040 : I3036 (ad g 53) 2 = v3024 := by rw [eI3036, fi_off (lyx_ne hy (by decide) (by decide) (by decide))]; exact e3029
  have fI3041 : FC g [53, 55] I I3036 := by rw [eI3036]; exact FC_fi fI3030 (by decide)
  refine WQ_iconst (0) (0) dX4_begin_28 rfl rfl (fun v3042 hv3042 => ?_)
  refine WP_istore_n (ls' := [(0, _), (1, _), (2, _)]) dX4_begin_29 (by decide) rfl ?_
  have lp3047 : ∀ (mz : Nat) (i3043 : Int32) (I3044 : pI), FC g [53, 55] I I3044 → (∃ k : Nat, i3043.toInt = (k : Int) ∧ (k : Int) ≤ S.1 0 1 ∧ (I3044 (ad g 53) 0).toInt = 0 ∧ (I3044 (ad g 53) 1).toInt = 0 ∧ (I3044 (ad g 53) 2).toInt = 0 ∧ ∀ q : Nat, q < 28 → (I3044 (ad g 55) q).toInt = if q % 7 = 0 ∧ q / 7 < k then S.1 4 (q / 7) else 0) → (5 - i3043.toInt.toNat) < mz → WP g mX4_begin 30 [(0, .ref (ad g 53)), (1, .ref (ad g 27)), (2, .int i3043)] [] I3044 J3032 R (fun r I' J' R' => R' = R ∧ FC g [53, 55] I I' ∧ FC g [53] J J' ∧ r = none ∧ (BGX g 53 55 S I' J')) := by
    intro mz
    induction mz with
    | zero =>
      intro i3043 I3044 fI3045 hvlp3047 hmlp3047
      exact absurd hmlp3047 (Nat.not_lt_zero _)
    | succ mz ihlp3047 =>
      intro i3043 I3044 fI3045 hvlp3047 hmlp3047
      obtain ⟨w3048, ew3048⟩ : ∃ w : Int32, I3044 (ad g 27) 1 = w := ⟨_, rfl⟩
      try simp only [ew3048, ew3012] at hvlp3047 hmlp3047
      obtain ⟨k, ik, ik4, i0, i1, i2, iA⟩ := hvlp3047
      have hx2 := hS.1.2.1
      rw [← FCx_at hy fI3045 27 (by decide) (by decide), ew3048] at hx2
      refine WP_iload_n dX4_begin_30 rfl ?_
      refine WP_aload_n dX4_begin_31 rfl ?_
      refine WQ_getim dX4_begin_32 fX4_38 rfl (lyx_is hy 27 7 rfl) ew3048 ?_
      refine WQ_icmp_ge 61 dX4_begin_35 rfl (fun c3048 => ?_) (fun c3048 => ?_)
      · exact WP_vret dX4_begin_61 rfl ⟨rfl, fI3045, fJ3034, rfl, by
          try simp only [ew3048, e3033, ew3012]
          refine ⟨by omega, by omega, by omega, by rw [e3033]; omega, fun q hq => ?_⟩
          unfold BG0
          rw [iA q hq]
          by_cases e8 : q % 7 = 0 ∧ q / 7 < k
          · rw [if_pos e8, if_pos (by omega)]
          · rw [if_neg e8, if_neg (by omega)]⟩
      · refine WP_aload_n dX4_begin_38 rfl ?_
        refine WP_getr dX4_begin_39 fX4_15 rfl (lyx_is hy 53 4 rfl) (rfx hr 53 5 55 (by decide)) ?_
        refine WP_iload_n dX4_begin_42 rfl ?_
        refine WQ_bipush (7) (7) dX4_begin_43 rfl rfl (fun v3050 hv3050 => ?_)
        refine WQ_imulk (7) dX4_begin_45 hv3050 (by omega) (by omega) (fun v3051 hv3051 => ?_)
        refine WQ_iconst (0) (0) dX4_begin_46 rfl rfl (fun v3052 hv3052 => ?_)
        refine WQ_iadd dX4_begin_47 (by omega) (by omega) (fun v3053 hv3053 => ?_)
        refine WP_aload_n dX4_begin_48 rfl ?_
        refine WP_getr dX4_begin_49 fX4_43 rfl (lyx_is hy 27 7 rfl) (rfx hr 27 8 31 (by decide)) ?_
        refine WP_iload_n dX4_begin_52 rfl ?_
        have fB := fI3045
        refine WE_ia dX4_begin_53 (lyx_is hy 31 13 rfl) (lyx_n hy 31 4 rfl) (by omega) (by omega) (fun v3054 ev3054 => ?_)
        refine WE_is dX4_begin_54 (lyx_is hy 55 13 rfl) (lyx_n hy 55 28 rfl) (by omega) (by omega) (fun I3055 eI3055 => ?_)
        have e3056 : I3055 (ad g 27) 1 = w3048 := by rw [eI3055, pp_ne _ _ (Or.inl (lyx_ne hy (by decide) (by decide) (by decide)))]; exact ew3048
        have e3057 : I3055 (ad g 31) i3043.toInt.toNat = v3054 := by rw [eI3055, pp_ne _ _ (Or.inl (lyx_ne hy (by decide) (by decide) (by decide)))]; exact ev3054
        have fI3058 : FC g [53, 55] I I3055 := by rw [eI3055]; exact FC_pp fI3045 (by decide)
        refine WP_iinc (ls' := [(0, _), (1, _), (2, _)]) dX4_begin_55 rfl (by decide) rfl ?_
        have hv3059 : (i3043 + Int32.ofInt (1)).toInt = i3043.toInt + (1) := ia_n rfl (by omega) (by omega)
        generalize i3043 + Int32.ofInt (1) = v3059 at hv3059 ⊢
        refine WP_goto 30 dX4_begin_58 rfl ?_
        refine WP_sub (fc rfl (fc rfl (fc rfl fn))) (ihlp3047 v3059 I3055 fI3058 ?_ ?_)
        · try simp only [e3056, ew3012]
          have zz : I3055 (ad g 53) = I3044 (ad g 53) := by rw [eI3055, pp_off _ _ (lyx_ne hy (by decide) (by decide) (by decide))]
          refine ⟨k + 1, by omega, by omega, by rw [zz]; exact i0, by rw [zz]; exact i1, by rw [zz]; exact i2, fun q hq => ?_⟩
          rw [eI3055, show v3053.toInt.toNat = 7 * k by omega, pp_at]
          split
          · rename_i e9
            rw [if_pos (by omega), show q / 7 = k by omega, ← ev3054, show i3043.toInt.toNat = k by omega, FCx_at hy fB 31 (by decide) (by decide)]
            exact RTW_S hS (c := 4) (by decide) (by omega)
          · rename_i e9
            rw [iA q hq]
            by_cases e8 : q % 7 = 0 ∧ q / 7 < k
            · rw [if_pos e8, if_pos (by omega)]
            · rw [if_neg e8, if_neg (by omega)]
        · try simp only [e3056, ew3012]
          omega
  refine WP_sub (fc rfl (fc rfl (fc rfl fn))) (lp3047 _ v3042 I3036 fI3041 ?_ (Nat.lt_succ_self _))
  · try simp only [e3037, ew3012]
    refine ⟨0, by omega, by omega, by rw [e3038]; omega, by rw [e3039]; omega, by rw [e3040]; omega, fun q hq => ?_⟩
    rw [eI3036, fi_in hq, if_neg (by omega)]
    omega
set_option maxHeartbeats 4000000 in
set_option maxRecDepth 100000 in
theorem ex_forgetM {g : GG} {I : pI} {J : pJ} {R : pR} (hy : LyX g) (hr : RfX g R)    : SP g mX1_forget [.ref (ad g 71)] I J R (fun r I' J' R' => R' = R ∧ FC g [73] I I' ∧ FC g [] J J' ∧ r = none ∧ (∀ q, q < 8 → (I' (ad g 73) q).toInt = 0)) := by
  refine SP_of ⟨by decide, rfl⟩ (Nat.le_of_ble_eq_true rfl) ?_
  have fI0 : FC g [73] I I := FC_rf
  have fJ0 : FC g [] J J := FC_rf
  refine WP_aload_n dX1_forget_0 rfl ?_
  refine WP_getr dX1_forget_1 fX1_15 rfl (lyx_is hy 71 1 rfl) (rfx hr 71 3 73 (by decide)) ?_
  refine WQ_iconst (0) (0) dX1_forget_4 rfl rfl (fun v3108 hv3108 => ?_)
  refine WP_callS2u dX1_forget_5 ⟨⟨⟨by decide, by decide⟩, zJ7_fill_53178⟩, lX1_22, tJ7_fill_53178⟩ (s_fill hy hr 73 8 rfl rfl (by decide) v3108) (Nat.le_of_ble_eq_true rfl) ?_
  obtain ⟨I3109, eI3109⟩ : ∃ I9 : pI, I9 = fi I (ad g 73) 8 v3108 := ⟨_, rfl⟩
  rw [← eI3109]
  have fI3110 : FC g [73] I I3109 := by rw [eI3109]; exact FC_fi fI0 (by decide)
  exact WP_vret dX1_forget_8 rfl ⟨rfl, fI3110, fJ0, rfl, by
    intro q hq
    rw [eI3109, fi_in hq]
    omega⟩
set_option maxHeartbeats 4000000 in
set_option maxRecDepth 100000 in
theorem ex_settlea {g : GG} {I : pI} {J : pJ} {R : pR} (hy : LyX g) (hr : RfX g R) {S : TwS}  (hT : R (ad g 5) 0 = some (ad g 6)) (hS : RTW g 6 S I J) (hD : TBD S) (hB : SBn S) : SP g mX10_settle [.ref (ad g 0)] I J R (fun r I' J' R' => R' = R ∧ FC g [0, 22, 23, 24, 25, 26, 53, 54, 55, 60, 63, 66, 73] I I' ∧ FC g [53] J J' ∧ r = none ∧ (STX g S I' J')) := by
  refine SP_of ⟨by decide, rfl⟩ (Nat.le_of_ble_eq_true rfl) ?_
  have fI0 : FC g [0, 22, 23, 24, 25, 26, 53, 54, 55, 60, 63, 66, 73] I I := FC_rf
  have fJ0 : FC g [53] J J := FC_rf
  refine WP_aload_n dX10_settle_0 rfl ?_
  refine WP_getr dX10_settle_1 fX10_33 rfl (lyx_is hy 0 10 rfl) (rfx hr 0 2 5 (by decide)) ?_
  refine WP_callV0 (k := 0) dX10_settle_4 ⟨⟨⟨by decide, by decide⟩, zX0_open⟩, lX10_332, by decide, rfl, vX0_open.1, vX0_open.2⟩ (lyx_is hy 5 0 rfl) (ex_opena hy hr   hT hS hD hB) (Nat.le_of_ble_eq_true rfl) ?_
  intro r I3112 J3113 Ra hq
  obtain ⟨ec, g3114, g3115, er, p3111⟩ := hq
  rw [ec, er]
  clear ec er Ra r
  have fI3117 : FC g [0, 22, 23, 24, 25, 26, 53, 54, 55, 60, 63, 66, 73] I I3112 := FC_tr fI0 (FC_mono g3114 (by decide))
  have fJ3118 : FC g [53] J J3113 := FC_tr fJ0 (FC_mono g3115 (by decide))
  have hS2 := RTW_fr hy (by decide) hS hB g3114 g3115 (by decide) (by decide)
  refine WP_aload_n dX10_settle_7 rfl ?_
  refine WP_getr dX10_settle_8 fX10_62 rfl (lyx_is hy 0 10 rfl) (rfx hr 0 5 53 (by decide)) ?_
  refine WP_aload_n dX10_settle_11 rfl ?_
  refine WP_getr dX10_settle_12 fX10_33 rfl (lyx_is hy 0 10 rfl) (rfx hr 0 2 5 (by decide)) ?_
  refine WP_getr dX10_settle_15 fX10_102 rfl (lyx_is hy 5 0 rfl) hT ?_
  refine WP_callV1 (k := 4) dX10_settle_18 ⟨⟨⟨by decide, by decide⟩, zX4_begin⟩, lX10_246, by decide, rfl, vX4_begin.1, vX4_begin.2⟩ (lyx_is hy 53 4 rfl) (ex_begin53a hy hr   hS2 hB) (Nat.le_of_ble_eq_true rfl) ?_
  intro r I3120 J3121 Ra hq
  obtain ⟨ec, g3122, g3123, er, p3119⟩ := hq
  rw [ec, er]
  clear ec er Ra r
  have fI3125 : FC g [0, 22, 23, 24, 25, 26, 53, 54, 55, 60, 63, 66, 73] I I3120 := FC_tr fI3117 (FC_mono g3122 (by decide))
  have fJ3126 : FC g [53] J J3121 := FC_tr fJ3118 (FC_mono g3123 (by decide))
  refine WP_aload_n dX10_settle_21 rfl ?_
  refine WP_getr dX10_settle_22 fX10_62 rfl (lyx_is hy 0 10 rfl) (rfx hr 0 5 53 (by decide)) ?_
  refine WP_getr dX10_settle_25 fX10_225 rfl (lyx_is hy 53 4 rfl) (rfx hr 53 4 54 (by decide)) ?_
  refine WQ_iconst (1) (1) dX10_settle_28 rfl rfl (fun v3127 hv3127 => ?_)
  refine WP_callS2u dX10_settle_29 ⟨⟨⟨by decide, by decide⟩, zJ7_fill_53178⟩, lX10_335, tJ7_fill_53178⟩ (s_fill hy hr 54 4 rfl rfl (by decide) v3127) (Nat.le_of_ble_eq_true rfl) ?_
  obtain ⟨I3128, eI3128⟩ : ∃ I9 : pI, I9 = fi I3120 (ad g 54) 4 v3127 := ⟨_, rfl⟩
  rw [← eI3128]
  have fI3129 : FC g [0, 22, 23, 24, 25, 26, 53, 54, 55, 60, 63, 66, 73] I I3128 := by rw [eI3128]; exact FC_fi fI3125 (by decide)
  refine WQ_iconst (0) (0) dX10_settle_32 rfl rfl (fun v3130 hv3130 => ?_)
  refine WP_istore_n (ls' := [(0, _), (1, _)]) dX10_settle_33 (by decide) rfl ?_
  refine WP_iload_n dX10_settle_34 rfl ?_
  refine WQ_iconst (3) (3) dX10_settle_35 rfl rfl (fun v3131 hv3131 => ?_)
  refine WQ_icmp_ge 55 dX10_settle_36 rfl (fun c3131 => False.elim (by omega)) (fun c3131 => ?_)
  refine WP_aload_n dX10_settle_39 rfl ?_
  refine WP_getr dX10_settle_40 fX10_69 rfl (lyx_is hy 0 10 rfl) (rfx hr 0 7 59 (by decide)) ?_
  refine WP_iload_n dX10_settle_43 rfl ?_
  refine WQ_aald (q := 0) dX10_settle_44 (lyx_is hy 59 16 rfl) (lyx_n hy 59 3 rfl) hv3130 (by decide) (rfx hr 59 0 60 (by decide)) ?_
  refine WQ_iconst (-1) (-1) dX10_settle_45 rfl rfl (fun v3133 hv3133 => ?_)
  refine WQ_puti dX10_settle_46 fX10_232 rfl rfl (lyx_is hy 60 4 rfl) (fun I3134 eI3134 => ?_)
  have e3135 : I3134 (ad g 60) 0 = v3133 := by rw [eI3134, pp_self]
  have fI3136 : FC g [0, 22, 23, 24, 25, 26, 53, 54, 55, 60, 63, 66, 73] I I3134 := by rw [eI3134]; exact FC_pp fI3129 (by decide)
  refine WP_iinc (ls' := [(0, _), (1, _)]) dX10_settle_49 rfl (by decide) rfl ?_
  have hv3137 : (v3130 + Int32.ofInt (1)).toInt = v3130.toInt + (1) := ia_n rfl (by omega) (by omega)
  generalize v3130 + Int32.ofInt (1) = v3137 at hv3137 ⊢
  have kv3137 : v3137.toInt = 1 := by omega
  clear hv3137; have hv3137 := kv3137; clear kv3137
  refine WP_goto 34 dX10_settle_52 rfl ?_
  refine WP_iload_n dX10_settle_34 rfl ?_
  refine WQ_iconst (3) (3) dX10_settle_35 rfl rfl (fun v3138 hv3138 => ?_)
  refine WQ_icmp_ge 55 dX10_settle_36 rfl (fun c3138 => False.elim (by omega)) (fun c3138 => ?_)
  refine WP_aload_n dX10_settle_39 rfl ?_
  refine WP_getr dX10_settle_40 fX10_69 rfl (lyx_is hy 0 10 rfl) (rfx hr 0 7 59 (by decide)) ?_
  refine WP_iload_n dX10_settle_43 rfl ?_
  refine WQ_aald (q := 1) dX10_settle_44 (lyx_is hy 59 16 rfl) (lyx_n hy 59 3 rfl) hv3137 (by decide) (rfx hr 59 1 63 (by decide)) ?_
  refine WQ_iconst (-1) (-1) dX10_settle_45 rfl rfl (fun v3140 hv3140 => ?_)
  refine WQ_puti dX10_settle_46 fX10_232 rfl rfl (lyx_is hy 63 4 rfl) (fun I3141 eI3141 => ?_)
  have e3142 : I3141 (ad g 60) 0 = v3133 := by rw [eI3141, pp_ne _ _ (Or.inl (lyx_ne hy (by decide) (by decide) (by decide)))]; exact e3135
  have e3143 : I3141 (ad g 63) 0 = v3140 := by rw [eI3141, pp_self]
  have fI3144 : FC g [0, 22, 23, 24, 25, 26, 53, 54, 55, 60, 63, 66, 73] I I3141 := by rw [eI3141]; exact FC_pp fI3136 (by decide)
  refine WP_iinc (ls' := [(0, _), (1, _)]) dX10_settle_49 rfl (by decide) rfl ?_
  have hv3145 : (v3137 + Int32.ofInt (1)).toInt = v3137.toInt + (1) := ia_n rfl (by omega) (by omega)
  generalize v3137 + Int32.ofInt (1) = v3145 at hv3145 ⊢
  have kv3145 : v3145.toInt = 2 := by omega
  clear hv3145; have hv3145 := kv3145; clear kv3145
  refine WP_goto 34 dX10_settle_52 rfl ?_
  refine WP_iload_n dX10_settle_34 rfl ?_
  refine WQ_iconst (3) (3) dX10_settle_35 rfl rfl (fun v3146 hv3146 => ?_)
  refine WQ_icmp_ge 55 dX10_settle_36 rfl (fun c3146 => False.elim (by omega)) (fun c3146 => ?_)
  refine WP_aload_n dX10_settle_39 rfl ?_
  refine WP_getr dX10_settle_40 fX10_69 rfl (lyx_is hy 0 10 rfl) (rfx hr 0 7 59 (by decide)) ?_
  refine WP_iload_n dX10_settle_43 rfl ?_
  refine WQ_aald (q := 2) dX10_settle_44 (lyx_is hy 59 16 rfl) (lyx_n hy 59 3 rfl) hv3145 (by decide) (rfx hr 59 2 66 (by decide)) ?_
  refine WQ_iconst (-1) (-1) dX10_settle_45 rfl rfl (fun v3148 hv3148 => ?_)
  refine WQ_puti dX10_settle_46 fX10_232 rfl rfl (lyx_is hy 66 4 rfl) (fun I3149 eI3149 => ?_)
  have e3150 : I3149 (ad g 60) 0 = v3133 := by rw [eI3149, pp_ne _ _ (Or.inl (lyx_ne hy (by decide) (by decide) (by decide)))]; exact e3142
  have e3151 : I3149 (ad g 63) 0 = v3140 := by rw [eI3149, pp_ne _ _ (Or.inl (lyx_ne hy (by decide) (by decide) (by decide)))]; exact e3143
  have e3152 : I3149 (ad g 66) 0 = v3148 := by rw [eI3149, pp_self]
  have fI3153 : FC g [0, 22, 23, 24, 25, 26, 53, 54, 55, 60, 63, 66, 73] I I3149 := by rw [eI3149]; exact FC_pp fI3144 (by decide)
  refine WP_iinc (ls' := [(0, _), (1, _)]) dX10_settle_49 rfl (by decide) rfl ?_
  have hv3154 : (v3145 + Int32.ofInt (1)).toInt = v3145.toInt + (1) := ia_n rfl (by omega) (by omega)
  generalize v3145 + Int32.ofInt (1) = v3154 at hv3154 ⊢
  have kv3154 : v3154.toInt = 3 := by omega
  clear hv3154; have hv3154 := kv3154; clear kv3154
  refine WP_goto 34 dX10_settle_52 rfl ?_
  refine WP_iload_n dX10_settle_34 rfl ?_
  refine WQ_iconst (3) (3) dX10_settle_35 rfl rfl (fun v3155 hv3155 => ?_)
  refine WQ_icmp_ge 55 dX10_settle_36 rfl (fun c3155 => ?_) (fun c3155 => False.elim (by omega))
  refine WP_aload_n dX10_settle_55 rfl ?_
  refine WP_getr dX10_settle_56 fX10_83 rfl (lyx_is hy 0 10 rfl) (rfx hr 0 9 71 (by decide)) ?_
  refine WP_callV0 (k := 1) dX10_settle_59 ⟨⟨⟨by decide, by decide⟩, zX1_forget⟩, lX10_341, by decide, rfl, vX1_forget.1, vX1_forget.2⟩ (lyx_is hy 71 1 rfl) (ex_forgetM hy hr   ) (Nat.le_of_ble_eq_true rfl) ?_
  intro r I3158 J3159 Ra hq
  obtain ⟨ec, g3160, g3161, er, p3157⟩ := hq
  rw [ec, er]
  clear ec er Ra r
  have e3163 : I3158 (ad g 60) 0 = v3133 := by rw [FCx_at hy g3160 60 (by decide) (by decide)]; exact e3150
  have e3164 : I3158 (ad g 63) 0 = v3140 := by rw [FCx_at hy g3160 63 (by decide) (by decide)]; exact e3151
  have e3165 : I3158 (ad g 66) 0 = v3148 := by rw [FCx_at hy g3160 66 (by decide) (by decide)]; exact e3152
  have fI3166 : FC g [0, 22, 23, 24, 25, 26, 53, 54, 55, 60, 63, 66, 73] I I3158 := FC_tr fI3153 (FC_mono g3160 (by decide))
  have fJ3167 : FC g [53] J J3159 := FC_tr fJ3126 (FC_mono g3161 (by decide))
  refine WP_aload_n dX10_settle_62 rfl ?_
  refine WQ_iconst (-1) (-1) dX10_settle_63 rfl rfl (fun v3168 hv3168 => ?_)
  refine WQ_puti dX10_settle_64 fX10_263 rfl rfl (lyx_is hy 0 10 rfl) (fun I3169 eI3169 => ?_)
  have e3170 : I3169 (ad g 60) 0 = v3133 := by rw [eI3169, pp_ne _ _ (Or.inl (lyx_ne hy (by decide) (by decide) (by decide)))]; exact e3163
  have e3171 : I3169 (ad g 63) 0 = v3140 := by rw [eI3169, pp_ne _ _ (Or.inl (lyx_ne hy (by decide) (by decide) (by decide)))]; exact e3164
  have e3172 : I3169 (ad g 66) 0 = v3148 := by rw [eI3169, pp_ne _ _ (Or.inl (lyx_ne hy (by decide) (by decide) (by decide)))]; exact e3165
  have e3173 : I3169 (ad g 0) 11 = v3168 := by rw [eI3169, pp_self]
  have fI3174 : FC g [0, 22, 23, 24, 25, 26, 53, 54, 55, 60, 63, 66, 73] I I3169 := by rw [eI3169]; exact FC_pp fI3166 (by decide)
  exact WP_vret dX10_settle_67 rfl ⟨rfl, fI3174, fJ3167, rfl, by
    try simp only [e3170, e3171, e3172, e3173]
    have fz := g3160
    refine ⟨⟨fun q hq => ?_, fun q hq => ?_, fun d c hd hc => ?_, fun q hq => ?_, fun q hq => ?_⟩, ⟨?_, ?_, ?_, ?_, fun q hq => ?_⟩, fun q hq => ?_, ⟨by rw [e3170]; omega, by rw [e3171]; omega, by rw [e3172]; omega⟩, fun q hq => ?_, by rw [e3173]; omega⟩
    · rw [eI3169, pp_off _ _ (lyx_ne hy (by decide) (by decide) (by decide)), FCx_at hy g3160 22 (by decide) (by decide), eI3149, pp_off _ _ (lyx_ne hy (by decide) (by decide) (by decide)), eI3141, pp_off _ _ (lyx_ne hy (by decide) (by decide) (by decide)), eI3134, pp_off _ _ (lyx_ne hy (by decide) (by decide) (by decide)), eI3128, fi_off (lyx_ne hy (by decide) (by decide) (by decide)), FCx_at hy g3122 22 (by decide) (by decide)]; exact p3111.1 q hq
    · rw [eI3169, pp_off _ _ (lyx_ne hy (by decide) (by decide) (by decide)), FCx_at hy g3160 23 (by decide) (by decide), eI3149, pp_off _ _ (lyx_ne hy (by decide) (by decide) (by decide)), eI3141, pp_off _ _ (lyx_ne hy (by decide) (by decide) (by decide)), eI3134, pp_off _ _ (lyx_ne hy (by decide) (by decide) (by decide)), eI3128, fi_off (lyx_ne hy (by decide) (by decide) (by decide)), FCx_at hy g3122 23 (by decide) (by decide)]; exact p3111.2.1 q hq
    · rw [eI3169, pp_off _ _ (lyx_ne hy (by decide) (by decide) (by decide)), FCx_at hy g3160 24 (by decide) (by decide), eI3149, pp_off _ _ (lyx_ne hy (by decide) (by decide) (by decide)), eI3141, pp_off _ _ (lyx_ne hy (by decide) (by decide) (by decide)), eI3134, pp_off _ _ (lyx_ne hy (by decide) (by decide) (by decide)), eI3128, fi_off (lyx_ne hy (by decide) (by decide) (by decide)), FCx_at hy g3122 24 (by decide) (by decide)]; exact p3111.2.2.1 d c hd hc
    · rw [eI3169, pp_off _ _ (lyx_ne hy (by decide) (by decide) (by decide)), FCx_at hy g3160 25 (by decide) (by decide), eI3149, pp_off _ _ (lyx_ne hy (by decide) (by decide) (by decide)), eI3141, pp_off _ _ (lyx_ne hy (by decide) (by decide) (by decide)), eI3134, pp_off _ _ (lyx_ne hy (by decide) (by decide) (by decide)), eI3128, fi_off (lyx_ne hy (by decide) (by decide) (by decide)), FCx_at hy g3122 25 (by decide) (by decide)]; exact p3111.2.2.2.1 q hq
    · rw [eI3169, pp_off _ _ (lyx_ne hy (by decide) (by decide) (by decide)), FCx_at hy g3160 26 (by decide) (by decide), eI3149, pp_off _ _ (lyx_ne hy (by decide) (by decide) (by decide)), eI3141, pp_off _ _ (lyx_ne hy (by decide) (by decide) (by decide)), eI3134, pp_off _ _ (lyx_ne hy (by decide) (by decide) (by decide)), eI3128, fi_off (lyx_ne hy (by decide) (by decide) (by decide)), FCx_at hy g3122 26 (by decide) (by decide)]; exact p3111.2.2.2.2 q hq
    · rw [eI3169, pp_off _ _ (lyx_ne hy (by decide) (by decide) (by decide)), FCx_at hy g3160 53 (by decide) (by decide), eI3149, pp_off _ _ (lyx_ne hy (by decide) (by decide) (by decide)), eI3141, pp_off _ _ (lyx_ne hy (by decide) (by decide) (by decide)), eI3134, pp_off _ _ (lyx_ne hy (by decide) (by decide) (by decide)), eI3128, fi_off (lyx_ne hy (by decide) (by decide) (by decide))]; exact p3119.1
    · rw [eI3169, pp_off _ _ (lyx_ne hy (by decide) (by decide) (by decide)), FCx_at hy g3160 53 (by decide) (by decide), eI3149, pp_off _ _ (lyx_ne hy (by decide) (by decide) (by decide)), eI3141, pp_off _ _ (lyx_ne hy (by decide) (by decide) (by decide)), eI3134, pp_off _ _ (lyx_ne hy (by decide) (by decide) (by decide)), eI3128, fi_off (lyx_ne hy (by decide) (by decide) (by decide))]; exact p3119.2.1
    · rw [eI3169, pp_off _ _ (lyx_ne hy (by decide) (by decide) (by decide)), FCx_at hy g3160 53 (by decide) (by decide), eI3149, pp_off _ _ (lyx_ne hy (by decide) (by decide) (by decide)), eI3141, pp_off _ _ (lyx_ne hy (by decide) (by decide) (by decide)), eI3134, pp_off _ _ (lyx_ne hy (by decide) (by decide) (by decide)), eI3128, fi_off (lyx_ne hy (by decide) (by decide) (by decide))]; exact p3119.2.2.1
    · rw [FCx_at hy g3161 53 (by decide) (by decide)]; exact p3119.2.2.2.1
    · rw [eI3169, pp_off _ _ (lyx_ne hy (by decide) (by decide) (by decide)), FCx_at hy g3160 55 (by decide) (by decide), eI3149, pp_off _ _ (lyx_ne hy (by decide) (by decide) (by decide)), eI3141, pp_off _ _ (lyx_ne hy (by decide) (by decide) (by decide)), eI3134, pp_off _ _ (lyx_ne hy (by decide) (by decide) (by decide)), eI3128, fi_off (lyx_ne hy (by decide) (by decide) (by decide))]; exact p3119.2.2.2.2 q hq
    · rw [eI3169, pp_off _ _ (lyx_ne hy (by decide) (by decide) (by decide)), FCx_at hy g3160 54 (by decide) (by decide), eI3149, pp_off _ _ (lyx_ne hy (by decide) (by decide) (by decide)), eI3141, pp_off _ _ (lyx_ne hy (by decide) (by decide) (by decide)), eI3134, pp_off _ _ (lyx_ne hy (by decide) (by decide) (by decide)), eI3128, fi_in hq]; omega
    · rw [eI3169, pp_off _ _ (lyx_ne hy (by decide) (by decide) (by decide))]; exact p3157 q hq⟩
set_option maxHeartbeats 4000000 in
set_option maxRecDepth 100000 in
theorem ex_settleb {g : GG} {I : pI} {J : pJ} {R : pR} (hy : LyX g) (hr : RfX g R) {S : TwS}  (hT : R (ad g 5) 0 = some (ad g 27)) (hS : RTW g 27 S I J) (hD : TBD S) (hB : SBn S) : SP g mX10_settle [.ref (ad g 0)] I J R (fun r I' J' R' => R' = R ∧ FC g [0, 22, 23, 24, 25, 26, 53, 54, 55, 60, 63, 66, 73] I I' ∧ FC g [53] J J' ∧ r = none ∧ (STX g S I' J')) := by
  refine SP_of ⟨by decide, rfl⟩ (Nat.le_of_ble_eq_true rfl) ?_
  have fI0 : FC g [0, 22, 23, 24, 25, 26, 53, 54, 55, 60, 63, 66, 73] I I := FC_rf
  have fJ0 : FC g [53] J J := FC_rf
  refine WP_aload_n dX10_settle_0 rfl ?_
  refine WP_getr dX10_settle_1 fX10_33 rfl (lyx_is hy 0 10 rfl) (rfx hr 0 2 5 (by decide)) ?_
  refine WP_callV0 (k := 0) dX10_settle_4 ⟨⟨⟨by decide, by decide⟩, zX0_open⟩, lX10_332, by decide, rfl, vX0_open.1, vX0_open.2⟩ (lyx_is hy 5 0 rfl) (ex_openb hy hr   hT hS hD hB) (Nat.le_of_ble_eq_true rfl) ?_
  intro r I3176 J3177 Ra hq
  obtain ⟨ec, g3178, g3179, er, p3175⟩ := hq
  rw [ec, er]
  clear ec er Ra r
  have fI3181 : FC g [0, 22, 23, 24, 25, 26, 53, 54, 55, 60, 63, 66, 73] I I3176 := FC_tr fI0 (FC_mono g3178 (by decide))
  have fJ3182 : FC g [53] J J3177 := FC_tr fJ0 (FC_mono g3179 (by decide))
  have hS2 := RTW_fr hy (by decide) hS hB g3178 g3179 (by decide) (by decide)
  refine WP_aload_n dX10_settle_7 rfl ?_
  refine WP_getr dX10_settle_8 fX10_62 rfl (lyx_is hy 0 10 rfl) (rfx hr 0 5 53 (by decide)) ?_
  refine WP_aload_n dX10_settle_11 rfl ?_
  refine WP_getr dX10_settle_12 fX10_33 rfl (lyx_is hy 0 10 rfl) (rfx hr 0 2 5 (by decide)) ?_
  refine WP_getr dX10_settle_15 fX10_102 rfl (lyx_is hy 5 0 rfl) hT ?_
  refine WP_callV1 (k := 4) dX10_settle_18 ⟨⟨⟨by decide, by decide⟩, zX4_begin⟩, lX10_246, by decide, rfl, vX4_begin.1, vX4_begin.2⟩ (lyx_is hy 53 4 rfl) (ex_begin53b hy hr   hS2 hB) (Nat.le_of_ble_eq_true rfl) ?_
  intro r I3184 J3185 Ra hq
  obtain ⟨ec, g3186, g3187, er, p3183⟩ := hq
  rw [ec, er]
  clear ec er Ra r
  have fI3189 : FC g [0, 22, 23, 24, 25, 26, 53, 54, 55, 60, 63, 66, 73] I I3184 := FC_tr fI3181 (FC_mono g3186 (by decide))
  have fJ3190 : FC g [53] J J3185 := FC_tr fJ3182 (FC_mono g3187 (by decide))
  refine WP_aload_n dX10_settle_21 rfl ?_
  refine WP_getr dX10_settle_22 fX10_62 rfl (lyx_is hy 0 10 rfl) (rfx hr 0 5 53 (by decide)) ?_
  refine WP_getr dX10_settle_25 fX10_225 rfl (lyx_is hy 53 4 rfl) (rfx hr 53 4 54 (by decide)) ?_
  refine WQ_iconst (1) (1) dX10_settle_28 rfl rfl (fun v3191 hv3191 => ?_)
  refine WP_callS2u dX10_settle_29 ⟨⟨⟨by decide, by decide⟩, zJ7_fill_53178⟩, lX10_335, tJ7_fill_53178⟩ (s_fill hy hr 54 4 rfl rfl (by decide) v3191) (Nat.le_of_ble_eq_true rfl) ?_
  obtain ⟨I3192, eI3192⟩ : ∃ I9 : pI, I9 = fi I3184 (ad g 54) 4 v3191 := ⟨_, rfl⟩
  rw [← eI3192]
  have fI3193 : FC g [0, 22, 23, 24, 25, 26, 53, 54, 55, 60, 63, 66, 73] I I3192 := by rw [eI3192]; exact FC_fi fI3189 (by decide)
  refine WQ_iconst (0) (0) dX10_settle_32 rfl rfl (fun v3194 hv3194 => ?_)
  refine WP_istore_n (ls' := [(0, _), (1, _)]) dX10_settle_33 (by decide) rfl ?_
  refine WP_iload_n dX10_settle_34 rfl ?_
  refine WQ_iconst (3) (3) dX10_settle_35 rfl rfl (fun v3195 hv3195 => ?_)
  refine WQ_icmp_ge 55 dX10_settle_36 rfl (fun c3195 => False.elim (by omega)) (fun c3195 => ?_)
  refine WP_aload_n dX10_settle_39 rfl ?_
  refine WP_getr dX10_settle_40 fX10_69 rfl (lyx_is hy 0 10 rfl) (rfx hr 0 7 59 (by decide)) ?_
  refine WP_iload_n dX10_settle_43 rfl ?_
  refine WQ_aald (q := 0) dX10_settle_44 (lyx_is hy 59 16 rfl) (lyx_n hy 59 3 rfl) hv3194 (by decide) (rfx hr 59 0 60 (by decide)) ?_
  refine WQ_iconst (-1) (-1) dX10_settle_45 rfl rfl (fun v3197 hv3197 => ?_)
  refine WQ_puti dX10_settle_46 fX10_232 rfl rfl (lyx_is hy 60 4 rfl) (fun I3198 eI3198 => ?_)
  have e3199 : I3198 (ad g 60) 0 = v3197 := by rw [eI3198, pp_self]
  have fI3200 : FC g [0, 22, 23, 24, 25, 26, 53, 54, 55, 60, 63, 66, 73] I I3198 := by rw [eI3198]; exact FC_pp fI3193 (by decide)
  refine WP_iinc (ls' := [(0, _), (1, _)]) dX10_settle_49 rfl (by decide) rfl ?_
  have hv3201 : (v3194 + Int32.ofInt (1)).toInt = v3194.toInt + (1) := ia_n rfl (by omega) (by omega)
  generalize v3194 + Int32.ofInt (1) = v3201 at hv3201 ⊢
  have kv3201 : v3201.toInt = 1 := by omega
  clear hv3201; have hv3201 := kv3201; clear kv3201
  refine WP_goto 34 dX10_settle_52 rfl ?_
  refine WP_iload_n dX10_settle_34 rfl ?_
  refine WQ_iconst (3) (3) dX10_settle_35 rfl rfl (fun v3202 hv3202 => ?_)
  refine WQ_icmp_ge 55 dX10_settle_36 rfl (fun c3202 => False.elim (by omega)) (fun c3202 => ?_)
  refine WP_aload_n dX10_settle_39 rfl ?_
  refine WP_getr dX10_settle_40 fX10_69 rfl (lyx_is hy 0 10 rfl) (rfx hr 0 7 59 (by decide)) ?_
  refine WP_iload_n dX10_settle_43 rfl ?_
  refine WQ_aald (q := 1) dX10_settle_44 (lyx_is hy 59 16 rfl) (lyx_n hy 59 3 rfl) hv3201 (by decide) (rfx hr 59 1 63 (by decide)) ?_
  refine WQ_iconst (-1) (-1) dX10_settle_45 rfl rfl (fun v3204 hv3204 => ?_)
  refine WQ_puti dX10_settle_46 fX10_232 rfl rfl (lyx_is hy 63 4 rfl) (fun I3205 eI3205 => ?_)
  have e3206 : I3205 (ad g 60) 0 = v3197 := by rw [eI3205, pp_ne _ _ (Or.inl (lyx_ne hy (by decide) (by decide) (by decide)))]; exact e3199
  have e3207 : I3205 (ad g 63) 0 = v3204 := by rw [eI3205, pp_self]
  have fI3208 : FC g [0, 22, 23, 24, 25, 26, 53, 54, 55, 60, 63, 66, 73] I I3205 := by rw [eI3205]; exact FC_pp fI3200 (by decide)
  refine WP_iinc (ls' := [(0, _), (1, _)]) dX10_settle_49 rfl (by decide) rfl ?_
  have hv3209 : (v3201 + Int32.ofInt (1)).toInt = v3201.toInt + (1) := ia_n rfl (by omega) (by omega)
  generalize v3201 + Int32.ofInt (1) = v3209 at hv3209 ⊢
  have kv3209 : v3209.toInt = 2 := by omega
  clear hv3209; have hv3209 := kv3209; clear kv3209
  refine WP_goto 34 dX10_settle_52 rfl ?_
  refine WP_iload_n dX10_settle_34 rfl ?_
  refine WQ_iconst (3) (3) dX10_settle_35 rfl rfl (fun v3210 hv3210 => ?_)
  refine WQ_icmp_ge 55 dX10_settle_36 rfl (fun c3210 => False.elim (by omega)) (fun c3210 => ?_)
  refine WP_aload_n dX10_settle_39 rfl ?_
  refine WP_getr dX10_settle_40 fX10_69 rfl (lyx_is hy 0 10 rfl) (rfx hr 0 7 59 (by decide)) ?_
  refine WP_iload_n dX10_settle_43 rfl ?_
  refine WQ_aald (q := 2) dX10_settle_44 (lyx_is hy 59 16 rfl) (lyx_n hy 59 3 rfl) hv3209 (by decide) (rfx hr 59 2 66 (by decide)) ?_
  refine WQ_iconst (-1) (-1) dX10_settle_45 rfl rfl (fun v3212 hv3212 => ?_)
  refine WQ_puti dX10_settle_46 fX10_232 rfl rfl (lyx_is hy 66 4 rfl) (fun I3213 eI3213 => ?_)
  have e3214 : I3213 (ad g 60) 0 = v3197 := by rw [eI3213, pp_ne _ _ (Or.inl (lyx_ne hy (by decide) (by decide) (by decide)))]; exact e3206
  have e3215 : I3213 (ad g 63) 0 = v3204 := by rw [eI3213, pp_ne _ _ (Or.inl (lyx_ne hy (by decide) (by decide) (by decide)))]; exact e3207
  have e3216 : I3213 (ad g 66) 0 = v3212 := by rw [eI3213, pp_self]
  have fI3217 : FC g [0, 22, 23, 24, 25, 26, 53, 54, 55, 60, 63, 66, 73] I I3213 := by rw [eI3213]; exact FC_pp fI3208 (by decide)
  refine WP_iinc (ls' := [(0, _), (1, _)]) dX10_settle_49 rfl (by decide) rfl ?_
  have hv3218 : (v3209 + Int32.ofInt (1)).toInt = v3209.toInt + (1) := ia_n rfl (by omega) (by omega)
  generalize v3209 + Int32.ofInt (1) = v3218 at hv3218 ⊢
  have kv3218 : v3218.toInt = 3 := by omega
  clear hv3218; have hv3218 := kv3218; clear kv3218
  refine WP_goto 34 dX10_settle_52 rfl ?_
  refine WP_iload_n dX10_settle_34 rfl ?_
  refine WQ_iconst (3) (3) dX10_settle_35 rfl rfl (fun v3219 hv3219 => ?_)
  refine WQ_icmp_ge 55 dX10_settle_36 rfl (fun c3219 => ?_) (fun c3219 => False.elim (by omega))
  refine WP_aload_n dX10_settle_55 rfl ?_
  refine WP_getr dX10_settle_56 fX10_83 rfl (lyx_is hy 0 10 rfl) (rfx hr 0 9 71 (by decide)) ?_
  refine WP_callV0 (k := 1) dX10_settle_59 ⟨⟨⟨by decide, by decide⟩, zX1_forget⟩, lX10_341, by decide, rfl, vX1_forget.1, vX1_forget.2⟩ (lyx_is hy 71 1 rfl) (ex_forgetM hy hr   ) (Nat.le_of_ble_eq_true rfl) ?_
  intro r I3222 J3223 Ra hq
  obtain ⟨ec, g3224, g3225, er, p3221⟩ := hq
  rw [ec, er]
  clear ec er Ra r
  have e3227 : I3222 (ad g 60) 0 = v3197 := by rw [FCx_at hy g3224 60 (by decide) (by decide)]; exact e3214
  have e3228 : I3222 (ad g 63) 0 = v3204 := by rw [FCx_at hy g3224 63 (by decide) (by decide)]; exact e3215
  have e3229 : I3222 (ad g 66) 0 = v3212 := by rw [FCx_at hy g3224 66 (by decide) (by decide)]; exact e3216
  have fI3230 : FC g [0, 22, 23, 24, 25, 26, 53, 54, 55, 60, 63, 66, 73] I I3222 := FC_tr fI3217 (FC_mono g3224 (by decide))
  have fJ3231 : FC g [53] J J3223 := FC_tr fJ3190 (FC_mono g3225 (by decide))
  refine WP_aload_n dX10_settle_62 rfl ?_
  refine WQ_iconst (-1) (-1) dX10_settle_63 rfl rfl (fun v3232 hv3232 => ?_)
  refine WQ_puti dX10_settle_64 fX10_263 rfl rfl (lyx_is hy 0 10 rfl) (fun I3233 eI3233 => ?_)
  have e3234 : I3233 (ad g 60) 0 = v3197 := by rw [eI3233, pp_ne _ _ (Or.inl (lyx_ne hy (by decide) (by decide) (by decide)))]; exact e3227
  have e3235 : I3233 (ad g 63) 0 = v3204 := by rw [eI3233, pp_ne _ _ (Or.inl (lyx_ne hy (by decide) (by decide) (by decide)))]; exact e3228
  have e3236 : I3233 (ad g 66) 0 = v3212 := by rw [eI3233, pp_ne _ _ (Or.inl (lyx_ne hy (by decide) (by decide) (by decide)))]; exact e3229
  have e3237 : I3233 (ad g 0) 11 = v3232 := by rw [eI3233, pp_self]
  have fI3238 : FC g [0, 22, 23, 24, 25, 26, 53, 54, 55, 60, 63, 66, 73] I I3233 := by rw [eI3233]; exact FC_pp fI3230 (by decide)
  exact WP_vret dX10_settle_67 rfl ⟨rfl, fI3238, fJ3231, rfl, by
    try simp only [e3234, e3235, e3236, e3237]
    have fz := g3224
    refine ⟨⟨fun q hq => ?_, fun q hq => ?_, fun d c hd hc => ?_, fun q hq => ?_, fun q hq => ?_⟩, ⟨?_, ?_, ?_, ?_, fun q hq => ?_⟩, fun q hq => ?_, ⟨by rw [e3234]; omega, by rw [e3235]; omega, by rw [e3236]; omega⟩, fun q hq => ?_, by rw [e3237]; omega⟩
    · rw [eI3233, pp_off _ _ (lyx_ne hy (by decide) (by decide) (by decide)), FCx_at hy g3224 22 (by decide) (by decide), eI3213, pp_off _ _ (lyx_ne hy (by decide) (by decide) (by decide)), eI3205, pp_off _ _ (lyx_ne hy (by decide) (by decide) (by decide)), eI3198, pp_off _ _ (lyx_ne hy (by decide) (by decide) (by decide)), eI3192, fi_off (lyx_ne hy (by decide) (by decide) (by decide)), FCx_at hy g3186 22 (by decide) (by decide)]; exact p3175.1 q hq
    · rw [eI3233, pp_off _ _ (lyx_ne hy (by decide) (by decide) (by decide)), FCx_at hy g3224 23 (by decide) (by decide), eI3213, pp_off _ _ (lyx_ne hy (by decide) (by decide) (by decide)), eI3205, pp_off _ _ (lyx_ne hy (by decide) (by decide) (by decide)), eI3198, pp_off _ _ (lyx_ne hy (by decide) (by decide) (by decide)), eI3192, fi_off (lyx_ne hy (by decide) (by decide) (by decide)), FCx_at hy g3186 23 (by decide) (by decide)]; exact p3175.2.1 q hq
    · rw [eI3233, pp_off _ _ (lyx_ne hy (by decide) (by decide) (by decide)), FCx_at hy g3224 24 (by decide) (by decide), eI3213, pp_off _ _ (lyx_ne hy (by decide) (by decide) (by decide)), eI3205, pp_off _ _ (lyx_ne hy (by decide) (by decide) (by decide)), eI3198, pp_off _ _ (lyx_ne hy (by decide) (by decide) (by decide)), eI3192, fi_off (lyx_ne hy (by decide) (by decide) (by decide)), FCx_at hy g3186 24 (by decide) (by decide)]; exact p3175.2.2.1 d c hd hc
    · rw [eI3233, pp_off _ _ (lyx_ne hy (by decide) (by decide) (by decide)), FCx_at hy g3224 25 (by decide) (by decide), eI3213, pp_off _ _ (lyx_ne hy (by decide) (by decide) (by decide)), eI3205, pp_off _ _ (lyx_ne hy (by decide) (by decide) (by decide)), eI3198, pp_off _ _ (lyx_ne hy (by decide) (by decide) (by decide)), eI3192, fi_off (lyx_ne hy (by decide) (by decide) (by decide)), FCx_at hy g3186 25 (by decide) (by decide)]; exact p3175.2.2.2.1 q hq
    · rw [eI3233, pp_off _ _ (lyx_ne hy (by decide) (by decide) (by decide)), FCx_at hy g3224 26 (by decide) (by decide), eI3213, pp_off _ _ (lyx_ne hy (by decide) (by decide) (by decide)), eI3205, pp_off _ _ (lyx_ne hy (by decide) (by decide) (by decide)), eI3198, pp_off _ _ (lyx_ne hy (by decide) (by decide) (by decide)), eI3192, fi_off (lyx_ne hy (by decide) (by decide) (by decide)), FCx_at hy g3186 26 (by decide) (by decide)]; exact p3175.2.2.2.2 q hq
    · rw [eI3233, pp_off _ _ (lyx_ne hy (by decide) (by decide) (by decide)), FCx_at hy g3224 53 (by decide) (by decide), eI3213, pp_off _ _ (lyx_ne hy (by decide) (by decide) (by decide)), eI3205, pp_off _ _ (lyx_ne hy (by decide) (by decide) (by decide)), eI3198, pp_off _ _ (lyx_ne hy (by decide) (by decide) (by decide)), eI3192, fi_off (lyx_ne hy (by decide) (by decide) (by decide))]; exact p3183.1
    · rw [eI3233, pp_off _ _ (lyx_ne hy (by decide) (by decide) (by decide)), FCx_at hy g3224 53 (by decide) (by decide), eI3213, pp_off _ _ (lyx_ne hy (by decide) (by decide) (by decide)), eI3205, pp_off _ _ (lyx_ne hy (by decide) (by decide) (by decide)), eI3198, pp_off _ _ (lyx_ne hy (by decide) (by decide) (by decide)), eI3192, fi_off (lyx_ne hy (by decide) (by decide) (by decide))]; exact p3183.2.1
    · rw [eI3233, pp_off _ _ (lyx_ne hy (by decide) (by decide) (by decide)), FCx_at hy g3224 53 (by decide) (by decide), eI3213, pp_off _ _ (lyx_ne hy (by decide) (by decide) (by decide)), eI3205, pp_off _ _ (lyx_ne hy (by decide) (by decide) (by decide)), eI3198, pp_off _ _ (lyx_ne hy (by decide) (by decide) (by decide)), eI3192, fi_off (lyx_ne hy (by decide) (by decide) (by decide))]; exact p3183.2.2.1
    · rw [FCx_at hy g3225 53 (by decide) (by decide)]; exact p3183.2.2.2.1
    · rw [eI3233, pp_off _ _ (lyx_ne hy (by decide) (by decide) (by decide)), FCx_at hy g3224 55 (by decide) (by decide), eI3213, pp_off _ _ (lyx_ne hy (by decide) (by decide) (by decide)), eI3205, pp_off _ _ (lyx_ne hy (by decide) (by decide) (by decide)), eI3198, pp_off _ _ (lyx_ne hy (by decide) (by decide) (by decide)), eI3192, fi_off (lyx_ne hy (by decide) (by decide) (by decide))]; exact p3183.2.2.2.2 q hq
    · rw [eI3233, pp_off _ _ (lyx_ne hy (by decide) (by decide) (by decide)), FCx_at hy g3224 54 (by decide) (by decide), eI3213, pp_off _ _ (lyx_ne hy (by decide) (by decide) (by decide)), eI3205, pp_off _ _ (lyx_ne hy (by decide) (by decide) (by decide)), eI3198, pp_off _ _ (lyx_ne hy (by decide) (by decide) (by decide)), eI3192, fi_in hq]; omega
    · rw [eI3233, pp_off _ _ (lyx_ne hy (by decide) (by decide) (by decide))]; exact p3221 q hq⟩
set_option maxHeartbeats 4000000 in
set_option maxRecDepth 100000 in
theorem ex_towna {g : GG} {I : pI} {J : pJ} {R : pR} (hy : LyX g) (hr : RfX g R) {aK aV : Nat → Nat} {fo : Option Nat} (hz : HZ g aK aV fo) {B : Nat → Int} {n : Nat}  (hT : R (ad g 5) 0 = some (ad g 6)) (h0 : R (ad g 0) 10 = some (ad g 27)) (hTP : TPX g B n I) (hn : n ≤ 900) : SP g mX10_town [.ref (ad g 0)] I J R (fun r I' J' R' => FC g [0, 1, 3, 4, 22, 23, 24, 25, 26, 27, 28, 29, 30, 31, 32, 33, 34, 35, 36, 37, 38, 39, 40, 42, 53, 54, 55, 60, 63, 66, 73] I I' ∧ FC g [1, 41, 53] J J' ∧ ∃ v : Int32, r = some (.int v) ∧ ((v.toInt = -1 ∧ R' = R ∧ FC g [1, 3, 4, 27, 28, 29, 30, 31, 32, 33, 34, 35, 36, 37, 38, 39, 40, 42] I I' ∧ ∃ (j : Nat → Nat → Int) (k pl : Nat), town B n j = .error (k, pl) ∧ (I' (ad g 3) 0).toInt = (k : Int) ∧ (I' (ad g 3) 1).toInt = (pl : Int)) ∨ (∃ (j : Nat → Nat → Int) (S2 : TwS), town B n j = .ok S2 ∧ v.toInt = S2.1 0 0 ∧ (RfX g R' ∧ R' (ad g 5) 0 = some (ad g 27) ∧ R' (ad g 0) 10 = some (ad g 6)) ∧ RTX g 27 S2 I' J' ∧ STX g S2 I' J' ∧ (I' (ad g 3) 0).toInt = 0 ∧ (I' (ad g 3) 1).toInt = -1))) := by
  refine SP_of ⟨by decide, rfl⟩ (Nat.le_of_ble_eq_true rfl) ?_
  have fI0 : FC g [0, 1, 3, 4, 22, 23, 24, 25, 26, 27, 28, 29, 30, 31, 32, 33, 34, 35, 36, 37, 38, 39, 40, 42, 53, 54, 55, 60, 63, 66, 73] I I := FC_rf
  have fJ0 : FC g [1, 41, 53] J J := FC_rf
  refine WP_aload_n dX10_town_0 rfl ?_
  refine WP_getr dX10_town_1 fX10_21 rfl (lyx_is hy 0 10 rfl) (rfx hr 0 1 3 (by decide)) ?_
  refine WP_aload_n dX10_town_4 rfl ?_
  refine WP_getr dX10_town_5 fX10_37 rfl (lyx_is hy 0 10 rfl) h0 ?_
  refine WP_callV1 (k := 3) dX10_town_8 ⟨⟨⟨by decide, by decide⟩, zX3_readTown⟩, lX10_98, by decide, rfl, vX3_readTown.1, vX3_readTown.2⟩ (lyx_is hy 3 3 rfl) (ex_readTownb hy hr hz   hTP hn) (Nat.le_of_ble_eq_true rfl) ?_
  intro r I3241 J3242 Ra hq
  obtain ⟨ec, g3243, g3244, v3240, er, p3239⟩ := hq
  rw [ec, er]
  clear ec er Ra r
  have fI3246 : FC g [0, 1, 3, 4, 22, 23, 24, 25, 26, 27, 28, 29, 30, 31, 32, 33, 34, 35, 36, 37, 38, 39, 40, 42, 53, 54, 55, 60, 63, 66, 73] I I3241 := FC_tr fI0 (FC_mono g3243 (by decide))
  have fJ3247 : FC g [1, 41, 53] J J3242 := FC_tr fJ0 (FC_mono g3244 (by decide))
  refine WP_istore_n (ls' := [(0, _), (1, _)]) dX10_town_11 (by decide) rfl ?_
  refine WP_aload_n dX10_town_12 rfl ?_
  refine WP_getr dX10_town_13 fX10_12 rfl (lyx_is hy 0 10 rfl) (rfx hr 0 0 1 (by decide)) ?_
  refine WQ_iconst (0) (0) dX10_town_16 rfl rfl (fun v3248 hv3248 => ?_)
  refine WQ_puti dX10_town_17 fX10_90 rfl rfl (lyx_is hy 1 5 rfl) (fun I3249 eI3249 => ?_)
  have e3250 : I3249 (ad g 1) 1 = v3248 := by rw [eI3249, pp_self]
  have fI3251 : FC g [0, 1, 3, 4, 22, 23, 24, 25, 26, 27, 28, 29, 30, 31, 32, 33, 34, 35, 36, 37, 38, 39, 40, 42, 53, 54, 55, 60, 63, 66, 73] I I3249 := by rw [eI3249]; exact FC_pp fI3246 (by decide)
  refine WP_iload_n dX10_town_20 rfl ?_
  refine WQ_if_ne 26 dX10_town_21 rfl (fun c3251 => ?_) (fun c3251 => ?_)
  · obtain ⟨j, S2, hz2, hR1, -, hk0, hk1⟩ := (Or.resolve_left p3239 (by rintro ⟨z, -⟩; omega)).2
    have hg := town_all hz2
    have hR2 := RTX_fr hy (by decide) hR1 (C := [1]) (D := []) (show FC g [1] _ I3249 from by rw [eI3249]; exact FC_pp FC_rf (by decide)) FC_rf (by decide) (by decide)
    refine WP_aload_n dX10_town_26 rfl ?_
    refine WP_getr dX10_town_27 fX10_33 rfl (lyx_is hy 0 10 rfl) (rfx hr 0 2 5 (by decide)) ?_
    refine WP_getr dX10_town_30 fX10_102 rfl (lyx_is hy 5 0 rfl) hT ?_
    refine WP_astore_n (ls' := [(0, _), (1, _), (2, _)]) dX10_town_33 (by decide) rfl ?_
    refine WP_aload_n dX10_town_34 rfl ?_
    refine WP_getr dX10_town_35 fX10_33 rfl (lyx_is hy 0 10 rfl) (rfx hr 0 2 5 (by decide)) ?_
    refine WP_aload_n dX10_town_38 rfl ?_
    refine WP_getr dX10_town_39 fX10_37 rfl (lyx_is hy 0 10 rfl) h0 ?_
    refine WP_putr dX10_town_42 fX10_102 rfl rfl rfl rfl (lyx_is hy 5 0 rfl) ?_
    obtain ⟨R3253, eR3253⟩ : ∃ R9 : pR, R9 = pp R (ad g 5) 0 (some (ad g 27)) := ⟨_, rfl⟩
    rw [← eR3253]
    have hrR3253 : RfX g R3253 := by rw [eR3253]; exact rfx_pt hy hr (by decide)
    have hOR3253 : R3253 (ad g 0) 10 = some (ad g 27) := by rw [eR3253, pp_ne _ _ (Or.inl (lyx_ne hy (by decide) (by decide) (by decide)))]; exact h0
    have hQR3253 : R3253 (ad g 5) 0 = some (ad g 27) := by rw [eR3253, pp_self]
    clear eR3253
    refine WP_aload_n dX10_town_45 rfl ?_
    refine WP_aload_n dX10_town_46 rfl ?_
    refine WP_putr dX10_town_47 fX10_37 rfl rfl rfl rfl (lyx_is hy 0 10 rfl) ?_
    obtain ⟨R3254, eR3254⟩ : ∃ R9 : pR, R9 = pp R3253 (ad g 0) 10 (some (ad g 6)) := ⟨_, rfl⟩
    rw [← eR3254]
    have hrR3254 : RfX g R3254 := by rw [eR3254]; exact rfx_pt hy hrR3253 (by decide)
    have hOR3254 : R3254 (ad g 5) 0 = some (ad g 27) := by rw [eR3254, pp_ne _ _ (Or.inl (lyx_ne hy (by decide) (by decide) (by decide)))]; exact hQR3253
    have hQR3254 : R3254 (ad g 0) 10 = some (ad g 6) := by rw [eR3254, pp_self]
    clear eR3254
    refine WP_aload_n dX10_town_50 rfl ?_
    refine WP_callV0 (k := 10) dX10_town_51 ⟨⟨⟨by decide, by decide⟩, zX10_settle⟩, lX10_87, by decide, rfl, vX10_settle.1, vX10_settle.2⟩ (lyx_is hy 0 10 rfl) (ex_settleb hy hrR3254   hOR3254 (RTW_of hR2 hg.1) hg.2.2.2 hg.1) (Nat.le_of_ble_eq_true rfl) ?_
    intro r I3256 J3257 Ra hq
    obtain ⟨ec, g3258, g3259, er, p3255⟩ := hq
    rw [ec, er]
    clear ec er Ra r
    have e3261 : I3256 (ad g 1) 1 = v3248 := by rw [FCx_at hy g3258 1 (by decide) (by decide)]; exact e3250
    have fI3262 : FC g [0, 1, 3, 4, 22, 23, 24, 25, 26, 27, 28, 29, 30, 31, 32, 33, 34, 35, 36, 37, 38, 39, 40, 42, 53, 54, 55, 60, 63, 66, 73] I I3256 := FC_tr fI3251 (FC_mono g3258 (by decide))
    have fJ3263 : FC g [1, 41, 53] J J3257 := FC_tr fJ3247 (FC_mono g3259 (by decide))
    have hR3 := RTX_fr hy (by decide) hR2 g3258 g3259 (by decide) (by decide)
    refine WP_aload_n dX10_town_54 rfl ?_
    refine WP_getr dX10_town_55 fX10_33 rfl (lyx_is hy 0 10 rfl) (rfx hrR3254 0 2 5 (by decide)) ?_
    refine WP_getr dX10_town_58 fX10_102 rfl (lyx_is hy 5 0 rfl) hOR3254 ?_
    obtain ⟨w3264, ew3264⟩ : ∃ w : Int32, I3256 (ad g 27) 0 = w := ⟨_, rfl⟩
    refine WQ_getim dX10_town_61 fX10_105 rfl (lyx_is hy 27 7 rfl) ew3264 ?_
    exact WP_iret dX10_town_64 rfl ⟨fI3262, fJ3263, w3264, rfl, by
      try simp only [e3261, ew3264]
      refine Or.inr ⟨j, S2, hz2, ?_, ⟨hrR3254, hOR3254, hQR3254⟩, hR3, p3255, ?_, ?_⟩
      · exact (by simpa only [ew3264] using (RTX_b hR3).2.2.2.2)
      · rw [FCx_at hy g3258 3 (by decide) (by decide), eI3249, pp_off _ _ (lyx_ne hy (by decide) (by decide) (by decide))]; exact hk0
      · rw [FCx_at hy g3258 3 (by decide) (by decide), eI3249, pp_off _ _ (lyx_ne hy (by decide) (by decide) (by decide))]; exact hk1⟩
  · refine WQ_iconst (-1) (-1) dX10_town_24 rfl rfl (fun v3265 hv3265 => ?_)
    exact WP_iret dX10_town_25 rfl ⟨fI3251, fJ3247, v3265, rfl, by
      try simp only [e3250]
      rcases p3239 with ⟨z, j, k, pl, h1, h2, h3⟩ | ⟨z, -⟩
      · refine Or.inl ⟨by omega, by first | rfl | trivial, FC_tr g3243 (by rw [eI3249]; exact FC_pp FC_rf (by decide)), j, k, pl, h1, ?_, ?_⟩
        · rw [eI3249, pp_off _ _ (lyx_ne hy (by decide) (by decide) (by decide))]; exact h2
        · rw [eI3249, pp_off _ _ (lyx_ne hy (by decide) (by decide) (by decide))]; exact h3
      · exact absurd z (by omega)⟩
set_option maxHeartbeats 4000000 in
set_option maxRecDepth 100000 in
theorem ex_townb {g : GG} {I : pI} {J : pJ} {R : pR} (hy : LyX g) (hr : RfX g R) {aK aV : Nat → Nat} {fo : Option Nat} (hz : HZ g aK aV fo) {B : Nat → Int} {n : Nat}  (hT : R (ad g 5) 0 = some (ad g 27)) (h0 : R (ad g 0) 10 = some (ad g 6)) (hTP : TPX g B n I) (hn : n ≤ 900) : SP g mX10_town [.ref (ad g 0)] I J R (fun r I' J' R' => FC g [0, 1, 3, 4, 6, 7, 8, 9, 10, 11, 12, 13, 14, 15, 16, 17, 18, 19, 21, 22, 23, 24, 25, 26, 53, 54, 55, 60, 63, 66, 73] I I' ∧ FC g [1, 20, 53] J J' ∧ ∃ v : Int32, r = some (.int v) ∧ ((v.toInt = -1 ∧ R' = R ∧ FC g [1, 3, 4, 6, 7, 8, 9, 10, 11, 12, 13, 14, 15, 16, 17, 18, 19, 21] I I' ∧ ∃ (j : Nat → Nat → Int) (k pl : Nat), town B n j = .error (k, pl) ∧ (I' (ad g 3) 0).toInt = (k : Int) ∧ (I' (ad g 3) 1).toInt = (pl : Int)) ∨ (∃ (j : Nat → Nat → Int) (S2 : TwS), town B n j = .ok S2 ∧ v.toInt = S2.1 0 0 ∧ (RfX g R' ∧ R' (ad g 5) 0 = some (ad g 6) ∧ R' (ad g 0) 10 = some (ad g 27)) ∧ RTX g 6 S2 I' J' ∧ STX g S2 I' J' ∧ (I' (ad g 3) 0).toInt = 0 ∧ (I' (ad g 3) 1).toInt = -1))) := by
  refine SP_of ⟨by decide, rfl⟩ (Nat.le_of_ble_eq_true rfl) ?_
  have fI0 : FC g [0, 1, 3, 4, 6, 7, 8, 9, 10, 11, 12, 13, 14, 15, 16, 17, 18, 19, 21, 22, 23, 24, 25, 26, 53, 54, 55, 60, 63, 66, 73] I I := FC_rf
  have fJ0 : FC g [1, 20, 53] J J := FC_rf
  refine WP_aload_n dX10_town_0 rfl ?_
  refine WP_getr dX10_town_1 fX10_21 rfl (lyx_is hy 0 10 rfl) (rfx hr 0 1 3 (by decide)) ?_
  refine WP_aload_n dX10_town_4 rfl ?_
  refine WP_getr dX10_town_5 fX10_37 rfl (lyx_is hy 0 10 rfl) h0 ?_
  refine WP_callV1 (k := 3) dX10_town_8 ⟨⟨⟨by decide, by decide⟩, zX3_readTown⟩, lX10_98, by decide, rfl, vX3_readTown.1, vX3_readTown.2⟩ (lyx_is hy 3 3 rfl) (ex_readTowna hy hr hz   hTP hn) (Nat.le_of_ble_eq_true rfl) ?_
  intro r I3268 J3269 Ra hq
  obtain ⟨ec, g3270, g3271, v3267, er, p3266⟩ := hq
  rw [ec, er]
  clear ec er Ra r
  have fI3273 : FC g [0, 1, 3, 4, 6, 7, 8, 9, 10, 11, 12, 13, 14, 15, 16, 17, 18, 19, 21, 22, 23, 24, 25, 26, 53, 54, 55, 60, 63, 66, 73] I I3268 := FC_tr fI0 (FC_mono g3270 (by decide))
  have fJ3274 : FC g [1, 20, 53] J J3269 := FC_tr fJ0 (FC_mono g3271 (by decide))
  refine WP_istore_n (ls' := [(0, _), (1, _)]) dX10_town_11 (by decide) rfl ?_
  refine WP_aload_n dX10_town_12 rfl ?_
  refine WP_getr dX10_town_13 fX10_12 rfl (lyx_is hy 0 10 rfl) (rfx hr 0 0 1 (by decide)) ?_
  refine WQ_iconst (0) (0) dX10_town_16 rfl rfl (fun v3275 hv3275 => ?_)
  refine WQ_puti dX10_town_17 fX10_90 rfl rfl (lyx_is hy 1 5 rfl) (fun I3276 eI3276 => ?_)
  have e3277 : I3276 (ad g 1) 1 = v3275 := by rw [eI3276, pp_self]
  have fI3278 : FC g [0, 1, 3, 4, 6, 7, 8, 9, 10, 11, 12, 13, 14, 15, 16, 17, 18, 19, 21, 22, 23, 24, 25, 26, 53, 54, 55, 60, 63, 66, 73] I I3276 := by rw [eI3276]; exact FC_pp fI3273 (by decide)
  refine WP_iload_n dX10_town_20 rfl ?_
  refine WQ_if_ne 26 dX10_town_21 rfl (fun c3278 => ?_) (fun c3278 => ?_)
  · obtain ⟨j, S2, hz2, hR1, -, hk0, hk1⟩ := (Or.resolve_left p3266 (by rintro ⟨z, -⟩; omega)).2
    have hg := town_all hz2
    have hR2 := RTX_fr hy (by decide) hR1 (C := [1]) (D := []) (show FC g [1] _ I3276 from by rw [eI3276]; exact FC_pp FC_rf (by decide)) FC_rf (by decide) (by decide)
    refine WP_aload_n dX10_town_26 rfl ?_
    refine WP_getr dX10_town_27 fX10_33 rfl (lyx_is hy 0 10 rfl) (rfx hr 0 2 5 (by decide)) ?_
    refine WP_getr dX10_town_30 fX10_102 rfl (lyx_is hy 5 0 rfl) hT ?_
    refine WP_astore_n (ls' := [(0, _), (1, _), (2, _)]) dX10_town_33 (by decide) rfl ?_
    refine WP_aload_n dX10_town_34 rfl ?_
    refine WP_getr dX10_town_35 fX10_33 rfl (lyx_is hy 0 10 rfl) (rfx hr 0 2 5 (by decide)) ?_
    refine WP_aload_n dX10_town_38 rfl ?_
    refine WP_getr dX10_town_39 fX10_37 rfl (lyx_is hy 0 10 rfl) h0 ?_
    refine WP_putr dX10_town_42 fX10_102 rfl rfl rfl rfl (lyx_is hy 5 0 rfl) ?_
    obtain ⟨R3280, eR3280⟩ : ∃ R9 : pR, R9 = pp R (ad g 5) 0 (some (ad g 6)) := ⟨_, rfl⟩
    rw [← eR3280]
    have hrR3280 : RfX g R3280 := by rw [eR3280]; exact rfx_pt hy hr (by decide)
    have hOR3280 : R3280 (ad g 0) 10 = some (ad g 6) := by rw [eR3280, pp_ne _ _ (Or.inl (lyx_ne hy (by decide) (by decide) (by decide)))]; exact h0
    have hQR3280 : R3280 (ad g 5) 0 = some (ad g 6) := by rw [eR3280, pp_self]
    clear eR3280
    refine WP_aload_n dX10_town_45 rfl ?_
    refine WP_aload_n dX10_town_46 rfl ?_
    refine WP_putr dX10_town_47 fX10_37 rfl rfl rfl rfl (lyx_is hy 0 10 rfl) ?_
    obtain ⟨R3281, eR3281⟩ : ∃ R9 : pR, R9 = pp R3280 (ad g 0) 10 (some (ad g 27)) := ⟨_, rfl⟩
    rw [← eR3281]
    have hrR3281 : RfX g R3281 := by rw [eR3281]; exact rfx_pt hy hrR3280 (by decide)
    have hOR3281 : R3281 (ad g 5) 0 = some (ad g 6) := by rw [eR3281, pp_ne _ _ (Or.inl (lyx_ne hy (by decide) (by decide) (by decide)))]; exact hQR3280
    have hQR3281 : R3281 (ad g 0) 10 = some (ad g 27) := by rw [eR3281, pp_self]
    clear eR3281
    refine WP_aload_n dX10_town_50 rfl ?_
    refine WP_callV0 (k := 10) dX10_town_51 ⟨⟨⟨by decide, by decide⟩, zX10_settle⟩, lX10_87, by decide, rfl, vX10_settle.1, vX10_settle.2⟩ (lyx_is hy 0 10 rfl) (ex_settlea hy hrR3281   hOR3281 (RTW_of hR2 hg.1) hg.2.2.2 hg.1) (Nat.le_of_ble_eq_true rfl) ?_
    intro r I3283 J3284 Ra hq
    obtain ⟨ec, g3285, g3286, er, p3282⟩ := hq
    rw [ec, er]
    clear ec er Ra r
    have e3288 : I3283 (ad g 1) 1 = v3275 := by rw [FCx_at hy g3285 1 (by decide) (by decide)]; exact e3277
    have fI3289 : FC g [0, 1, 3, 4, 6, 7, 8, 9, 10, 11, 12, 13, 14, 15, 16, 17, 18, 19, 21, 22, 23, 24, 25, 26, 53, 54, 55, 60, 63, 66, 73] I I3283 := FC_tr fI3278 (FC_mono g3285 (by decide))
    have fJ3290 : FC g [1, 20, 53] J J3284 := FC_tr fJ3274 (FC_mono g3286 (by decide))
    have hR3 := RTX_fr hy (by decide) hR2 g3285 g3286 (by decide) (by decide)
    refine WP_aload_n dX10_town_54 rfl ?_
    refine WP_getr dX10_town_55 fX10_33 rfl (lyx_is hy 0 10 rfl) (rfx hrR3281 0 2 5 (by decide)) ?_
    refine WP_getr dX10_town_58 fX10_102 rfl (lyx_is hy 5 0 rfl) hOR3281 ?_
    obtain ⟨w3291, ew3291⟩ : ∃ w : Int32, I3283 (ad g 6) 0 = w := ⟨_, rfl⟩
    refine WQ_getim dX10_town_61 fX10_105 rfl (lyx_is hy 6 7 rfl) ew3291 ?_
    exact WP_iret dX10_town_64 rfl ⟨fI3289, fJ3290, w3291, rfl, by
      try simp only [e3288, ew3291]
      refine Or.inr ⟨j, S2, hz2, ?_, ⟨hrR3281, hOR3281, hQR3281⟩, hR3, p3282, ?_, ?_⟩
      · exact (by simpa only [ew3291] using (RTX_b hR3).2.2.2.2)
      · rw [FCx_at hy g3285 3 (by decide) (by decide), eI3276, pp_off _ _ (lyx_ne hy (by decide) (by decide) (by decide))]; exact hk0
      · rw [FCx_at hy g3285 3 (by decide) (by decide), eI3276, pp_off _ _ (lyx_ne hy (by decide) (by decide) (by decide))]; exact hk1⟩
  · refine WQ_iconst (-1) (-1) dX10_town_24 rfl rfl (fun v3292 hv3292 => ?_)
    exact WP_iret dX10_town_25 rfl ⟨fI3278, fJ3274, v3292, rfl, by
      try simp only [e3277]
      rcases p3266 with ⟨z, j, k, pl, h1, h2, h3⟩ | ⟨z, -⟩
      · refine Or.inl ⟨by omega, by first | rfl | trivial, FC_tr g3270 (by rw [eI3276]; exact FC_pp FC_rf (by decide)), j, k, pl, h1, ?_, ?_⟩
        · rw [eI3276, pp_off _ _ (lyx_ne hy (by decide) (by decide) (by decide))]; exact h2
        · rw [eI3276, pp_off _ _ (lyx_ne hy (by decide) (by decide) (by decide))]; exact h3
      · exact absurd z (by omega)⟩
