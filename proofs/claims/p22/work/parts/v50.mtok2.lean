/-- a fault of the reference; none new -/
def ERM (g : GG) (k pl : Nat) (I : pI) : Prop := (I (ad g 0) 8).toInt = (k : Int) ∧ (I (ad g 0) 9).toInt = (pl : Int)
def NOF (g : GG) (I I' : pI) : Prop := I' (ad g 0) 8 = I (ad g 0) 8 ∧ I' (ad g 0) 9 = I (ad g 0) 9
theorem cum_fq {g : GG} {B : Nat → Int} {n p : Nat} {I I' : pI} {Q : List Nat} (h : CUM g B n p I) (hf : FQ g Q I I') (hq : 3 ∉ Q ∧ 4 ∉ Q ∧ 5 ∉ Q ∧ 6 ∉ Q) : CUM g B n p I' := by
  unfold CUM
  rw [hf 3 hq.1, hf 4 hq.2.1, hf 5 hq.2.2.1, hf 6 hq.2.2.2]
  exact h
theorem tpm_fq {g : GG} (hy : Ly g) {B : Nat → Int} {n : Nat} {I I' : pI} {C Q : List Nat} (h : TPM g B n I) (hf : FC g C I I') (hC : ∀ i ∈ C, 1 ≠ i ∧ i < 49) (hq : FQ g Q I I') (h2 : 2 ∉ Q) : TPM g B n I' := ⟨by rw [hq 2 h2]; exact h.1, fun q hl => by rw [FC_at hy hf 1 (by decide) hC]; exact h.2 q hl⟩
/-- a name of the reference's, and the word that it is of -/
def NMM (g : GG) (c b k : Nat) (nm : Nat → Int) (J : pJ) : Prop := ∀ q, q < k → (J (ad g c) q).toInt = c5 8 (nm (b + q)) ∧ okW 8 (nm (b + q))
theorem tok_w {B : Nat → Int} {n p : Nat} (hp : p ≤ n) (h : tK B n p = 1) : okW 8 (tW B n p) ∧ c5 8 (tW B n p) = tM B n p ∧ tT B n p - tF B n p ≤ 8 ∧ (∀ q, tF B n p ≤ q → q < tT B n p → 97 ≤ B q ∧ B q ≤ 122) := by
  have hn : tF B n p ≠ n := by intro e; rw [(tok_end e).2] at h; exact absurd h (by decide)
  have hl : bL (B (tF B n p)) = true := by
    cases hb : bL (B (tF B n p)) with
    | true => rfl
    | false =>
      cases hd : bD (B (tF B n p)) with
      | true => rw [(tok_dig rfl hn hb hd).2] at h; split at h <;> exact absurd h (by decide)
      | false => rw [(tok_oth rfl hn hb hd).2] at h; split at h <;> exact absurd h (by decide)
  have tk := tok_let rfl hn hl
  rw [tk.2] at h
  have h8 : sp bL B (n - tF B n p) (tF B n p) - tF B n p ≤ 8 := by
    split at h
    · exact absurd h (by decide)
    · omega
  have hle := sp_le bL B (n - tF B n p) (tF B n p)
  have hall : ∀ q, tF B n p ≤ q → q < tT B n p → 97 ≤ B q ∧ B q ≤ 122 := fun q h1 h2 => of_bL (sp_all bL B _ _ q h1 (by rw [tk.1] at h2; exact h2))
  have hk := wI_ok (B := B) (a := tF B n p) (k := tT B n p - tF B n p) (fun q h1 h2 => hall q h1 (by omega))
  have hu := okW_up (m := 8) (by rw [tk.1]; exact h8) hk.1
  refine ⟨hu.1, hu.2.trans hk.2, by rw [tk.1]; exact h8, hall⟩
theorem p32 : ∀ k, k < 8 → (32 : Int) ^ k ≤ 34359738368 := by decide +kernel
def ERR {α : Type} (g : GG) (y : Except ER α) (I : pI) : Prop := ∃ k pl : Nat, y = .error (k, pl) ∧ ERM g k pl I
theorem ERR_to {α β : Type} {g : GG} {y : Except ER α} {z : Except ER β} {I : pI} (h : ERR g y I) (e : ∀ er, y = .error er → z = .error er) : ERR g z I := by
  obtain ⟨k, pl, h1, h2⟩ := h
  exact ⟨k, pl, e _ h1, h2⟩
/-- the names that the reference has read -/
def NMS (g : GG) (S : TwS) (J : pJ) : Prop := NMM g 4 0 (S.1 0 1).toNat (S.1 14) J ∧ NMM g 5 4 (S.1 0 2).toNat (S.1 14) J
/-- the names of the town at hand -/
def NMT (g : GG) (S : TwS) (J : pJ) : Prop := NMM g 2 0 (S.1 0 1).toNat (S.1 14) J ∧ NMM g 3 4 (S.1 0 2).toNat (S.1 14) J

set_option maxHeartbeats 4000000 in
set_option maxRecDepth 100000 in
theorem em_bad {g : GG} {I : pI} {J : pJ} {R : pR} (hy : Ly g) (hr : Rf g R)  (k : Int32)  : SP g mX11_bad [.ref (ad g 0), .int k] I J R (fun r I' J' R' => R' = R ∧ FC g [0] I I' ∧ FC g [] J J' ∧ FQ g [8, 9] I I' ∧ ∃ v : Int32, r = some (.int v) ∧ (v.toInt = 0 ∧ I' (ad g 0) 8 = k ∧ I' (ad g 0) 9 = I (ad g 0) 3)) := by
  refine SP_of ⟨by decide, rfl⟩ (Nat.le_of_ble_eq_true rfl) ?_
  have fI0 : FC g [0] I I := FC_rf
  have fJ0 : FC g [] J J := FC_rf
  have fQ0 : FQ g [8, 9] I I := FQ_rf
  obtain ⟨w457, ew457⟩ : ∃ w : Int32, I (ad g 0) 3 = w := ⟨_, rfl⟩
  refine WP_aload_n dX11_bad_0 rfl ?_
  refine WP_iload_n dX11_bad_1 rfl ?_
  refine WQ_puti dX11_bad_2 fX11_3 rfl rfl (ly_is hy 0 11 rfl) (fun I458 eI458 => ?_)
  have e459 : I458 (ad g 0) 3 = w457 := by rw [eI458, pp_ne _ _ (Or.inr (by decide))]; exact ew457
  have e460 : I458 (ad g 0) 8 = k := by rw [eI458, pp_self]
  have fI461 : FC g [0] I I458 := by rw [eI458]; exact FC_pp fI0 (by decide)
  have fQ462 : FQ g [8, 9] I I458 := by rw [eI458]; exact FQ_pp0 fQ0 (by decide)
  refine WP_aload_n dX11_bad_5 rfl ?_
  refine WP_aload_n dX11_bad_6 rfl ?_
  refine WQ_getim dX11_bad_7 fX11_7 rfl (ly_is hy 0 11 rfl) e459 ?_
  refine WQ_puti dX11_bad_10 fX11_10 rfl rfl (ly_is hy 0 11 rfl) (fun I463 eI463 => ?_)
  have e464 : I463 (ad g 0) 3 = w457 := by rw [eI463, pp_ne _ _ (Or.inr (by decide))]; exact e459
  have e465 : I463 (ad g 0) 8 = k := by rw [eI463, pp_ne _ _ (Or.inr (by decide))]; exact e460
  have e466 : I463 (ad g 0) 9 = w457 := by rw [eI463, pp_self]
  have fI467 : FC g [0] I I463 := by rw [eI463]; exact FC_pp fI461 (by decide)
  have fQ468 : FQ g [8, 9] I I463 := by rw [eI463]; exact FQ_pp0 fQ462 (by decide)
  refine WQ_iconst (0) (0) dX11_bad_13 rfl rfl (fun v469 hv469 => ?_)
  exact WP_zret dX11_bad_14 rfl (nar_z (by omega)) ⟨rfl, fI467, fJ0, fQ468, v469, rfl, by
    try simp only [e464, e465, e466, ew457]
    exact ⟨by omega, by first | rfl | trivial, by first | rfl | trivial⟩⟩
set_option maxHeartbeats 4000000 in
set_option maxRecDepth 100000 in
theorem em_in {g : GG} {I : pI} {J : pJ} {R : pR} (hy : Ly g) (hr : Rf g R)  (a : Int64) (lo : Int64) (hi : Int64)  : SP g mX11_in [.long a, .long lo, .long hi] I J R (fun r I' J' R' => (I' = I ∧ J' = J ∧ R' = R) ∧ ∃ v : Int32, r = some (.int v) ∧ ((v.toInt = 1 ∧ lo.toInt ≤ a.toInt ∧ a.toInt ≤ hi.toInt) ∨ (v.toInt = 0 ∧ ¬ (lo.toInt ≤ a.toInt ∧ a.toInt ≤ hi.toInt)))) := by
  refine SP_of ⟨by decide, rfl⟩ (Nat.le_of_ble_eq_true rfl) ?_
  refine WP_lload_n dX11_in_0 rfl ?_
  refine WP_lload_n dX11_in_1 rfl ?_
  refine WP_lcmp dX11_in_2 ?_
  obtain ⟨v470, xv470⟩ : ∃ v : Int32, v = lg_cmp a lo := ⟨_, rfl⟩
  rw [← xv470]
  have hv470 := cmp_z a lo v470 xv470
  refine WQ_if_lt 17 dX11_in_3 rfl (fun c470 => ?_) (fun c470 => ?_)
  · refine WQ_iconst (0) (0) dX11_in_17 rfl rfl (fun v472 hv472 => ?_)
    exact WP_zret dX11_in_18 rfl (nar_z (by omega)) ⟨⟨rfl, rfl, rfl⟩, v472, rfl, by
      first
      | exact Or.inl ⟨by omega, by omega, by omega⟩
      | exact Or.inr ⟨by omega, by omega⟩⟩
  · refine WP_lload_n dX11_in_6 rfl ?_
    refine WP_lload dX11_in_7 rfl ?_
    refine WP_lcmp dX11_in_9 ?_
    obtain ⟨v473, xv473⟩ : ∃ v : Int32, v = lg_cmp a hi := ⟨_, rfl⟩
    rw [← xv473]
    have hv473 := cmp_z a hi v473 xv473
    refine WQ_if_gt 17 dX11_in_10 rfl (fun c473 => ?_) (fun c473 => ?_)
    · refine WQ_iconst (0) (0) dX11_in_17 rfl rfl (fun v475 hv475 => ?_)
      exact WP_zret dX11_in_18 rfl (nar_z (by omega)) ⟨⟨rfl, rfl, rfl⟩, v475, rfl, by
        first
        | exact Or.inl ⟨by omega, by omega, by omega⟩
        | exact Or.inr ⟨by omega, by omega⟩⟩
    · refine WQ_iconst (1) (1) dX11_in_13 rfl rfl (fun v476 hv476 => ?_)
      refine WP_goto 18 dX11_in_14 rfl ?_
      exact WP_zret dX11_in_18 rfl (nar_z (by omega)) ⟨⟨rfl, rfl, rfl⟩, v476, rfl, by
        first
        | exact Or.inl ⟨by omega, by omega, by omega⟩
        | exact Or.inr ⟨by omega, by omega⟩⟩
set_option maxHeartbeats 4000000 in
set_option maxRecDepth 100000 in
theorem em_peek {g : GG} {I : pI} {J : pJ} {R : pR} (hy : Ly g) (hr : Rf g R) {B : Nat → Int} {n p : Nat} (lo : Int32) (hi : Int32) (hT : TPM g B n I) (hC : CUM g B n p I) (hn : n ≤ 900) (hB : ∀ q, -128 ≤ B q ∧ B q ≤ 127) (hp : p ≤ n) : SP g mX11_peek [.ref (ad g 0), .int lo, .int hi] I J R (fun r I' J' R' => R' = R ∧ FC g [0] I I' ∧ FC g [] J J' ∧ FQ g [7, 8, 9] I I' ∧ ∃ v : Int32, r = some (.int v) ∧ ((v.toInt = 0 ∧ tK B n p ≠ 2 ∧ ERM g 1 (tF B n p) I') ∨ (v.toInt = 0 ∧ tK B n p = 2 ∧ (tV B n p < lo.toInt ∨ hi.toInt < tV B n p) ∧ ERM g 2 (tF B n p) I') ∨ (v.toInt = 1 ∧ tK B n p = 2 ∧ lo.toInt ≤ tV B n p ∧ tV B n p ≤ hi.toInt ∧ (I' (ad g 0) 7).toInt = tV B n p ∧ NOF g I I'))) := by
  refine SP_of ⟨by decide, rfl⟩ (Nat.le_of_ble_eq_true rfl) ?_
  have fI0 : FC g [0] I I := FC_rf
  have fJ0 : FC g [] J J := FC_rf
  have fQ0 : FQ g [7, 8, 9] I I := FQ_rf
  have hC2 := hC
  have hT1 := hT.1
  obtain ⟨c3, c4, c5, c6⟩ := hC2
  obtain ⟨w477, ew477⟩ : ∃ w : Int32, I (ad g 0) 2 = w := ⟨_, rfl⟩
  obtain ⟨w478, ew478⟩ : ∃ w : Int32, I (ad g 0) 3 = w := ⟨_, rfl⟩
  obtain ⟨w479, ew479⟩ : ∃ w : Int32, I (ad g 0) 4 = w := ⟨_, rfl⟩
  obtain ⟨w480, ew480⟩ : ∃ w : Int32, I (ad g 0) 5 = w := ⟨_, rfl⟩
  obtain ⟨w481, ew481⟩ : ∃ w : Int32, I (ad g 0) 6 = w := ⟨_, rfl⟩
  obtain ⟨w482, ew482⟩ : ∃ w : Int32, I (ad g 0) 8 = w := ⟨_, rfl⟩
  obtain ⟨w483, ew483⟩ : ∃ w : Int32, I (ad g 0) 9 = w := ⟨_, rfl⟩
  try simp only [ew477, ew478, ew479, ew480, ew481, ew482, ew483] at c3 c4 c5 c6 hT1
  refine WP_aload_n dX11_peek_0 rfl ?_
  refine WQ_getim dX11_peek_1 fX11_27 rfl (ly_is hy 0 11 rfl) ew480 ?_
  refine WQ_iconst (2) (2) dX11_peek_4 rfl rfl (fun v484 hv484 => ?_)
  refine WQ_icmp_eq 14 dX11_peek_5 rfl (fun c484 => ?_) (fun c484 => ?_)
  · have hk : tK B n p = 2 := by omega
    have hv := c6 hk
    refine WP_aload_n dX11_peek_14 rfl ?_
    refine WQ_getim dX11_peek_15 fX11_37 rfl (ly_is hy 0 11 rfl) ew481 ?_
    refine WP_i2l dX11_peek_18 ?_
    obtain ⟨l486, xl486⟩ : ∃ v : Int64, v = w481.toInt64 := ⟨_, rfl⟩
    rw [← xl486]
    have hl486 : l486.toInt = w481.toInt := by rw [xl486]; exact t64 _
    refine WP_iload_n dX11_peek_19 rfl ?_
    refine WP_i2l dX11_peek_20 ?_
    obtain ⟨l487, xl487⟩ : ∃ v : Int64, v = lo.toInt64 := ⟨_, rfl⟩
    rw [← xl487]
    have hl487 : l487.toInt = lo.toInt := by rw [xl487]; exact t64 _
    refine WP_iload_n dX11_peek_21 rfl ?_
    refine WP_i2l dX11_peek_22 ?_
    obtain ⟨l488, xl488⟩ : ∃ v : Int64, v = hi.toInt64 := ⟨_, rfl⟩
    rw [← xl488]
    have hl488 : l488.toInt = hi.toInt := by rw [xl488]; exact t64 _
    refine WP_callS3 dX11_peek_23 ⟨⟨⟨by decide, by decide⟩, zX11_in⟩, lX11_52, tX11_in⟩ (em_in hy hr _ _ _  ) (Nat.le_of_ble_eq_true rfl) ?_
    intro r Ia Ja Ra hq
    obtain ⟨⟨ea, eb, ec⟩, v490, er, p489⟩ := hq
    rw [ea, eb, ec, er]
    clear ea eb ec er Ia Ja Ra r
    refine WQ_if_ne 35 dX11_peek_26 rfl (fun c490 => ?_) (fun c490 => ?_)
    · refine WP_aload_n dX11_peek_35 rfl ?_
      refine WP_aload_n dX11_peek_36 rfl ?_
      refine WQ_getim dX11_peek_37 fX11_37 rfl (ly_is hy 0 11 rfl) ew481 ?_
      refine WQ_puti dX11_peek_40 fX11_56 rfl rfl (ly_is hy 0 11 rfl) (fun I492 eI492 => ?_)
      have e493 : I492 (ad g 0) 2 = w477 := by rw [eI492, pp_ne _ _ (Or.inr (by decide))]; exact ew477
      have e494 : I492 (ad g 0) 3 = w478 := by rw [eI492, pp_ne _ _ (Or.inr (by decide))]; exact ew478
      have e495 : I492 (ad g 0) 4 = w479 := by rw [eI492, pp_ne _ _ (Or.inr (by decide))]; exact ew479
      have e496 : I492 (ad g 0) 5 = w480 := by rw [eI492, pp_ne _ _ (Or.inr (by decide))]; exact ew480
      have e497 : I492 (ad g 0) 6 = w481 := by rw [eI492, pp_ne _ _ (Or.inr (by decide))]; exact ew481
      have e498 : I492 (ad g 0) 8 = w482 := by rw [eI492, pp_ne _ _ (Or.inr (by decide))]; exact ew482
      have e499 : I492 (ad g 0) 9 = w483 := by rw [eI492, pp_ne _ _ (Or.inr (by decide))]; exact ew483
      have e500 : I492 (ad g 0) 7 = w481 := by rw [eI492, pp_self]
      have fI501 : FC g [0] I I492 := by rw [eI492]; exact FC_pp fI0 (by decide)
      have fQ502 : FQ g [7, 8, 9] I I492 := by rw [eI492]; exact FQ_pp0 fQ0 (by decide)
      refine WQ_iconst (1) (1) dX11_peek_43 rfl rfl (fun v503 hv503 => ?_)
      exact WP_zret dX11_peek_44 rfl (nar_z (by omega)) ⟨rfl, fI501, fJ0, fQ502, v503, rfl, by
        try simp only [e493, e494, e495, e496, e497, e498, e499, e500, ew477, ew478, ew479, ew480, ew481, ew482, ew483]
        refine Or.inr (Or.inr ⟨by omega, hk, by omega, by omega, by omega, ?_⟩)
        unfold NOF
        try simp only [e498, e499]
        exact ⟨by first | rfl | trivial | assumption | (symm; assumption), by first | rfl | trivial | assumption | (symm; assumption)⟩⟩
    · refine WP_aload_n dX11_peek_29 rfl ?_
      refine WQ_iconst (2) (2) dX11_peek_30 rfl rfl (fun v504 hv504 => ?_)
      refine WP_callV1 (k := 11) dX11_peek_31 ⟨⟨⟨by decide, by decide⟩, zX11_bad⟩, lX11_49, by decide, rfl, vX11_bad.1, vX11_bad.2⟩ (ly_is hy 0 11 rfl) (em_bad hy hr _  ) (Nat.le_of_ble_eq_true rfl) ?_
      intro r I507 J508 Ra hq
      obtain ⟨ec, g509, g510, g511, v506, er, p505⟩ := hq
      rw [ec, er]
      clear ec er Ra r
      have e512 : I507 (ad g 0) 2 = w477 := by rw [g511 2 (by decide)]; exact ew477
      have e513 : I507 (ad g 0) 3 = w478 := by rw [g511 3 (by decide)]; exact ew478
      have e514 : I507 (ad g 0) 4 = w479 := by rw [g511 4 (by decide)]; exact ew479
      have e515 : I507 (ad g 0) 5 = w480 := by rw [g511 5 (by decide)]; exact ew480
      have e516 : I507 (ad g 0) 6 = w481 := by rw [g511 6 (by decide)]; exact ew481
      have fI517 : FC g [0] I I507 := FC_tr fI0 (FC_mono g509 (by decide))
      have fJ518 : FC g [] J J508 := FC_tr fJ0 (FC_mono g510 (by decide))
      have fQ519 : FQ g [7, 8, 9] I I507 := FQ_tr fQ0 (FQ_mono g511 (by decide))
      obtain ⟨w520, ew520⟩ : ∃ w : Int32, I507 (ad g 0) 8 = w := ⟨_, rfl⟩
      obtain ⟨w521, ew521⟩ : ∃ w : Int32, I507 (ad g 0) 9 = w := ⟨_, rfl⟩
      try simp only [e512, e513, e514, e515, e516, ew520, ew521, ew477, ew478, ew479, ew480, ew481, ew482, ew483] at p505
      obtain ⟨z0, z8, z9⟩ := p505
      exact WP_zret dX11_peek_34 rfl (nar_z (by omega)) ⟨rfl, fI517, fJ518, fQ519, v506, rfl, by
        try simp only [e512, e513, e514, e515, e516, ew520, ew521, ew477, ew478, ew479, ew480, ew481, ew482, ew483]
        refine Or.inr (Or.inl ⟨by omega, hk, by omega, ?_⟩)
        unfold ERM
        try simp only [ew520, ew521]
        exact ⟨by rw [z8]; omega, by rw [z9]; omega⟩⟩
  · refine WP_aload_n dX11_peek_8 rfl ?_
    refine WQ_iconst (1) (1) dX11_peek_9 rfl rfl (fun v522 hv522 => ?_)
    refine WP_callV1 (k := 11) dX11_peek_10 ⟨⟨⟨by decide, by decide⟩, zX11_bad⟩, lX11_49, by decide, rfl, vX11_bad.1, vX11_bad.2⟩ (ly_is hy 0 11 rfl) (em_bad hy hr _  ) (Nat.le_of_ble_eq_true rfl) ?_
    intro r I525 J526 Ra hq
    obtain ⟨ec, g527, g528, g529, v524, er, p523⟩ := hq
    rw [ec, er]
    clear ec er Ra r
    have e530 : I525 (ad g 0) 2 = w477 := by rw [g529 2 (by decide)]; exact ew477
    have e531 : I525 (ad g 0) 3 = w478 := by rw [g529 3 (by decide)]; exact ew478
    have e532 : I525 (ad g 0) 4 = w479 := by rw [g529 4 (by decide)]; exact ew479
    have e533 : I525 (ad g 0) 5 = w480 := by rw [g529 5 (by decide)]; exact ew480
    have e534 : I525 (ad g 0) 6 = w481 := by rw [g529 6 (by decide)]; exact ew481
    have fI535 : FC g [0] I I525 := FC_tr fI0 (FC_mono g527 (by decide))
    have fJ536 : FC g [] J J526 := FC_tr fJ0 (FC_mono g528 (by decide))
    have fQ537 : FQ g [7, 8, 9] I I525 := FQ_tr fQ0 (FQ_mono g529 (by decide))
    obtain ⟨w538, ew538⟩ : ∃ w : Int32, I525 (ad g 0) 8 = w := ⟨_, rfl⟩
    obtain ⟨w539, ew539⟩ : ∃ w : Int32, I525 (ad g 0) 9 = w := ⟨_, rfl⟩
    try simp only [e530, e531, e532, e533, e534, ew538, ew539, ew477, ew478, ew479, ew480, ew481, ew482, ew483] at p523
    obtain ⟨z0, z8, z9⟩ := p523
    exact WP_zret dX11_peek_13 rfl (nar_z (by omega)) ⟨rfl, fI535, fJ536, fQ537, v524, rfl, by
      try simp only [e530, e531, e532, e533, e534, ew538, ew539, ew477, ew478, ew479, ew480, ew481, ew482, ew483]
      refine Or.inl ⟨by omega, by omega, ?_⟩
      unfold ERM
      try simp only [ew538, ew539]
      exact ⟨by rw [z8]; omega, by rw [z9]; omega⟩⟩
set_option maxHeartbeats 4000000 in
set_option maxRecDepth 100000 in
theorem em_name {g : GG} {I : pI} {J : pJ} {R : pR} (hy : Ly g) (hr : Rf g R) {B : Nat → Int} {n p : Nat}  (hT : TPM g B n I) (hC : CUM g B n p I) (hn : n ≤ 900) (hB : ∀ q, -128 ≤ B q ∧ B q ≤ 127) (hp : p ≤ n) (hk : tK B n p = 1) : SP g mX11_name [.ref (ad g 0)] I J R (fun r I' J' R' => (I' = I ∧ J' = J ∧ R' = R) ∧ ∃ v : Int64, r = some (.long v) ∧ (v.toInt = tM B n p)) := by
  refine SP_of ⟨by decide, rfl⟩ (Nat.le_of_ble_eq_true rfl) ?_
  have hT1 := hT.1
  have c3 := hC.1
  have c4 := hC.2.1
  obtain ⟨w540, ew540⟩ : ∃ w : Int32, I (ad g 0) 2 = w := ⟨_, rfl⟩
  obtain ⟨w541, ew541⟩ : ∃ w : Int32, I (ad g 0) 3 = w := ⟨_, rfl⟩
  obtain ⟨w542, ew542⟩ : ∃ w : Int32, I (ad g 0) 4 = w := ⟨_, rfl⟩
  try simp only [ew540, ew541, ew542] at c3 c4 hT1
  obtain ⟨hw1, hw2, hw3, hw4⟩ := tok_w hp hk
  have tl := tT_le B hp
  refine WP_lconst (0) dX11_name_0 rfl ?_
  obtain ⟨l543, hl543, el543⟩ : ∃ v : Int64, v.toInt = 0 ∧ (0 : Int64) = v := ⟨_, rfl, rfl⟩
  rw [el543]
  refine WP_lstore_n (ls' := [(0, _), (1, _)]) dX11_name_1 (by decide) rfl ?_
  refine WP_aload_n dX11_name_2 rfl ?_
  refine WQ_getim dX11_name_3 fX11_7 rfl (ly_is hy 0 11 rfl) ew541 ?_
  refine WP_istore_n (ls' := [(0, _), (1, _), (3, _)]) dX11_name_6 (by decide) rfl ?_
  have lp546 : ∀ (mz : Nat) (l544 : Int64) (i545 : Int32), (∃ j : Nat, i545.toInt = (j : Int) ∧ tF B n p ≤ j ∧ j ≤ tT B n p ∧ l544.toInt = w5 B (tF B n p) (j - tF B n p)) → (tT B n p - i545.toInt.toNat) < mz → WP g mX11_name 7 [(0, .ref (ad g 0)), (1, .long l544), (3, .int i545)] [] I J R (fun r I' J' R' => (I' = I ∧ J' = J ∧ R' = R) ∧ ∃ v : Int64, r = some (.long v) ∧ (v.toInt = tM B n p)) := by
    intro mz
    induction mz with
    | zero =>
      intro l544 i545  hvlp546 hmlp546
      exact absurd hmlp546 (Nat.not_lt_zero _)
    | succ mz ihlp546 =>
      intro l544 i545  hvlp546 hmlp546
      try simp only [ew540, ew541, ew542] at hvlp546 hmlp546
      obtain ⟨j, ij, ij1, ij2, iw⟩ := hvlp546
      refine WP_iload_n dX11_name_7 rfl ?_
      refine WP_aload_n dX11_name_8 rfl ?_
      refine WQ_getim dX11_name_9 fX11_20 rfl (ly_is hy 0 11 rfl) ew542 ?_
      refine WQ_icmp_ge 35 dX11_name_12 rfl (fun c546 => ?_) (fun c546 => ?_)
      · refine WP_lload_n dX11_name_35 rfl ?_
        exact WP_lret dX11_name_36 rfl ⟨⟨rfl, rfl, rfl⟩, l544, rfl, by
          try simp only [ew540, ew541, ew542]
          rw [iw]
          unfold tM
          rw [show tT B n p = j by omega]⟩
      · have hj := hw4 j (by omega) (by omega)
        have hwb := w5_b (B := B) (a := tF B n p) (k := j - tF B n p) (fun q h1 h2 => hw4 q h1 (by omega))
        have hp32 := p32 (j - tF B n p) (by omega)
        refine WP_lload_n dX11_name_15 rfl ?_
        refine WQ_iconst (5) (5) dX11_name_16 rfl rfl (fun v548 hv548 => ?_)
        refine WP_lshl dX11_name_17 ?_
        obtain ⟨l549, xl549⟩ : ∃ v : Int64, v = l544 <<< (v548.toInt64 &&& 63) := ⟨_, rfl⟩
        rw [← xl549]
        refine WP_aload_n dX11_name_18 rfl ?_
        refine WP_iload_n dX11_name_19 rfl ?_
        refine WP_callV1 (k := 11) dX11_name_20 ⟨⟨⟨by decide, by decide⟩, zX11_byteAt⟩, lX11_23, by decide, rfl, vX11_byteAt.1, vX11_byteAt.2⟩ (ly_is hy 0 11 rfl) (em_byteAt hy hr _  (q := j) hT hn (by omega)) (Nat.le_of_ble_eq_true rfl) ?_
        intro r Ia Ja Ra hq
        obtain ⟨⟨ea, eb, ec⟩, v551, er, p550⟩ := hq
        rw [ea, eb, ec, er]
        clear ea eb ec er Ia Ja Ra r
        have hq20 : v551.toInt = B j := by rw [p550]; unfold bA; rw [if_pos (by omega)]; omega
        refine WQ_bipush (96) (96) dX11_name_23 rfl rfl (fun v552 hv552 => ?_)
        refine WQ_isub dX11_name_25 (by omega) (by omega) (fun v553 hv553 => ?_)
        have hbj : v553.toInt = B j - 96 := by omega
        refine WP_i2l dX11_name_26 ?_
        obtain ⟨l554, xl554⟩ : ∃ v : Int64, v = v553.toInt64 := ⟨_, rfl⟩
        rw [← xl554]
        have hl554 : l554.toInt = v553.toInt := by rw [xl554]; exact t64 _
        refine WP_lor dX11_name_27 ?_
        obtain ⟨l555, xl555⟩ : ∃ v : Int64, v = l549 ||| l554 := ⟨_, rfl⟩
        rw [← xl555]
        refine WP_lstore_n (ls' := [(0, _), (1, _), (3, _)]) dX11_name_28 (by decide) rfl ?_
        refine WP_iinc (ls' := [(0, _), (1, _), (3, _)]) dX11_name_29 rfl (by decide) rfl ?_
        have hv556 : (i545 + Int32.ofInt (1)).toInt = i545.toInt + (1) := ia_n rfl (by omega) (by omega)
        generalize i545 + Int32.ofInt (1) = v556 at hv556 ⊢
        refine WP_goto 7 dX11_name_32 rfl ?_
        refine WP_sub (fc rfl (fc rfl (fc rfl fn))) (ihlp546 l555 v556  ?_ ?_)
        · try simp only [ew540, ew541, ew542]
          refine ⟨j + 1, by omega, by omega, by omega, ?_⟩
          rw [show j + 1 - tF B n p = (j - tF B n p) + 1 by omega, w5, show tF B n p + (j - tF B n p) = j by omega, ← iw, ← hbj, ← hl554]
          exact lsor5 hv548 xl549 xl555 (by omega) (by omega) (by omega) (by omega)
        · try simp only [ew540, ew541, ew542]
          omega
  refine WP_sub (fc rfl (fc rfl (fc rfl fn))) (lp546 _ l543 w541  ?_ (Nat.lt_succ_self _))
  · try simp only [ew540, ew541, ew542]
    refine ⟨tF B n p, by omega, Nat.le_refl _, tl.1, ?_⟩
    rw [Nat.sub_self]; show _ = (0 : Int); omega
set_option maxHeartbeats 4000000 in
set_option maxRecDepth 100000 in
theorem em_findc {g : GG} {I : pI} {J : pJ} {R : pR} (hy : Ly g) (hr : Rf g R) {B : Nat → Int} {n p b k : Nat} {nm : Nat → Int} (mn : Int32) (hT : TPM g B n I) (hC : CUM g B n p I) (hn : n ≤ 900) (hB : ∀ q, -128 ≤ B q ∧ B q ≤ 127) (hp : p ≤ n) (hk : tK B n p = 1) (hm : mn.toInt = (k : Int)) (hk4 : k ≤ 4) (hN : NMM g 4 b k nm J) : SP g mX11_find [.ref (ad g 0), .ref (ad g 4), .int mn] I J R (fun r I' J' R' => (I' = I ∧ J' = J ∧ R' = R) ∧ ∃ v : Int32, r = some (.int v) ∧ (v.toInt = fnd nm b (tW B n p) k 0)) := by
  refine SP_of ⟨by decide, rfl⟩ (Nat.le_of_ble_eq_true rfl) ?_
  obtain ⟨hw1, hw2, hw3, hw4⟩ := tok_w hp hk
  refine WQ_iconst (0) (0) dX11_find_0 rfl rfl (fun v579 hv579 => ?_)
  refine WP_istore_n (ls' := [(0, _), (1, _), (2, _), (3, _)]) dX11_find_1 (by decide) rfl ?_
  have lp581 : ∀ (mz : Nat) (i580 : Int32), (∃ j : Nat, i580.toInt = (j : Int) ∧ j ≤ k ∧ fnd nm b (tW B n p) (k - j) j = fnd nm b (tW B n p) k 0) → (k - i580.toInt.toNat) < mz → WP g mX11_find 2 [(0, .ref (ad g 0)), (1, .ref (ad g 4)), (2, .int mn), (3, .int i580)] [] I J R (fun r I' J' R' => (I' = I ∧ J' = J ∧ R' = R) ∧ ∃ v : Int32, r = some (.int v) ∧ (v.toInt = fnd nm b (tW B n p) k 0)) := by
    intro mz
    induction mz with
    | zero =>
      intro i580  hvlp581 hmlp581
      exact absurd hmlp581 (Nat.not_lt_zero _)
    | succ mz ihlp581 =>
      intro i580  hvlp581 hmlp581
      obtain ⟨j, ij, ijk, ifn⟩ := hvlp581
      refine WP_iload_n dX11_find_2 rfl ?_
      refine WP_iload_n dX11_find_3 rfl ?_
      refine WQ_icmp_ge 26 dX11_find_4 rfl (fun c581 => ?_) (fun c581 => ?_)
      · refine WQ_iconst (-1) (-1) dX11_find_26 rfl rfl (fun v583 hv583 => ?_)
        exact WP_iret dX11_find_27 rfl ⟨⟨rfl, rfl, rfl⟩, v583, rfl, by
          rw [← ifn, fnd_end (by omega)]; omega⟩
      · refine WP_aload_n dX11_find_7 rfl ?_
        refine WP_iload_n dX11_find_8 rfl ?_
        refine WE_la dX11_find_9 (ly_is hy 4 14 rfl) (ly_n hy 4 4 rfl) (by omega) (by omega) (fun l584 el584 => ?_)
        have hnj := hN j (by omega)
        rw [show j = i580.toInt.toNat by omega] at hnj
        rw [el584, ← show j = i580.toInt.toNat by omega] at hnj
        refine WP_aload_n dX11_find_10 rfl ?_
        refine WP_callV0 (k := 11) dX11_find_11 ⟨⟨⟨by decide, by decide⟩, zX11_name⟩, lX11_67, by decide, rfl, vX11_name.1, vX11_name.2⟩ (ly_is hy 0 11 rfl) (em_name hy hr   hT hC hn hB hp hk) (Nat.le_of_ble_eq_true rfl) ?_
        intro r Ia Ja Ra hq
        obtain ⟨⟨ea, eb, ec⟩, l586, er, p585⟩ := hq
        rw [ea, eb, ec, er]
        clear ea eb ec er Ia Ja Ra r
        refine WP_lcmp dX11_find_14 ?_
        obtain ⟨v587, xv587⟩ : ∃ v : Int32, v = lg_cmp l584 l586 := ⟨_, rfl⟩
        rw [← xv587]
        have hv587 := cmp_z l584 l586 v587 xv587
        refine WQ_if_ne 20 dX11_find_15 rfl (fun c587 => ?_) (fun c587 => ?_)
        · have hne : nm (b + j) ≠ tW B n p := by
            intro e
            rw [e, hw2] at hnj
            omega
          refine WP_iinc (ls' := [(0, _), (1, _), (2, _), (3, _)]) dX11_find_20 rfl (by decide) rfl ?_
          have hv589 : (i580 + Int32.ofInt (1)).toInt = i580.toInt + (1) := ia_n rfl (by omega) (by omega)
          generalize i580 + Int32.ofInt (1) = v589 at hv589 ⊢
          refine WP_goto 2 dX11_find_23 rfl ?_
          refine WP_sub (fc rfl (fc rfl (fc rfl (fc rfl fn)))) (ihlp581 v589  ?_ ?_)
          · refine ⟨j + 1, by omega, by omega, ?_⟩
            rw [← fnd_go (by omega) hne]; exact ifn
          · omega
        · have hey : nm (b + j) = tW B n p := c5_inj 8 _ _ hnj.2 hw1 (by rw [hw2, ← hnj.1]; omega)
          refine WP_iload_n dX11_find_18 rfl ?_
          exact WP_iret dX11_find_19 rfl ⟨⟨rfl, rfl, rfl⟩, i580, rfl, by
            rw [← ifn, fnd_at (by omega) hey]; omega⟩
  refine WP_sub (fc rfl (fc rfl (fc rfl (fc rfl fn)))) (lp581 _ v579  ?_ (Nat.lt_succ_self _))
  · exact ⟨0, by omega, by omega, rfl⟩
set_option maxHeartbeats 4000000 in
set_option maxRecDepth 100000 in
theorem em_findd {g : GG} {I : pI} {J : pJ} {R : pR} (hy : Ly g) (hr : Rf g R) {B : Nat → Int} {n p b k : Nat} {nm : Nat → Int} (mn : Int32) (hT : TPM g B n I) (hC : CUM g B n p I) (hn : n ≤ 900) (hB : ∀ q, -128 ≤ B q ∧ B q ≤ 127) (hp : p ≤ n) (hk : tK B n p = 1) (hm : mn.toInt = (k : Int)) (hk4 : k ≤ 3) (hN : NMM g 5 b k nm J) : SP g mX11_find [.ref (ad g 0), .ref (ad g 5), .int mn] I J R (fun r I' J' R' => (I' = I ∧ J' = J ∧ R' = R) ∧ ∃ v : Int32, r = some (.int v) ∧ (v.toInt = fnd nm b (tW B n p) k 0)) := by
  refine SP_of ⟨by decide, rfl⟩ (Nat.le_of_ble_eq_true rfl) ?_
  obtain ⟨hw1, hw2, hw3, hw4⟩ := tok_w hp hk
  refine WQ_iconst (0) (0) dX11_find_0 rfl rfl (fun v590 hv590 => ?_)
  refine WP_istore_n (ls' := [(0, _), (1, _), (2, _), (3, _)]) dX11_find_1 (by decide) rfl ?_
  have lp592 : ∀ (mz : Nat) (i591 : Int32), (∃ j : Nat, i591.toInt = (j : Int) ∧ j ≤ k ∧ fnd nm b (tW B n p) (k - j) j = fnd nm b (tW B n p) k 0) → (k - i591.toInt.toNat) < mz → WP g mX11_find 2 [(0, .ref (ad g 0)), (1, .ref (ad g 5)), (2, .int mn), (3, .int i591)] [] I J R (fun r I' J' R' => (I' = I ∧ J' = J ∧ R' = R) ∧ ∃ v : Int32, r = some (.int v) ∧ (v.toInt = fnd nm b (tW B n p) k 0)) := by
    intro mz
    induction mz with
    | zero =>
      intro i591  hvlp592 hmlp592
      exact absurd hmlp592 (Nat.not_lt_zero _)
    | succ mz ihlp592 =>
      intro i591  hvlp592 hmlp592
      obtain ⟨j, ij, ijk, ifn⟩ := hvlp592
      refine WP_iload_n dX11_find_2 rfl ?_
      refine WP_iload_n dX11_find_3 rfl ?_
      refine WQ_icmp_ge 26 dX11_find_4 rfl (fun c592 => ?_) (fun c592 => ?_)
      · refine WQ_iconst (-1) (-1) dX11_find_26 rfl rfl (fun v594 hv594 => ?_)
        exact WP_iret dX11_find_27 rfl ⟨⟨rfl, rfl, rfl⟩, v594, rfl, by
          rw [← ifn, fnd_end (by omega)]; omega⟩
      · refine WP_aload_n dX11_find_7 rfl ?_
        refine WP_iload_n dX11_find_8 rfl ?_
        refine WE_la dX11_find_9 (ly_is hy 5 14 rfl) (ly_n hy 5 3 rfl) (by omega) (by omega) (fun l595 el595 => ?_)
        have hnj := hN j (by omega)
        rw [show j = i591.toInt.toNat by omega] at hnj
        rw [el595, ← show j = i591.toInt.toNat by omega] at hnj
        refine WP_aload_n dX11_find_10 rfl ?_
        refine WP_callV0 (k := 11) dX11_find_11 ⟨⟨⟨by decide, by decide⟩, zX11_name⟩, lX11_67, by decide, rfl, vX11_name.1, vX11_name.2⟩ (ly_is hy 0 11 rfl) (em_name hy hr   hT hC hn hB hp hk) (Nat.le_of_ble_eq_true rfl) ?_
        intro r Ia Ja Ra hq
        obtain ⟨⟨ea, eb, ec⟩, l597, er, p596⟩ := hq
        rw [ea, eb, ec, er]
        clear ea eb ec er Ia Ja Ra r
        refine WP_lcmp dX11_find_14 ?_
        obtain ⟨v598, xv598⟩ : ∃ v : Int32, v = lg_cmp l595 l597 := ⟨_, rfl⟩
        rw [← xv598]
        have hv598 := cmp_z l595 l597 v598 xv598
        refine WQ_if_ne 20 dX11_find_15 rfl (fun c598 => ?_) (fun c598 => ?_)
        · have hne : nm (b + j) ≠ tW B n p := by
            intro e
            rw [e, hw2] at hnj
            omega
          refine WP_iinc (ls' := [(0, _), (1, _), (2, _), (3, _)]) dX11_find_20 rfl (by decide) rfl ?_
          have hv600 : (i591 + Int32.ofInt (1)).toInt = i591.toInt + (1) := ia_n rfl (by omega) (by omega)
          generalize i591 + Int32.ofInt (1) = v600 at hv600 ⊢
          refine WP_goto 2 dX11_find_23 rfl ?_
          refine WP_sub (fc rfl (fc rfl (fc rfl (fc rfl fn)))) (ihlp592 v600  ?_ ?_)
          · refine ⟨j + 1, by omega, by omega, ?_⟩
            rw [← fnd_go (by omega) hne]; exact ifn
          · omega
        · have hey : nm (b + j) = tW B n p := c5_inj 8 _ _ hnj.2 hw1 (by rw [hw2, ← hnj.1]; omega)
          refine WP_iload_n dX11_find_18 rfl ?_
          exact WP_iret dX11_find_19 rfl ⟨⟨rfl, rfl, rfl⟩, i591, rfl, by
            rw [← ifn, fnd_at (by omega) hey]; omega⟩
  refine WP_sub (fc rfl (fc rfl (fc rfl (fc rfl fn)))) (lp592 _ v590  ?_ (Nat.lt_succ_self _))
  · exact ⟨0, by omega, by omega, rfl⟩
set_option maxHeartbeats 4000000 in
set_option maxRecDepth 100000 in
theorem em_peekD {g : GG} {I : pI} {J : pJ} {R : pR} (hy : Ly g) (hr : Rf g R) {B : Nat → Int} {n p c i : Nat} {S : TwS} {P : Nat → Int} (lo : Int32) (hi : Int32) (hT : TPM g B n I) (hC : CUM g B n p I) (hn : n ≤ 900) (hB : ∀ q, -128 ≤ B q ∧ B q ≤ 127) (hp : p ≤ n) (hlo : lo.toInt = 0) (hhi : hi.toInt = 6) : SP g mX11_peek [.ref (ad g 0), .int lo, .int hi] I J R (fun r I' J' R' => R' = R ∧ FC g [0] I I' ∧ FC g [] J J' ∧ FQ g [7, 8, 9] I I' ∧ ∃ v : Int32, r = some (.int v) ∧ ((v.toInt = 0 ∧ ERR g (prt B n c i 68 p S P) I') ∨ (v.toInt = 1 ∧ tK B n p = 2 ∧ 0 ≤ tV B n p ∧ tV B n p ≤ 6 ∧ (I' (ad g 0) 7).toInt = tV B n p ∧ NOF g I I'))) := by
  refine SP_of ⟨by decide, rfl⟩ (Nat.le_of_ble_eq_true rfl) ?_
  have fI0 : FC g [0] I I := FC_rf
  have fJ0 : FC g [] J J := FC_rf
  have fQ0 : FQ g [7, 8, 9] I I := FQ_rf
  have hC2 := hC
  have hT1 := hT.1
  obtain ⟨c3, c4, c5, c6⟩ := hC2
  obtain ⟨w601, ew601⟩ : ∃ w : Int32, I (ad g 0) 2 = w := ⟨_, rfl⟩
  obtain ⟨w602, ew602⟩ : ∃ w : Int32, I (ad g 0) 3 = w := ⟨_, rfl⟩
  obtain ⟨w603, ew603⟩ : ∃ w : Int32, I (ad g 0) 4 = w := ⟨_, rfl⟩
  obtain ⟨w604, ew604⟩ : ∃ w : Int32, I (ad g 0) 5 = w := ⟨_, rfl⟩
  obtain ⟨w605, ew605⟩ : ∃ w : Int32, I (ad g 0) 6 = w := ⟨_, rfl⟩
  obtain ⟨w606, ew606⟩ : ∃ w : Int32, I (ad g 0) 8 = w := ⟨_, rfl⟩
  obtain ⟨w607, ew607⟩ : ∃ w : Int32, I (ad g 0) 9 = w := ⟨_, rfl⟩
  try simp only [ew601, ew602, ew603, ew604, ew605, ew606, ew607] at c3 c4 c5 c6 hT1
  refine WP_aload_n dX11_peek_0 rfl ?_
  refine WQ_getim dX11_peek_1 fX11_27 rfl (ly_is hy 0 11 rfl) ew604 ?_
  refine WQ_iconst (2) (2) dX11_peek_4 rfl rfl (fun v608 hv608 => ?_)
  refine WQ_icmp_eq 14 dX11_peek_5 rfl (fun c608 => ?_) (fun c608 => ?_)
  · have hk : tK B n p = 2 := by omega
    have hv := c6 hk
    refine WP_aload_n dX11_peek_14 rfl ?_
    refine WQ_getim dX11_peek_15 fX11_37 rfl (ly_is hy 0 11 rfl) ew605 ?_
    refine WP_i2l dX11_peek_18 ?_
    obtain ⟨l610, xl610⟩ : ∃ v : Int64, v = w605.toInt64 := ⟨_, rfl⟩
    rw [← xl610]
    have hl610 : l610.toInt = w605.toInt := by rw [xl610]; exact t64 _
    refine WP_iload_n dX11_peek_19 rfl ?_
    refine WP_i2l dX11_peek_20 ?_
    obtain ⟨l611, xl611⟩ : ∃ v : Int64, v = lo.toInt64 := ⟨_, rfl⟩
    rw [← xl611]
    have hl611 : l611.toInt = lo.toInt := by rw [xl611]; exact t64 _
    refine WP_iload_n dX11_peek_21 rfl ?_
    refine WP_i2l dX11_peek_22 ?_
    obtain ⟨l612, xl612⟩ : ∃ v : Int64, v = hi.toInt64 := ⟨_, rfl⟩
    rw [← xl612]
    have hl612 : l612.toInt = hi.toInt := by rw [xl612]; exact t64 _
    refine WP_callS3 dX11_peek_23 ⟨⟨⟨by decide, by decide⟩, zX11_in⟩, lX11_52, tX11_in⟩ (em_in hy hr _ _ _  ) (Nat.le_of_ble_eq_true rfl) ?_
    intro r Ia Ja Ra hq
    obtain ⟨⟨ea, eb, ec⟩, v614, er, p613⟩ := hq
    rw [ea, eb, ec, er]
    clear ea eb ec er Ia Ja Ra r
    refine WQ_if_ne 35 dX11_peek_26 rfl (fun c614 => ?_) (fun c614 => ?_)
    · refine WP_aload_n dX11_peek_35 rfl ?_
      refine WP_aload_n dX11_peek_36 rfl ?_
      refine WQ_getim dX11_peek_37 fX11_37 rfl (ly_is hy 0 11 rfl) ew605 ?_
      refine WQ_puti dX11_peek_40 fX11_56 rfl rfl (ly_is hy 0 11 rfl) (fun I616 eI616 => ?_)
      have e617 : I616 (ad g 0) 2 = w601 := by rw [eI616, pp_ne _ _ (Or.inr (by decide))]; exact ew601
      have e618 : I616 (ad g 0) 3 = w602 := by rw [eI616, pp_ne _ _ (Or.inr (by decide))]; exact ew602
      have e619 : I616 (ad g 0) 4 = w603 := by rw [eI616, pp_ne _ _ (Or.inr (by decide))]; exact ew603
      have e620 : I616 (ad g 0) 5 = w604 := by rw [eI616, pp_ne _ _ (Or.inr (by decide))]; exact ew604
      have e621 : I616 (ad g 0) 6 = w605 := by rw [eI616, pp_ne _ _ (Or.inr (by decide))]; exact ew605
      have e622 : I616 (ad g 0) 8 = w606 := by rw [eI616, pp_ne _ _ (Or.inr (by decide))]; exact ew606
      have e623 : I616 (ad g 0) 9 = w607 := by rw [eI616, pp_ne _ _ (Or.inr (by decide))]; exact ew607
      have e624 : I616 (ad g 0) 7 = w605 := by rw [eI616, pp_self]
      have fI625 : FC g [0] I I616 := by rw [eI616]; exact FC_pp fI0 (by decide)
      have fQ626 : FQ g [7, 8, 9] I I616 := by rw [eI616]; exact FQ_pp0 fQ0 (by decide)
      refine WQ_iconst (1) (1) dX11_peek_43 rfl rfl (fun v627 hv627 => ?_)
      exact WP_zret dX11_peek_44 rfl (nar_z (by omega)) ⟨rfl, fI625, fJ0, fQ626, v627, rfl, by
        try simp only [e617, e618, e619, e620, e621, e622, e623, e624, ew601, ew602, ew603, ew604, ew605, ew606, ew607]
        refine Or.inr ⟨by omega, hk, by omega, by omega, by omega, ?_⟩
        unfold NOF
        try simp only [e622, e623]
        exact ⟨by first | rfl | trivial | assumption | (symm; assumption), by first | rfl | trivial | assumption | (symm; assumption)⟩⟩
    · refine WP_aload_n dX11_peek_29 rfl ?_
      refine WQ_iconst (2) (2) dX11_peek_30 rfl rfl (fun v628 hv628 => ?_)
      refine WP_callV1 (k := 11) dX11_peek_31 ⟨⟨⟨by decide, by decide⟩, zX11_bad⟩, lX11_49, by decide, rfl, vX11_bad.1, vX11_bad.2⟩ (ly_is hy 0 11 rfl) (em_bad hy hr _  ) (Nat.le_of_ble_eq_true rfl) ?_
      intro r I631 J632 Ra hq
      obtain ⟨ec, g633, g634, g635, v630, er, p629⟩ := hq
      rw [ec, er]
      clear ec er Ra r
      have e636 : I631 (ad g 0) 2 = w601 := by rw [g635 2 (by decide)]; exact ew601
      have e637 : I631 (ad g 0) 3 = w602 := by rw [g635 3 (by decide)]; exact ew602
      have e638 : I631 (ad g 0) 4 = w603 := by rw [g635 4 (by decide)]; exact ew603
      have e639 : I631 (ad g 0) 5 = w604 := by rw [g635 5 (by decide)]; exact ew604
      have e640 : I631 (ad g 0) 6 = w605 := by rw [g635 6 (by decide)]; exact ew605
      have fI641 : FC g [0] I I631 := FC_tr fI0 (FC_mono g633 (by decide))
      have fJ642 : FC g [] J J632 := FC_tr fJ0 (FC_mono g634 (by decide))
      have fQ643 : FQ g [7, 8, 9] I I631 := FQ_tr fQ0 (FQ_mono g635 (by decide))
      obtain ⟨w644, ew644⟩ : ∃ w : Int32, I631 (ad g 0) 8 = w := ⟨_, rfl⟩
      obtain ⟨w645, ew645⟩ : ∃ w : Int32, I631 (ad g 0) 9 = w := ⟨_, rfl⟩
      try simp only [e636, e637, e638, e639, e640, ew644, ew645, ew601, ew602, ew603, ew604, ew605, ew606, ew607] at p629
      obtain ⟨z0, z8, z9⟩ := p629
      try simp only [ew602] at z9
      exact WP_zret dX11_peek_34 rfl (nar_z (by omega)) ⟨rfl, fI641, fJ642, fQ643, v630, rfl, by
        try simp only [e636, e637, e638, e639, e640, ew644, ew645, ew601, ew602, ew603, ew604, ew605, ew606, ew607]
        refine Or.inl ⟨by omega, 2, tF B n p, ?_, ?_⟩
        · rw [prt_u (by decide) hk, if_pos (by show tV B n p < 0 ∨ 6 < tV B n p; omega)]
        · unfold ERM
          try simp only [ew644, ew645]
          exact ⟨by rw [z8]; omega, by rw [z9]; omega⟩⟩
  · refine WP_aload_n dX11_peek_8 rfl ?_
    refine WQ_iconst (1) (1) dX11_peek_9 rfl rfl (fun v646 hv646 => ?_)
    refine WP_callV1 (k := 11) dX11_peek_10 ⟨⟨⟨by decide, by decide⟩, zX11_bad⟩, lX11_49, by decide, rfl, vX11_bad.1, vX11_bad.2⟩ (ly_is hy 0 11 rfl) (em_bad hy hr _  ) (Nat.le_of_ble_eq_true rfl) ?_
    intro r I649 J650 Ra hq
    obtain ⟨ec, g651, g652, g653, v648, er, p647⟩ := hq
    rw [ec, er]
    clear ec er Ra r
    have e654 : I649 (ad g 0) 2 = w601 := by rw [g653 2 (by decide)]; exact ew601
    have e655 : I649 (ad g 0) 3 = w602 := by rw [g653 3 (by decide)]; exact ew602
    have e656 : I649 (ad g 0) 4 = w603 := by rw [g653 4 (by decide)]; exact ew603
    have e657 : I649 (ad g 0) 5 = w604 := by rw [g653 5 (by decide)]; exact ew604
    have e658 : I649 (ad g 0) 6 = w605 := by rw [g653 6 (by decide)]; exact ew605
    have fI659 : FC g [0] I I649 := FC_tr fI0 (FC_mono g651 (by decide))
    have fJ660 : FC g [] J J650 := FC_tr fJ0 (FC_mono g652 (by decide))
    have fQ661 : FQ g [7, 8, 9] I I649 := FQ_tr fQ0 (FQ_mono g653 (by decide))
    obtain ⟨w662, ew662⟩ : ∃ w : Int32, I649 (ad g 0) 8 = w := ⟨_, rfl⟩
    obtain ⟨w663, ew663⟩ : ∃ w : Int32, I649 (ad g 0) 9 = w := ⟨_, rfl⟩
    try simp only [e654, e655, e656, e657, e658, ew662, ew663, ew601, ew602, ew603, ew604, ew605, ew606, ew607] at p647
    obtain ⟨z0, z8, z9⟩ := p647
    try simp only [ew602] at z9
    exact WP_zret dX11_peek_13 rfl (nar_z (by omega)) ⟨rfl, fI659, fJ660, fQ661, v648, rfl, by
      try simp only [e654, e655, e656, e657, e658, ew662, ew663, ew601, ew602, ew603, ew604, ew605, ew606, ew607]
      refine Or.inl ⟨by omega, 1, tF B n p, ?_, ?_⟩
      · exact prt_x (by omega)
      · unfold ERM
        try simp only [ew662, ew663]
        exact ⟨by rw [z8]; omega, by rw [z9]; omega⟩⟩
set_option maxHeartbeats 4000000 in
set_option maxRecDepth 100000 in
theorem em_num {g : GG} {I : pI} {J : pJ} {R : pR} (hy : Ly g) (hr : Rf g R) {B : Nat → Int} {n p c i ch : Nat} {S : TwS} {P : Nat → Int} (lo : Int32) (hi : Int32) (hT : TPM g B n I) (hC : CUM g B n p I) (hn : n ≤ 900) (hB : ∀ q, -128 ≤ B q ∧ B q ≤ 127) (hp : p ≤ n) (h97 : ch < 97) (h68 : ch ≠ 68) (hlo : lo.toInt = loB ch) (hhi : hi.toInt = hiB ch) : SP g mX11_number [.ref (ad g 0), .int lo, .int hi] I J R (fun r I' J' R' => R' = R ∧ FC g [0] I I' ∧ FC g [] J J' ∧ FQ g [3, 4, 5, 6, 7, 8, 9] I I' ∧ ∃ v : Int32, r = some (.int v) ∧ ((v.toInt = 0 ∧ ERR g (prt B n c i ch p S P) I') ∨ (v.toInt = 1 ∧ prt B n c i ch p S P = .ok (S, fun j => if j = i then tV B n p else P j) ∧ loB ch ≤ tV B n p ∧ tV B n p ≤ hiB ch ∧ (I' (ad g 0) 7).toInt = tV B n p ∧ TPM g B n I' ∧ CUM g B n (tT B n p) I' ∧ NOF g I I'))) := by
  refine SP_of ⟨by decide, rfl⟩ (Nat.le_of_ble_eq_true rfl) ?_
  have fI0 : FC g [0] I I := FC_rf
  have fJ0 : FC g [] J J := FC_rf
  have fQ0 : FQ g [3, 4, 5, 6, 7, 8, 9] I I := FQ_rf
  refine WP_aload_n dX11_number_0 rfl ?_
  refine WP_iload_n dX11_number_1 rfl ?_
  refine WP_iload_n dX11_number_2 rfl ?_
  refine WP_callV2 (k := 11) dX11_number_3 ⟨⟨⟨by decide, by decide⟩, zX11_peek⟩, lX11_59, by decide, rfl, vX11_peek.1, vX11_peek.2⟩ (ly_is hy 0 11 rfl) (em_peek hy hr _ _  hT hC hn hB hp) (Nat.le_of_ble_eq_true rfl) ?_
  intro r I666 J667 Ra hq
  obtain ⟨ec, g668, g669, g670, v665, er, p664⟩ := hq
  rw [ec, er]
  clear ec er Ra r
  have fI671 : FC g [0] I I666 := FC_tr fI0 (FC_mono g668 (by decide))
  have fJ672 : FC g [] J J667 := FC_tr fJ0 (FC_mono g669 (by decide))
  have fQ673 : FQ g [3, 4, 5, 6, 7, 8, 9] I I666 := FQ_tr fQ0 (FQ_mono g670 (by decide))
  have hT2 := tpm_fq hy hT g668 (by decide) g670 (by decide)
  have hC2 := cum_fq hC g670 (by decide)
  refine WQ_if_ne 11 dX11_number_6 rfl (fun c673 => ?_) (fun c673 => ?_)
  · refine WP_aload_n dX11_number_11 rfl ?_
    refine WP_callV0 (k := 11) dX11_number_12 ⟨⟨⟨by decide, by decide⟩, zX11_scan⟩, lX11_63, by decide, rfl, vX11_scan.1, vX11_scan.2⟩ (ly_is hy 0 11 rfl) (em_scan hy hr   hT2 hn hB hC2.2.1 (tT_le B hp).2) (Nat.le_of_ble_eq_true rfl) ?_
    intro r I676 J677 Ra hq
    obtain ⟨ec, g678, g679, g680, er, p675⟩ := hq
    rw [ec, er]
    clear ec er Ra r
    have fI681 : FC g [0] I I676 := FC_tr fI671 (FC_mono g678 (by decide))
    have fJ682 : FC g [] J J677 := FC_tr fJ672 (FC_mono g679 (by decide))
    have fQ683 : FQ g [3, 4, 5, 6, 7, 8, 9] I I676 := FQ_tr fQ673 (FQ_mono g680 (by decide))
    obtain ⟨hT3, hC3⟩ := p675
    have g7 := g680 7 (by decide)
    refine WQ_iconst (1) (1) dX11_number_15 rfl rfl (fun v684 hv684 => ?_)
    exact WP_zret dX11_number_16 rfl (nar_z (by omega)) ⟨rfl, fI681, fJ682, fQ683, v684, rfl, by
      rcases p664 with h | h | h
      · exact absurd h.1 (by omega)
      · exact absurd h.1 (by omega)
      · obtain ⟨q1, q2, q3, q4, q5, q6⟩ := h
        have g8 := g680 8 (by decide)
        have g9 := g680 9 (by decide)
        exact Or.inr ⟨by omega, (by rw [prt_u h97 q2, if_neg (by omega), if_neg (by rintro ⟨z3, -⟩; exact h68 z3)]), by omega, by omega, by rw [g7]; exact q5, hT3, hC3, g8.trans q6.1, g9.trans q6.2⟩⟩
  · refine WQ_iconst (0) (0) dX11_number_9 rfl rfl (fun v685 hv685 => ?_)
    exact WP_zret dX11_number_10 rfl (nar_z (by omega)) ⟨rfl, fI671, fJ672, fQ673, v685, rfl, by
      rcases p664 with h | h | h
      · exact Or.inl ⟨by omega, 1, tF B n p, prt_x (by omega), h.2.2⟩
      · exact Or.inl ⟨by omega, 2, tF B n p, (by rw [prt_u h97 h.2.1, if_pos (by omega)]), h.2.2.2⟩
      · exact absurd h.1 (by omega)⟩
set_option maxHeartbeats 4000000 in
set_option maxRecDepth 100000 in
theorem em_close {g : GG} {I : pI} {J : pJ} {R : pR} (hy : Ly g) (hr : Rf g R) {B : Nat → Int} {n p : Nat}  (hT : TPM g B n I) (hC : CUM g B n p I) (hn : n ≤ 900) (hB : ∀ q, -128 ≤ B q ∧ B q ≤ 127) (hp : p ≤ n) : SP g mX11_close [.ref (ad g 0)] I J R (fun r I' J' R' => R' = R ∧ FC g [0] I I' ∧ FC g [] J J' ∧ FQ g [3, 4, 5, 6, 7, 8, 9] I I' ∧ ∃ v : Int32, r = some (.int v) ∧ ((v.toInt = 0 ∧ tK B n p ≠ 3 ∧ ERM g 1 (tF B n p) I') ∨ (v.toInt = 1 ∧ tK B n p = 3 ∧ TPM g B n I' ∧ CUM g B n (tT B n p) I' ∧ NOF g I I'))) := by
  refine SP_of ⟨by decide, rfl⟩ (Nat.le_of_ble_eq_true rfl) ?_
  have fI0 : FC g [0] I I := FC_rf
  have fJ0 : FC g [] J J := FC_rf
  have fQ0 : FQ g [3, 4, 5, 6, 7, 8, 9] I I := FQ_rf
  have hC2 := hC
  have hT1 := hT.1
  obtain ⟨c3, c4, c5, c6⟩ := hC2
  obtain ⟨w686, ew686⟩ : ∃ w : Int32, I (ad g 0) 2 = w := ⟨_, rfl⟩
  obtain ⟨w687, ew687⟩ : ∃ w : Int32, I (ad g 0) 3 = w := ⟨_, rfl⟩
  obtain ⟨w688, ew688⟩ : ∃ w : Int32, I (ad g 0) 4 = w := ⟨_, rfl⟩
  obtain ⟨w689, ew689⟩ : ∃ w : Int32, I (ad g 0) 5 = w := ⟨_, rfl⟩
  obtain ⟨w690, ew690⟩ : ∃ w : Int32, I (ad g 0) 6 = w := ⟨_, rfl⟩
  obtain ⟨w691, ew691⟩ : ∃ w : Int32, I (ad g 0) 8 = w := ⟨_, rfl⟩
  obtain ⟨w692, ew692⟩ : ∃ w : Int32, I (ad g 0) 9 = w := ⟨_, rfl⟩
  try simp only [ew686, ew687, ew688, ew689, ew690, ew691, ew692] at c3 c4 c5 c6 hT1
  refine WP_aload_n dX11_close_0 rfl ?_
  refine WQ_getim dX11_close_1 fX11_27 rfl (ly_is hy 0 11 rfl) ew689 ?_
  refine WQ_iconst (3) (3) dX11_close_4 rfl rfl (fun v693 hv693 => ?_)
  refine WQ_icmp_eq 14 dX11_close_5 rfl (fun c693 => ?_) (fun c693 => ?_)
  · refine WP_aload_n dX11_close_14 rfl ?_
    refine WP_callV0 (k := 11) dX11_close_15 ⟨⟨⟨by decide, by decide⟩, zX11_scan⟩, lX11_63, by decide, rfl, vX11_scan.1, vX11_scan.2⟩ (ly_is hy 0 11 rfl) (em_scan hy hr   hT hn hB (by rw [ew688]; exact c4) (tT_le B hp).2) (Nat.le_of_ble_eq_true rfl) ?_
    intro r I696 J697 Ra hq
    obtain ⟨ec, g698, g699, g700, er, p695⟩ := hq
    rw [ec, er]
    clear ec er Ra r
    have e701 : I696 (ad g 0) 2 = w686 := by rw [g700 2 (by decide)]; exact ew686
    have e702 : I696 (ad g 0) 8 = w691 := by rw [g700 8 (by decide)]; exact ew691
    have e703 : I696 (ad g 0) 9 = w692 := by rw [g700 9 (by decide)]; exact ew692
    have fI704 : FC g [0] I I696 := FC_tr fI0 (FC_mono g698 (by decide))
    have fJ705 : FC g [] J J697 := FC_tr fJ0 (FC_mono g699 (by decide))
    have fQ706 : FQ g [3, 4, 5, 6, 7, 8, 9] I I696 := FQ_tr fQ0 (FQ_mono g700 (by decide))
    obtain ⟨w707, ew707⟩ : ∃ w : Int32, I696 (ad g 0) 3 = w := ⟨_, rfl⟩
    obtain ⟨w708, ew708⟩ : ∃ w : Int32, I696 (ad g 0) 4 = w := ⟨_, rfl⟩
    obtain ⟨w709, ew709⟩ : ∃ w : Int32, I696 (ad g 0) 5 = w := ⟨_, rfl⟩
    obtain ⟨w710, ew710⟩ : ∃ w : Int32, I696 (ad g 0) 6 = w := ⟨_, rfl⟩
    try simp only [e701, ew707, ew708, ew709, ew710, e702, e703, ew686, ew687, ew688, ew689, ew690, ew691, ew692] at p695
    obtain ⟨hT3, hC3⟩ := p695
    refine WQ_iconst (1) (1) dX11_close_18 rfl rfl (fun v711 hv711 => ?_)
    exact WP_zret dX11_close_19 rfl (nar_z (by omega)) ⟨rfl, fI704, fJ705, fQ706, v711, rfl, by
      try simp only [e701, e702, e703, ew707, ew708, ew709, ew710, ew686, ew687, ew688, ew689, ew690, ew691, ew692]
      exact Or.inr ⟨by omega, by omega, hT3, hC3, g700 8 (by decide), g700 9 (by decide)⟩⟩
  · refine WP_aload_n dX11_close_8 rfl ?_
    refine WQ_iconst (1) (1) dX11_close_9 rfl rfl (fun v712 hv712 => ?_)
    refine WP_callV1 (k := 11) dX11_close_10 ⟨⟨⟨by decide, by decide⟩, zX11_bad⟩, lX11_49, by decide, rfl, vX11_bad.1, vX11_bad.2⟩ (ly_is hy 0 11 rfl) (em_bad hy hr _  ) (Nat.le_of_ble_eq_true rfl) ?_
    intro r I715 J716 Ra hq
    obtain ⟨ec, g717, g718, g719, v714, er, p713⟩ := hq
    rw [ec, er]
    clear ec er Ra r
    have e720 : I715 (ad g 0) 2 = w686 := by rw [g719 2 (by decide)]; exact ew686
    have e721 : I715 (ad g 0) 3 = w687 := by rw [g719 3 (by decide)]; exact ew687
    have e722 : I715 (ad g 0) 4 = w688 := by rw [g719 4 (by decide)]; exact ew688
    have e723 : I715 (ad g 0) 5 = w689 := by rw [g719 5 (by decide)]; exact ew689
    have e724 : I715 (ad g 0) 6 = w690 := by rw [g719 6 (by decide)]; exact ew690
    have fI725 : FC g [0] I I715 := FC_tr fI0 (FC_mono g717 (by decide))
    have fJ726 : FC g [] J J716 := FC_tr fJ0 (FC_mono g718 (by decide))
    have fQ727 : FQ g [3, 4, 5, 6, 7, 8, 9] I I715 := FQ_tr fQ0 (FQ_mono g719 (by decide))
    obtain ⟨w728, ew728⟩ : ∃ w : Int32, I715 (ad g 0) 8 = w := ⟨_, rfl⟩
    obtain ⟨w729, ew729⟩ : ∃ w : Int32, I715 (ad g 0) 9 = w := ⟨_, rfl⟩
    try simp only [e720, e721, e722, e723, e724, ew728, ew729, ew686, ew687, ew688, ew689, ew690, ew691, ew692] at p713
    obtain ⟨z0, z8, z9⟩ := p713
    try simp only [ew687] at z9
    exact WP_zret dX11_close_13 rfl (nar_z (by omega)) ⟨rfl, fI725, fJ726, fQ727, v714, rfl, by
      try simp only [e720, e721, e722, e723, e724, ew728, ew729, ew686, ew687, ew688, ew689, ew690, ew691, ew692]
      refine Or.inl ⟨by omega, by omega, ?_⟩
      unfold ERM
      try simp only [ew728, ew729]
      exact ⟨by rw [z8]; omega, by rw [z9]; omega⟩⟩
set_option maxHeartbeats 4000000 in
set_option maxRecDepth 100000 in
theorem em_knowna {g : GG} {I : pI} {J : pJ} {R : pR} (hy : Ly g) (hr : Rf g R) {B : Nat → Int} {n p c i : Nat} {S : TwS} {P : Nat → Int} (mn : Int32) (hT : TPM g B n I) (hC : CUM g B n p I) (hn : n ≤ 900) (hB : ∀ q, -128 ≤ B q ∧ B q ≤ 127) (hp : p ≤ n) (hN : NMS g S J) (hSB : SBn S) (hm : mn.toInt = S.1 0 1) (h7 : c ≠ 7) : SP g mX11_known [.ref (ad g 0), .ref (ad g 4), .int mn] I J R (fun r I' J' R' => R' = R ∧ FC g [0] I I' ∧ FC g [] J J' ∧ FQ g [3, 4, 5, 6, 7, 8, 9] I I' ∧ ∃ v : Int32, r = some (.int v) ∧ ((v.toInt = 0 ∧ ERR g (prt B n c i 115 p S P) I') ∨ (v.toInt = 1 ∧ prt B n c i 115 p S P = .ok (S, fun j => if j = i then fnS S (tW B n p) else P j) ∧ 0 ≤ fnS S (tW B n p) ∧ fnS S (tW B n p) < S.1 0 1 ∧ (I' (ad g 0) 7).toInt = fnS S (tW B n p) ∧ TPM g B n I' ∧ CUM g B n (tT B n p) I' ∧ NOF g I I'))) := by
  refine SP_of ⟨by decide, rfl⟩ (Nat.le_of_ble_eq_true rfl) ?_
  have fI0 : FC g [0] I I := FC_rf
  have fJ0 : FC g [] J J := FC_rf
  have fQ0 : FQ g [3, 4, 5, 6, 7, 8, 9] I I := FQ_rf
  have hC2 := hC
  have hT1 := hT.1
  obtain ⟨c3, c4, c5, c6⟩ := hC2
  have hbb := hSB
  unfold SBn at hbb
  obtain ⟨w730, ew730⟩ : ∃ w : Int32, I (ad g 0) 2 = w := ⟨_, rfl⟩
  obtain ⟨w731, ew731⟩ : ∃ w : Int32, I (ad g 0) 3 = w := ⟨_, rfl⟩
  obtain ⟨w732, ew732⟩ : ∃ w : Int32, I (ad g 0) 4 = w := ⟨_, rfl⟩
  obtain ⟨w733, ew733⟩ : ∃ w : Int32, I (ad g 0) 5 = w := ⟨_, rfl⟩
  obtain ⟨w734, ew734⟩ : ∃ w : Int32, I (ad g 0) 6 = w := ⟨_, rfl⟩
  obtain ⟨w735, ew735⟩ : ∃ w : Int32, I (ad g 0) 8 = w := ⟨_, rfl⟩
  obtain ⟨w736, ew736⟩ : ∃ w : Int32, I (ad g 0) 9 = w := ⟨_, rfl⟩
  try simp only [ew730, ew731, ew732, ew733, ew734, ew735, ew736] at c3 c4 c5 c6 hT1
  refine WP_aload_n dX11_known_0 rfl ?_
  refine WQ_getim dX11_known_1 fX11_27 rfl (ly_is hy 0 11 rfl) ew733 ?_
  refine WQ_iconst (1) (1) dX11_known_4 rfl rfl (fun v737 hv737 => ?_)
  refine WQ_icmp_eq 14 dX11_known_5 rfl (fun c737 => ?_) (fun c737 => ?_)
  · have hk : tK B n p = 1 := by omega
    refine WP_aload_n dX11_known_14 rfl ?_
    refine WP_aload_n dX11_known_15 rfl ?_
    refine WP_aload_n dX11_known_16 rfl ?_
    refine WP_iload_n dX11_known_17 rfl ?_
    refine WP_callV2 (k := 11) dX11_known_18 ⟨⟨⟨by decide, by decide⟩, zX11_find⟩, lX11_71, by decide, rfl, vX11_find.1, vX11_find.2⟩ (ly_is hy 0 11 rfl) (em_findc hy hr _  (b := 0) (k := (S.1 0 1).toNat) (nm := S.1 14) hT hC hn hB hp hk (by omega) (by omega) hN.1) (Nat.le_of_ble_eq_true rfl) ?_
    intro r Ia Ja Ra hq
    obtain ⟨⟨ea, eb, ec⟩, v740, er, p739⟩ := hq
    rw [ea, eb, ec, er]
    clear ea eb ec er Ia Ja Ra r
    have hfd : v740.toInt = fnS S (tW B n p) := p739
    refine WQ_puti dX11_known_21 fX11_56 rfl rfl (ly_is hy 0 11 rfl) (fun I741 eI741 => ?_)
    have e742 : I741 (ad g 0) 2 = w730 := by rw [eI741, pp_ne _ _ (Or.inr (by decide))]; exact ew730
    have e743 : I741 (ad g 0) 3 = w731 := by rw [eI741, pp_ne _ _ (Or.inr (by decide))]; exact ew731
    have e744 : I741 (ad g 0) 4 = w732 := by rw [eI741, pp_ne _ _ (Or.inr (by decide))]; exact ew732
    have e745 : I741 (ad g 0) 5 = w733 := by rw [eI741, pp_ne _ _ (Or.inr (by decide))]; exact ew733
    have e746 : I741 (ad g 0) 6 = w734 := by rw [eI741, pp_ne _ _ (Or.inr (by decide))]; exact ew734
    have e747 : I741 (ad g 0) 8 = w735 := by rw [eI741, pp_ne _ _ (Or.inr (by decide))]; exact ew735
    have e748 : I741 (ad g 0) 9 = w736 := by rw [eI741, pp_ne _ _ (Or.inr (by decide))]; exact ew736
    have e749 : I741 (ad g 0) 7 = v740 := by rw [eI741, pp_self]
    have fI750 : FC g [0] I I741 := by rw [eI741]; exact FC_pp fI0 (by decide)
    have fQ751 : FQ g [3, 4, 5, 6, 7, 8, 9] I I741 := by rw [eI741]; exact FQ_pp0 fQ0 (by decide)
    refine WP_aload_n dX11_known_24 rfl ?_
    refine WQ_getim dX11_known_25 fX11_56 rfl (ly_is hy 0 11 rfl) e749 ?_
    refine WQ_iconst (-1) (-1) dX11_known_28 rfl rfl (fun v752 hv752 => ?_)
    refine WQ_icmp_ne 38 dX11_known_29 rfl (fun c752 => ?_) (fun c752 => ?_)
    · have hfb := fnS_b (S := S) (w := tW B n p) (by omega) (by omega)
      refine WP_aload_n dX11_known_38 rfl ?_
      refine WP_callV0 (k := 11) dX11_known_39 ⟨⟨⟨by decide, by decide⟩, zX11_scan⟩, lX11_63, by decide, rfl, vX11_scan.1, vX11_scan.2⟩ (ly_is hy 0 11 rfl) (em_scan hy hr   (tpm_fq hy hT fI750 (by decide) fQ751 (by decide)) hn hB (by rw [e744]; exact c4) (tT_le B hp).2) (Nat.le_of_ble_eq_true rfl) ?_
      intro r I755 J756 Ra hq
      obtain ⟨ec, g757, g758, g759, er, p754⟩ := hq
      rw [ec, er]
      clear ec er Ra r
      have e760 : I755 (ad g 0) 2 = w730 := by rw [g759 2 (by decide)]; exact e742
      have e761 : I755 (ad g 0) 8 = w735 := by rw [g759 8 (by decide)]; exact e747
      have e762 : I755 (ad g 0) 9 = w736 := by rw [g759 9 (by decide)]; exact e748
      have e763 : I755 (ad g 0) 7 = v740 := by rw [g759 7 (by decide)]; exact e749
      have fI764 : FC g [0] I I755 := FC_tr fI750 (FC_mono g757 (by decide))
      have fJ765 : FC g [] J J756 := FC_tr fJ0 (FC_mono g758 (by decide))
      have fQ766 : FQ g [3, 4, 5, 6, 7, 8, 9] I I755 := FQ_tr fQ751 (FQ_mono g759 (by decide))
      obtain ⟨w767, ew767⟩ : ∃ w : Int32, I755 (ad g 0) 3 = w := ⟨_, rfl⟩
      obtain ⟨w768, ew768⟩ : ∃ w : Int32, I755 (ad g 0) 4 = w := ⟨_, rfl⟩
      obtain ⟨w769, ew769⟩ : ∃ w : Int32, I755 (ad g 0) 5 = w := ⟨_, rfl⟩
      obtain ⟨w770, ew770⟩ : ∃ w : Int32, I755 (ad g 0) 6 = w := ⟨_, rfl⟩
      try simp only [e760, ew767, ew768, ew769, ew770, e761, e762, ew730, ew731, ew732, ew733, ew734, ew735, ew736] at p754
      obtain ⟨hT3, hC3⟩ := p754
      refine WQ_iconst (1) (1) dX11_known_42 rfl rfl (fun v771 hv771 => ?_)
      exact WP_zret dX11_known_43 rfl (nar_z (by omega)) ⟨rfl, fI764, fJ765, fQ766, v771, rfl, by
        try simp only [e760, e761, e762, e763, ew767, ew768, ew769, ew770, ew730, ew731, ew732, ew733, ew734, ew735, ew736]
        have g7 := g759 7 (by decide)
        refine Or.inr ⟨by omega, (by rw [prt_s hk, if_neg (by omega), if_neg (by rintro ⟨z3, -⟩; exact h7 z3)]), hfb.1, hfb.2, ?_, hT3, hC3, ?_⟩
        · first | exact hfd | (rw [g7]; exact hfd) | omega
        · unfold NOF
          try simp only [e761, e762]
          exact ⟨by first | rfl | trivial | assumption | (symm; assumption), by first | rfl | trivial | assumption | (symm; assumption)⟩⟩
    · refine WP_aload_n dX11_known_32 rfl ?_
      refine WQ_iconst (5) (5) dX11_known_33 rfl rfl (fun v772 hv772 => ?_)
      refine WP_callV1 (k := 11) dX11_known_34 ⟨⟨⟨by decide, by decide⟩, zX11_bad⟩, lX11_49, by decide, rfl, vX11_bad.1, vX11_bad.2⟩ (ly_is hy 0 11 rfl) (em_bad hy hr _  ) (Nat.le_of_ble_eq_true rfl) ?_
      intro r I775 J776 Ra hq
      obtain ⟨ec, g777, g778, g779, v774, er, p773⟩ := hq
      rw [ec, er]
      clear ec er Ra r
      have e780 : I775 (ad g 0) 2 = w730 := by rw [g779 2 (by decide)]; exact e742
      have e781 : I775 (ad g 0) 3 = w731 := by rw [g779 3 (by decide)]; exact e743
      have e782 : I775 (ad g 0) 4 = w732 := by rw [g779 4 (by decide)]; exact e744
      have e783 : I775 (ad g 0) 5 = w733 := by rw [g779 5 (by decide)]; exact e745
      have e784 : I775 (ad g 0) 6 = w734 := by rw [g779 6 (by decide)]; exact e746
      have e785 : I775 (ad g 0) 7 = v740 := by rw [g779 7 (by decide)]; exact e749
      have fI786 : FC g [0] I I775 := FC_tr fI750 (FC_mono g777 (by decide))
      have fJ787 : FC g [] J J776 := FC_tr fJ0 (FC_mono g778 (by decide))
      have fQ788 : FQ g [3, 4, 5, 6, 7, 8, 9] I I775 := FQ_tr fQ751 (FQ_mono g779 (by decide))
      obtain ⟨w789, ew789⟩ : ∃ w : Int32, I775 (ad g 0) 8 = w := ⟨_, rfl⟩
      obtain ⟨w790, ew790⟩ : ∃ w : Int32, I775 (ad g 0) 9 = w := ⟨_, rfl⟩
      try simp only [e780, e781, e782, e783, e784, ew789, ew790, ew730, ew731, ew732, ew733, ew734, ew735, ew736] at p773
      obtain ⟨z0, z8, z9⟩ := p773
      try simp only [e743] at z9
      exact WP_zret dX11_known_37 rfl (nar_z (by omega)) ⟨rfl, fI786, fJ787, fQ788, v774, rfl, by
        try simp only [e780, e781, e782, e783, e784, e785, ew789, ew790, ew730, ew731, ew732, ew733, ew734, ew735, ew736]
        refine Or.inl ⟨by omega, 5, tF B n p, ?_, ?_⟩
        · rw [prt_s hk, if_pos (by omega)]
        · unfold ERM
          try simp only [ew789, ew790]
          exact ⟨by rw [z8]; omega, by rw [z9]; omega⟩⟩
  · refine WP_aload_n dX11_known_8 rfl ?_
    refine WQ_iconst (1) (1) dX11_known_9 rfl rfl (fun v791 hv791 => ?_)
    refine WP_callV1 (k := 11) dX11_known_10 ⟨⟨⟨by decide, by decide⟩, zX11_bad⟩, lX11_49, by decide, rfl, vX11_bad.1, vX11_bad.2⟩ (ly_is hy 0 11 rfl) (em_bad hy hr _  ) (Nat.le_of_ble_eq_true rfl) ?_
    intro r I794 J795 Ra hq
    obtain ⟨ec, g796, g797, g798, v793, er, p792⟩ := hq
    rw [ec, er]
    clear ec er Ra r
    have e799 : I794 (ad g 0) 2 = w730 := by rw [g798 2 (by decide)]; exact ew730
    have e800 : I794 (ad g 0) 3 = w731 := by rw [g798 3 (by decide)]; exact ew731
    have e801 : I794 (ad g 0) 4 = w732 := by rw [g798 4 (by decide)]; exact ew732
    have e802 : I794 (ad g 0) 5 = w733 := by rw [g798 5 (by decide)]; exact ew733
    have e803 : I794 (ad g 0) 6 = w734 := by rw [g798 6 (by decide)]; exact ew734
    have fI804 : FC g [0] I I794 := FC_tr fI0 (FC_mono g796 (by decide))
    have fJ805 : FC g [] J J795 := FC_tr fJ0 (FC_mono g797 (by decide))
    have fQ806 : FQ g [3, 4, 5, 6, 7, 8, 9] I I794 := FQ_tr fQ0 (FQ_mono g798 (by decide))
    obtain ⟨w807, ew807⟩ : ∃ w : Int32, I794 (ad g 0) 8 = w := ⟨_, rfl⟩
    obtain ⟨w808, ew808⟩ : ∃ w : Int32, I794 (ad g 0) 9 = w := ⟨_, rfl⟩
    try simp only [e799, e800, e801, e802, e803, ew807, ew808, ew730, ew731, ew732, ew733, ew734, ew735, ew736] at p792
    obtain ⟨z0, z8, z9⟩ := p792
    try simp only [ew731] at z9
    exact WP_zret dX11_known_13 rfl (nar_z (by omega)) ⟨rfl, fI804, fJ805, fQ806, v793, rfl, by
      try simp only [e799, e800, e801, e802, e803, ew807, ew808, ew730, ew731, ew732, ew733, ew734, ew735, ew736]
      refine Or.inl ⟨by omega, 1, tF B n p, ?_, ?_⟩
      · exact prt_x (by omega)
      · unfold ERM
        try simp only [ew807, ew808]
        exact ⟨by rw [z8]; omega, by rw [z9]; omega⟩⟩
set_option maxHeartbeats 4000000 in
set_option maxRecDepth 100000 in
theorem em_knownb {g : GG} {I : pI} {J : pJ} {R : pR} (hy : Ly g) (hr : Rf g R) {B : Nat → Int} {n p c i : Nat} {S : TwS} {P : Nat → Int} (mn : Int32) (hT : TPM g B n I) (hC : CUM g B n p I) (hn : n ≤ 900) (hB : ∀ q, -128 ≤ B q ∧ B q ≤ 127) (hp : p ≤ n) (hN : NMS g S J) (hSB : SBn S) (hm : mn.toInt = S.1 0 2) : SP g mX11_known [.ref (ad g 0), .ref (ad g 5), .int mn] I J R (fun r I' J' R' => R' = R ∧ FC g [0] I I' ∧ FC g [] J J' ∧ FQ g [3, 4, 5, 6, 7, 8, 9] I I' ∧ ∃ v : Int32, r = some (.int v) ∧ ((v.toInt = 0 ∧ ERR g (prt B n c i 116 p S P) I') ∨ (v.toInt = 1 ∧ prt B n c i 116 p S P = .ok (S, fun j => if j = i then fnT S (tW B n p) else P j) ∧ 0 ≤ fnT S (tW B n p) ∧ fnT S (tW B n p) < S.1 0 2 ∧ (I' (ad g 0) 7).toInt = fnT S (tW B n p) ∧ TPM g B n I' ∧ CUM g B n (tT B n p) I' ∧ NOF g I I'))) := by
  refine SP_of ⟨by decide, rfl⟩ (Nat.le_of_ble_eq_true rfl) ?_
  have fI0 : FC g [0] I I := FC_rf
  have fJ0 : FC g [] J J := FC_rf
  have fQ0 : FQ g [3, 4, 5, 6, 7, 8, 9] I I := FQ_rf
  have hC2 := hC
  have hT1 := hT.1
  obtain ⟨c3, c4, c5, c6⟩ := hC2
  have hbb := hSB
  unfold SBn at hbb
  obtain ⟨w809, ew809⟩ : ∃ w : Int32, I (ad g 0) 2 = w := ⟨_, rfl⟩
  obtain ⟨w810, ew810⟩ : ∃ w : Int32, I (ad g 0) 3 = w := ⟨_, rfl⟩
  obtain ⟨w811, ew811⟩ : ∃ w : Int32, I (ad g 0) 4 = w := ⟨_, rfl⟩
  obtain ⟨w812, ew812⟩ : ∃ w : Int32, I (ad g 0) 5 = w := ⟨_, rfl⟩
  obtain ⟨w813, ew813⟩ : ∃ w : Int32, I (ad g 0) 6 = w := ⟨_, rfl⟩
  obtain ⟨w814, ew814⟩ : ∃ w : Int32, I (ad g 0) 8 = w := ⟨_, rfl⟩
  obtain ⟨w815, ew815⟩ : ∃ w : Int32, I (ad g 0) 9 = w := ⟨_, rfl⟩
  try simp only [ew809, ew810, ew811, ew812, ew813, ew814, ew815] at c3 c4 c5 c6 hT1
  refine WP_aload_n dX11_known_0 rfl ?_
  refine WQ_getim dX11_known_1 fX11_27 rfl (ly_is hy 0 11 rfl) ew812 ?_
  refine WQ_iconst (1) (1) dX11_known_4 rfl rfl (fun v816 hv816 => ?_)
  refine WQ_icmp_eq 14 dX11_known_5 rfl (fun c816 => ?_) (fun c816 => ?_)
  · have hk : tK B n p = 1 := by omega
    refine WP_aload_n dX11_known_14 rfl ?_
    refine WP_aload_n dX11_known_15 rfl ?_
    refine WP_aload_n dX11_known_16 rfl ?_
    refine WP_iload_n dX11_known_17 rfl ?_
    refine WP_callV2 (k := 11) dX11_known_18 ⟨⟨⟨by decide, by decide⟩, zX11_find⟩, lX11_71, by decide, rfl, vX11_find.1, vX11_find.2⟩ (ly_is hy 0 11 rfl) (em_findd hy hr _  (b := 4) (k := (S.1 0 2).toNat) (nm := S.1 14) hT hC hn hB hp hk (by omega) (by omega) hN.2) (Nat.le_of_ble_eq_true rfl) ?_
    intro r Ia Ja Ra hq
    obtain ⟨⟨ea, eb, ec⟩, v819, er, p818⟩ := hq
    rw [ea, eb, ec, er]
    clear ea eb ec er Ia Ja Ra r
    have hfd : v819.toInt = fnT S (tW B n p) := p818
    refine WQ_puti dX11_known_21 fX11_56 rfl rfl (ly_is hy 0 11 rfl) (fun I820 eI820 => ?_)
    have e821 : I820 (ad g 0) 2 = w809 := by rw [eI820, pp_ne _ _ (Or.inr (by decide))]; exact ew809
    have e822 : I820 (ad g 0) 3 = w810 := by rw [eI820, pp_ne _ _ (Or.inr (by decide))]; exact ew810
    have e823 : I820 (ad g 0) 4 = w811 := by rw [eI820, pp_ne _ _ (Or.inr (by decide))]; exact ew811
    have e824 : I820 (ad g 0) 5 = w812 := by rw [eI820, pp_ne _ _ (Or.inr (by decide))]; exact ew812
    have e825 : I820 (ad g 0) 6 = w813 := by rw [eI820, pp_ne _ _ (Or.inr (by decide))]; exact ew813
    have e826 : I820 (ad g 0) 8 = w814 := by rw [eI820, pp_ne _ _ (Or.inr (by decide))]; exact ew814
    have e827 : I820 (ad g 0) 9 = w815 := by rw [eI820, pp_ne _ _ (Or.inr (by decide))]; exact ew815
    have e828 : I820 (ad g 0) 7 = v819 := by rw [eI820, pp_self]
    have fI829 : FC g [0] I I820 := by rw [eI820]; exact FC_pp fI0 (by decide)
    have fQ830 : FQ g [3, 4, 5, 6, 7, 8, 9] I I820 := by rw [eI820]; exact FQ_pp0 fQ0 (by decide)
    refine WP_aload_n dX11_known_24 rfl ?_
    refine WQ_getim dX11_known_25 fX11_56 rfl (ly_is hy 0 11 rfl) e828 ?_
    refine WQ_iconst (-1) (-1) dX11_known_28 rfl rfl (fun v831 hv831 => ?_)
    refine WQ_icmp_ne 38 dX11_known_29 rfl (fun c831 => ?_) (fun c831 => ?_)
    · have hfb := fnT_b (S := S) (w := tW B n p) (by omega) (by omega)
      refine WP_aload_n dX11_known_38 rfl ?_
      refine WP_callV0 (k := 11) dX11_known_39 ⟨⟨⟨by decide, by decide⟩, zX11_scan⟩, lX11_63, by decide, rfl, vX11_scan.1, vX11_scan.2⟩ (ly_is hy 0 11 rfl) (em_scan hy hr   (tpm_fq hy hT fI829 (by decide) fQ830 (by decide)) hn hB (by rw [e823]; exact c4) (tT_le B hp).2) (Nat.le_of_ble_eq_true rfl) ?_
      intro r I834 J835 Ra hq
      obtain ⟨ec, g836, g837, g838, er, p833⟩ := hq
      rw [ec, er]
      clear ec er Ra r
      have e839 : I834 (ad g 0) 2 = w809 := by rw [g838 2 (by decide)]; exact e821
      have e840 : I834 (ad g 0) 8 = w814 := by rw [g838 8 (by decide)]; exact e826
      have e841 : I834 (ad g 0) 9 = w815 := by rw [g838 9 (by decide)]; exact e827
      have e842 : I834 (ad g 0) 7 = v819 := by rw [g838 7 (by decide)]; exact e828
      have fI843 : FC g [0] I I834 := FC_tr fI829 (FC_mono g836 (by decide))
      have fJ844 : FC g [] J J835 := FC_tr fJ0 (FC_mono g837 (by decide))
      have fQ845 : FQ g [3, 4, 5, 6, 7, 8, 9] I I834 := FQ_tr fQ830 (FQ_mono g838 (by decide))
      obtain ⟨w846, ew846⟩ : ∃ w : Int32, I834 (ad g 0) 3 = w := ⟨_, rfl⟩
      obtain ⟨w847, ew847⟩ : ∃ w : Int32, I834 (ad g 0) 4 = w := ⟨_, rfl⟩
      obtain ⟨w848, ew848⟩ : ∃ w : Int32, I834 (ad g 0) 5 = w := ⟨_, rfl⟩
      obtain ⟨w849, ew849⟩ : ∃ w : Int32, I834 (ad g 0) 6 = w := ⟨_, rfl⟩
      try simp only [e839, ew846, ew847, ew848, ew849, e840, e841, ew809, ew810, ew811, ew812, ew813, ew814, ew815] at p833
      obtain ⟨hT3, hC3⟩ := p833
      refine WQ_iconst (1) (1) dX11_known_42 rfl rfl (fun v850 hv850 => ?_)
      exact WP_zret dX11_known_43 rfl (nar_z (by omega)) ⟨rfl, fI843, fJ844, fQ845, v850, rfl, by
        try simp only [e839, e840, e841, e842, ew846, ew847, ew848, ew849, ew809, ew810, ew811, ew812, ew813, ew814, ew815]
        have g7 := g838 7 (by decide)
        refine Or.inr ⟨by omega, (by rw [prt_t hk, if_neg (by omega)]), hfb.1, hfb.2, ?_, hT3, hC3, ?_⟩
        · first | exact hfd | (rw [g7]; exact hfd) | omega
        · unfold NOF
          try simp only [e840, e841]
          exact ⟨by first | rfl | trivial | assumption | (symm; assumption), by first | rfl | trivial | assumption | (symm; assumption)⟩⟩
    · refine WP_aload_n dX11_known_32 rfl ?_
      refine WQ_iconst (5) (5) dX11_known_33 rfl rfl (fun v851 hv851 => ?_)
      refine WP_callV1 (k := 11) dX11_known_34 ⟨⟨⟨by decide, by decide⟩, zX11_bad⟩, lX11_49, by decide, rfl, vX11_bad.1, vX11_bad.2⟩ (ly_is hy 0 11 rfl) (em_bad hy hr _  ) (Nat.le_of_ble_eq_true rfl) ?_
      intro r I854 J855 Ra hq
      obtain ⟨ec, g856, g857, g858, v853, er, p852⟩ := hq
      rw [ec, er]
      clear ec er Ra r
      have e859 : I854 (ad g 0) 2 = w809 := by rw [g858 2 (by decide)]; exact e821
      have e860 : I854 (ad g 0) 3 = w810 := by rw [g858 3 (by decide)]; exact e822
      have e861 : I854 (ad g 0) 4 = w811 := by rw [g858 4 (by decide)]; exact e823
      have e862 : I854 (ad g 0) 5 = w812 := by rw [g858 5 (by decide)]; exact e824
      have e863 : I854 (ad g 0) 6 = w813 := by rw [g858 6 (by decide)]; exact e825
      have e864 : I854 (ad g 0) 7 = v819 := by rw [g858 7 (by decide)]; exact e828
      have fI865 : FC g [0] I I854 := FC_tr fI829 (FC_mono g856 (by decide))
      have fJ866 : FC g [] J J855 := FC_tr fJ0 (FC_mono g857 (by decide))
      have fQ867 : FQ g [3, 4, 5, 6, 7, 8, 9] I I854 := FQ_tr fQ830 (FQ_mono g858 (by decide))
      obtain ⟨w868, ew868⟩ : ∃ w : Int32, I854 (ad g 0) 8 = w := ⟨_, rfl⟩
      obtain ⟨w869, ew869⟩ : ∃ w : Int32, I854 (ad g 0) 9 = w := ⟨_, rfl⟩
      try simp only [e859, e860, e861, e862, e863, ew868, ew869, ew809, ew810, ew811, ew812, ew813, ew814, ew815] at p852
      obtain ⟨z0, z8, z9⟩ := p852
      try simp only [e822] at z9
      exact WP_zret dX11_known_37 rfl (nar_z (by omega)) ⟨rfl, fI865, fJ866, fQ867, v853, rfl, by
        try simp only [e859, e860, e861, e862, e863, e864, ew868, ew869, ew809, ew810, ew811, ew812, ew813, ew814, ew815]
        refine Or.inl ⟨by omega, 5, tF B n p, ?_, ?_⟩
        · rw [prt_t hk, if_pos (by omega)]
        · unfold ERM
          try simp only [ew868, ew869]
          exact ⟨by rw [z8]; omega, by rw [z9]; omega⟩⟩
  · refine WP_aload_n dX11_known_8 rfl ?_
    refine WQ_iconst (1) (1) dX11_known_9 rfl rfl (fun v870 hv870 => ?_)
    refine WP_callV1 (k := 11) dX11_known_10 ⟨⟨⟨by decide, by decide⟩, zX11_bad⟩, lX11_49, by decide, rfl, vX11_bad.1, vX11_bad.2⟩ (ly_is hy 0 11 rfl) (em_bad hy hr _  ) (Nat.le_of_ble_eq_true rfl) ?_
    intro r I873 J874 Ra hq
    obtain ⟨ec, g875, g876, g877, v872, er, p871⟩ := hq
    rw [ec, er]
    clear ec er Ra r
    have e878 : I873 (ad g 0) 2 = w809 := by rw [g877 2 (by decide)]; exact ew809
    have e879 : I873 (ad g 0) 3 = w810 := by rw [g877 3 (by decide)]; exact ew810
    have e880 : I873 (ad g 0) 4 = w811 := by rw [g877 4 (by decide)]; exact ew811
    have e881 : I873 (ad g 0) 5 = w812 := by rw [g877 5 (by decide)]; exact ew812
    have e882 : I873 (ad g 0) 6 = w813 := by rw [g877 6 (by decide)]; exact ew813
    have fI883 : FC g [0] I I873 := FC_tr fI0 (FC_mono g875 (by decide))
    have fJ884 : FC g [] J J874 := FC_tr fJ0 (FC_mono g876 (by decide))
    have fQ885 : FQ g [3, 4, 5, 6, 7, 8, 9] I I873 := FQ_tr fQ0 (FQ_mono g877 (by decide))
    obtain ⟨w886, ew886⟩ : ∃ w : Int32, I873 (ad g 0) 8 = w := ⟨_, rfl⟩
    obtain ⟨w887, ew887⟩ : ∃ w : Int32, I873 (ad g 0) 9 = w := ⟨_, rfl⟩
    try simp only [e878, e879, e880, e881, e882, ew886, ew887, ew809, ew810, ew811, ew812, ew813, ew814, ew815] at p871
    obtain ⟨z0, z8, z9⟩ := p871
    try simp only [ew810] at z9
    exact WP_zret dX11_known_13 rfl (nar_z (by omega)) ⟨rfl, fI883, fJ884, fQ885, v872, rfl, by
      try simp only [e878, e879, e880, e881, e882, ew886, ew887, ew809, ew810, ew811, ew812, ew813, ew814, ew815]
      refine Or.inl ⟨by omega, 1, tF B n p, ?_, ?_⟩
      · exact prt_x (by omega)
      · unfold ERM
        try simp only [ew886, ew887]
        exact ⟨by rw [z8]; omega, by rw [z9]; omega⟩⟩
set_option maxHeartbeats 4000000 in
set_option maxRecDepth 100000 in
theorem em_fresha {g : GG} {I : pI} {J : pJ} {R : pR} (hy : Ly g) (hr : Rf g R) {B : Nat → Int} {n p c i : Nat} {S : TwS} {P : Nat → Int} (mn : Int32) (hT : TPM g B n I) (hC : CUM g B n p I) (hn : n ≤ 900) (hB : ∀ q, -128 ≤ B q ∧ B q ≤ 127) (hp : p ≤ n) (hN : NMS g S J) (hSB : SBn S) (hm : mn.toInt = S.1 0 1) (hlt : S.1 0 1 < 4) : SP g mX11_fresh [.ref (ad g 0), .ref (ad g 4), .int mn] I J R (fun r I' J' R' => R' = R ∧ FC g [0] I I' ∧ FC g [4] J J' ∧ FQ g [3, 4, 5, 6, 7, 8, 9] I I' ∧ ∃ v : Int32, r = some (.int v) ∧ ((v.toInt = 0 ∧ ERR g (prt B n c i 110 p S P) I') ∨ (v.toInt = 1 ∧ prt B n c i 110 p S P = .ok ((pp S.1 14 ((S.1 0 1).toNat) (tW B n p), S.2), P) ∧ (∀ q, q ≠ (S.1 0 1).toNat → J' (ad g 4) q = J (ad g 4) q) ∧ (J' (ad g 4) (S.1 0 1).toNat).toInt = c5 8 (tW B n p) ∧ okW 8 (tW B n p) ∧ TPM g B n I' ∧ CUM g B n (tT B n p) I' ∧ NOF g I I'))) := by
  refine SP_of ⟨by decide, rfl⟩ (Nat.le_of_ble_eq_true rfl) ?_
  have fI0 : FC g [0] I I := FC_rf
  have fJ0 : FC g [4] J J := FC_rf
  have fQ0 : FQ g [3, 4, 5, 6, 7, 8, 9] I I := FQ_rf
  have hC2 := hC
  have hT1 := hT.1
  obtain ⟨c3, c4, c5, c6⟩ := hC2
  have hbb := hSB
  unfold SBn at hbb
  obtain ⟨w1046, ew1046⟩ : ∃ w : Int32, I (ad g 0) 2 = w := ⟨_, rfl⟩
  obtain ⟨w1047, ew1047⟩ : ∃ w : Int32, I (ad g 0) 3 = w := ⟨_, rfl⟩
  obtain ⟨w1048, ew1048⟩ : ∃ w : Int32, I (ad g 0) 4 = w := ⟨_, rfl⟩
  obtain ⟨w1049, ew1049⟩ : ∃ w : Int32, I (ad g 0) 5 = w := ⟨_, rfl⟩
  obtain ⟨w1050, ew1050⟩ : ∃ w : Int32, I (ad g 0) 6 = w := ⟨_, rfl⟩
  obtain ⟨w1051, ew1051⟩ : ∃ w : Int32, I (ad g 0) 8 = w := ⟨_, rfl⟩
  obtain ⟨w1052, ew1052⟩ : ∃ w : Int32, I (ad g 0) 9 = w := ⟨_, rfl⟩
  try simp only [ew1046, ew1047, ew1048, ew1049, ew1050, ew1051, ew1052] at c3 c4 c5 c6 hT1
  refine WP_aload_n dX11_fresh_0 rfl ?_
  refine WQ_getim dX11_fresh_1 fX11_27 rfl (ly_is hy 0 11 rfl) ew1049 ?_
  refine WQ_iconst (1) (1) dX11_fresh_4 rfl rfl (fun v1053 hv1053 => ?_)
  refine WQ_icmp_eq 14 dX11_fresh_5 rfl (fun c1053 => ?_) (fun c1053 => ?_)
  · have hk : tK B n p = 1 := by omega
    obtain ⟨hw1, hw2, hw3, hw4⟩ := tok_w hp hk
    refine WP_aload_n dX11_fresh_14 rfl ?_
    refine WP_aload_n dX11_fresh_15 rfl ?_
    refine WP_iload_n dX11_fresh_16 rfl ?_
    refine WP_callV2 (k := 11) dX11_fresh_17 ⟨⟨⟨by decide, by decide⟩, zX11_find⟩, lX11_71, by decide, rfl, vX11_find.1, vX11_find.2⟩ (ly_is hy 0 11 rfl) (em_findc hy hr _  (b := 0) (k := (S.1 0 1).toNat) (nm := S.1 14) hT hC hn hB hp hk (by omega) (by omega) hN.1) (Nat.le_of_ble_eq_true rfl) ?_
    intro r Ia Ja Ra hq
    obtain ⟨⟨ea, eb, ec⟩, v1056, er, p1055⟩ := hq
    rw [ea, eb, ec, er]
    clear ea eb ec er Ia Ja Ra r
    have hfd : v1056.toInt = fnS S (tW B n p) := p1055
    refine WQ_iconst (-1) (-1) dX11_fresh_20 rfl rfl (fun v1057 hv1057 => ?_)
    refine WQ_icmp_eq 30 dX11_fresh_21 rfl (fun c1057 => ?_) (fun c1057 => ?_)
    · refine WP_aload_n dX11_fresh_30 rfl ?_
      refine WP_iload_n dX11_fresh_31 rfl ?_
      refine WP_aload_n dX11_fresh_32 rfl ?_
      refine WP_callV0 (k := 11) dX11_fresh_33 ⟨⟨⟨by decide, by decide⟩, zX11_name⟩, lX11_67, by decide, rfl, vX11_name.1, vX11_name.2⟩ (ly_is hy 0 11 rfl) (em_name hy hr   hT hC hn hB hp hk) (Nat.le_of_ble_eq_true rfl) ?_
      intro r Ia Ja Ra hq
      obtain ⟨⟨ea, eb, ec⟩, l1060, er, p1059⟩ := hq
      rw [ea, eb, ec, er]
      clear ea eb ec er Ia Ja Ra r
      refine WE_ls dX11_fresh_36 (ly_is hy 4 14 rfl) (ly_n hy 4 4 rfl) (by omega) (by omega) (fun J1061 eJ1061 => ?_)
      have fJ1062 : FC g [4] J J1061 := by rw [eJ1061]; exact FC_pp fJ0 (by decide)
      refine WP_aload_n dX11_fresh_37 rfl ?_
      refine WP_callV0 (k := 11) dX11_fresh_38 ⟨⟨⟨by decide, by decide⟩, zX11_scan⟩, lX11_63, by decide, rfl, vX11_scan.1, vX11_scan.2⟩ (ly_is hy 0 11 rfl) (em_scan hy hr   hT hn hB (by rw [ew1048]; exact c4) (tT_le B hp).2) (Nat.le_of_ble_eq_true rfl) ?_
      intro r I1064 J1065 Ra hq
      obtain ⟨ec, g1066, g1067, g1068, er, p1063⟩ := hq
      rw [ec, er]
      clear ec er Ra r
      have e1069 : I1064 (ad g 0) 2 = w1046 := by rw [g1068 2 (by decide)]; exact ew1046
      have e1070 : I1064 (ad g 0) 8 = w1051 := by rw [g1068 8 (by decide)]; exact ew1051
      have e1071 : I1064 (ad g 0) 9 = w1052 := by rw [g1068 9 (by decide)]; exact ew1052
      have fI1072 : FC g [0] I I1064 := FC_tr fI0 (FC_mono g1066 (by decide))
      have fJ1073 : FC g [4] J J1065 := FC_tr fJ1062 (FC_mono g1067 (by decide))
      have fQ1074 : FQ g [3, 4, 5, 6, 7, 8, 9] I I1064 := FQ_tr fQ0 (FQ_mono g1068 (by decide))
      obtain ⟨w1075, ew1075⟩ : ∃ w : Int32, I1064 (ad g 0) 3 = w := ⟨_, rfl⟩
      obtain ⟨w1076, ew1076⟩ : ∃ w : Int32, I1064 (ad g 0) 4 = w := ⟨_, rfl⟩
      obtain ⟨w1077, ew1077⟩ : ∃ w : Int32, I1064 (ad g 0) 5 = w := ⟨_, rfl⟩
      obtain ⟨w1078, ew1078⟩ : ∃ w : Int32, I1064 (ad g 0) 6 = w := ⟨_, rfl⟩
      try simp only [e1069, ew1075, ew1076, ew1077, ew1078, e1070, e1071, ew1046, ew1047, ew1048, ew1049, ew1050, ew1051, ew1052] at p1063
      obtain ⟨hT3, hC3⟩ := p1063
      refine WQ_iconst (1) (1) dX11_fresh_41 rfl rfl (fun v1079 hv1079 => ?_)
      exact WP_zret dX11_fresh_42 rfl (nar_z (by omega)) ⟨rfl, fI1072, fJ1073, fQ1074, v1079, rfl, by
        try simp only [e1069, e1070, e1071, ew1075, ew1076, ew1077, ew1078, ew1046, ew1047, ew1048, ew1049, ew1050, ew1051, ew1052]
        have gJ := FC_at hy g1067 4 (by decide) (by decide)
        have eJ := eJ1061
        rw [show mn.toInt.toNat = (S.1 0 1).toNat by omega] at eJ
        refine Or.inr ⟨by omega, (by rw [prt_n hk, if_neg (by omega)]), fun q hq => ?_, ?_, hw1, hT3, hC3, g1068 8 (by decide), g1068 9 (by decide)⟩
        · rw [gJ, eJ, pp_ne _ _ (Or.inr hq)]
        · rw [gJ, eJ, pp_self, hw2]; exact p1059⟩
    · refine WP_aload_n dX11_fresh_24 rfl ?_
      refine WQ_iconst (3) (3) dX11_fresh_25 rfl rfl (fun v1080 hv1080 => ?_)
      refine WP_callV1 (k := 11) dX11_fresh_26 ⟨⟨⟨by decide, by decide⟩, zX11_bad⟩, lX11_49, by decide, rfl, vX11_bad.1, vX11_bad.2⟩ (ly_is hy 0 11 rfl) (em_bad hy hr _  ) (Nat.le_of_ble_eq_true rfl) ?_
      intro r I1083 J1084 Ra hq
      obtain ⟨ec, g1085, g1086, g1087, v1082, er, p1081⟩ := hq
      rw [ec, er]
      clear ec er Ra r
      have e1088 : I1083 (ad g 0) 2 = w1046 := by rw [g1087 2 (by decide)]; exact ew1046
      have e1089 : I1083 (ad g 0) 3 = w1047 := by rw [g1087 3 (by decide)]; exact ew1047
      have e1090 : I1083 (ad g 0) 4 = w1048 := by rw [g1087 4 (by decide)]; exact ew1048
      have e1091 : I1083 (ad g 0) 5 = w1049 := by rw [g1087 5 (by decide)]; exact ew1049
      have e1092 : I1083 (ad g 0) 6 = w1050 := by rw [g1087 6 (by decide)]; exact ew1050
      have fI1093 : FC g [0] I I1083 := FC_tr fI0 (FC_mono g1085 (by decide))
      have fJ1094 : FC g [4] J J1084 := FC_tr fJ0 (FC_mono g1086 (by decide))
      have fQ1095 : FQ g [3, 4, 5, 6, 7, 8, 9] I I1083 := FQ_tr fQ0 (FQ_mono g1087 (by decide))
      obtain ⟨w1096, ew1096⟩ : ∃ w : Int32, I1083 (ad g 0) 8 = w := ⟨_, rfl⟩
      obtain ⟨w1097, ew1097⟩ : ∃ w : Int32, I1083 (ad g 0) 9 = w := ⟨_, rfl⟩
      try simp only [e1088, e1089, e1090, e1091, e1092, ew1096, ew1097, ew1046, ew1047, ew1048, ew1049, ew1050, ew1051, ew1052] at p1081
      obtain ⟨z0, z8, z9⟩ := p1081
      try simp only [ew1047] at z9
      exact WP_zret dX11_fresh_29 rfl (nar_z (by omega)) ⟨rfl, fI1093, fJ1094, fQ1095, v1082, rfl, by
        try simp only [e1088, e1089, e1090, e1091, e1092, ew1096, ew1097, ew1046, ew1047, ew1048, ew1049, ew1050, ew1051, ew1052]
        refine Or.inl ⟨by omega, 3, tF B n p, ?_, ?_⟩
        · rw [prt_n hk, if_pos (by omega)]
        · unfold ERM
          try simp only [ew1096, ew1097]
          exact ⟨by rw [z8]; omega, by rw [z9]; omega⟩⟩
  · refine WP_aload_n dX11_fresh_8 rfl ?_
    refine WQ_iconst (1) (1) dX11_fresh_9 rfl rfl (fun v1098 hv1098 => ?_)
    refine WP_callV1 (k := 11) dX11_fresh_10 ⟨⟨⟨by decide, by decide⟩, zX11_bad⟩, lX11_49, by decide, rfl, vX11_bad.1, vX11_bad.2⟩ (ly_is hy 0 11 rfl) (em_bad hy hr _  ) (Nat.le_of_ble_eq_true rfl) ?_
    intro r I1101 J1102 Ra hq
    obtain ⟨ec, g1103, g1104, g1105, v1100, er, p1099⟩ := hq
    rw [ec, er]
    clear ec er Ra r
    have e1106 : I1101 (ad g 0) 2 = w1046 := by rw [g1105 2 (by decide)]; exact ew1046
    have e1107 : I1101 (ad g 0) 3 = w1047 := by rw [g1105 3 (by decide)]; exact ew1047
    have e1108 : I1101 (ad g 0) 4 = w1048 := by rw [g1105 4 (by decide)]; exact ew1048
    have e1109 : I1101 (ad g 0) 5 = w1049 := by rw [g1105 5 (by decide)]; exact ew1049
    have e1110 : I1101 (ad g 0) 6 = w1050 := by rw [g1105 6 (by decide)]; exact ew1050
    have fI1111 : FC g [0] I I1101 := FC_tr fI0 (FC_mono g1103 (by decide))
    have fJ1112 : FC g [4] J J1102 := FC_tr fJ0 (FC_mono g1104 (by decide))
    have fQ1113 : FQ g [3, 4, 5, 6, 7, 8, 9] I I1101 := FQ_tr fQ0 (FQ_mono g1105 (by decide))
    obtain ⟨w1114, ew1114⟩ : ∃ w : Int32, I1101 (ad g 0) 8 = w := ⟨_, rfl⟩
    obtain ⟨w1115, ew1115⟩ : ∃ w : Int32, I1101 (ad g 0) 9 = w := ⟨_, rfl⟩
    try simp only [e1106, e1107, e1108, e1109, e1110, ew1114, ew1115, ew1046, ew1047, ew1048, ew1049, ew1050, ew1051, ew1052] at p1099
    obtain ⟨z0, z8, z9⟩ := p1099
    try simp only [ew1047] at z9
    exact WP_zret dX11_fresh_13 rfl (nar_z (by omega)) ⟨rfl, fI1111, fJ1112, fQ1113, v1100, rfl, by
      try simp only [e1106, e1107, e1108, e1109, e1110, ew1114, ew1115, ew1046, ew1047, ew1048, ew1049, ew1050, ew1051, ew1052]
      refine Or.inl ⟨by omega, 1, tF B n p, ?_, ?_⟩
      · exact prt_x (by omega)
      · unfold ERM
        try simp only [ew1114, ew1115]
        exact ⟨by rw [z8]; omega, by rw [z9]; omega⟩⟩
set_option maxHeartbeats 4000000 in
set_option maxRecDepth 100000 in
theorem em_freshb {g : GG} {I : pI} {J : pJ} {R : pR} (hy : Ly g) (hr : Rf g R) {B : Nat → Int} {n p c i : Nat} {S : TwS} {P : Nat → Int} (mn : Int32) (hT : TPM g B n I) (hC : CUM g B n p I) (hn : n ≤ 900) (hB : ∀ q, -128 ≤ B q ∧ B q ≤ 127) (hp : p ≤ n) (hN : NMS g S J) (hSB : SBn S) (hm : mn.toInt = S.1 0 2) (hlt : S.1 0 2 < 3) : SP g mX11_fresh [.ref (ad g 0), .ref (ad g 5), .int mn] I J R (fun r I' J' R' => R' = R ∧ FC g [0] I I' ∧ FC g [5] J J' ∧ FQ g [3, 4, 5, 6, 7, 8, 9] I I' ∧ ∃ v : Int32, r = some (.int v) ∧ ((v.toInt = 0 ∧ ERR g (prt B n c i 109 p S P) I') ∨ (v.toInt = 1 ∧ prt B n c i 109 p S P = .ok ((pp S.1 14 (4 + (S.1 0 2).toNat) (tW B n p), S.2), P) ∧ (∀ q, q ≠ (S.1 0 2).toNat → J' (ad g 5) q = J (ad g 5) q) ∧ (J' (ad g 5) (S.1 0 2).toNat).toInt = c5 8 (tW B n p) ∧ okW 8 (tW B n p) ∧ TPM g B n I' ∧ CUM g B n (tT B n p) I' ∧ NOF g I I'))) := by
  refine SP_of ⟨by decide, rfl⟩ (Nat.le_of_ble_eq_true rfl) ?_
  have fI0 : FC g [0] I I := FC_rf
  have fJ0 : FC g [5] J J := FC_rf
  have fQ0 : FQ g [3, 4, 5, 6, 7, 8, 9] I I := FQ_rf
  have hC2 := hC
  have hT1 := hT.1
  obtain ⟨c3, c4, c5, c6⟩ := hC2
  have hbb := hSB
  unfold SBn at hbb
  obtain ⟨w1116, ew1116⟩ : ∃ w : Int32, I (ad g 0) 2 = w := ⟨_, rfl⟩
  obtain ⟨w1117, ew1117⟩ : ∃ w : Int32, I (ad g 0) 3 = w := ⟨_, rfl⟩
  obtain ⟨w1118, ew1118⟩ : ∃ w : Int32, I (ad g 0) 4 = w := ⟨_, rfl⟩
  obtain ⟨w1119, ew1119⟩ : ∃ w : Int32, I (ad g 0) 5 = w := ⟨_, rfl⟩
  obtain ⟨w1120, ew1120⟩ : ∃ w : Int32, I (ad g 0) 6 = w := ⟨_, rfl⟩
  obtain ⟨w1121, ew1121⟩ : ∃ w : Int32, I (ad g 0) 8 = w := ⟨_, rfl⟩
  obtain ⟨w1122, ew1122⟩ : ∃ w : Int32, I (ad g 0) 9 = w := ⟨_, rfl⟩
  try simp only [ew1116, ew1117, ew1118, ew1119, ew1120, ew1121, ew1122] at c3 c4 c5 c6 hT1
  refine WP_aload_n dX11_fresh_0 rfl ?_
  refine WQ_getim dX11_fresh_1 fX11_27 rfl (ly_is hy 0 11 rfl) ew1119 ?_
  refine WQ_iconst (1) (1) dX11_fresh_4 rfl rfl (fun v1123 hv1123 => ?_)
  refine WQ_icmp_eq 14 dX11_fresh_5 rfl (fun c1123 => ?_) (fun c1123 => ?_)
  · have hk : tK B n p = 1 := by omega
    obtain ⟨hw1, hw2, hw3, hw4⟩ := tok_w hp hk
    refine WP_aload_n dX11_fresh_14 rfl ?_
    refine WP_aload_n dX11_fresh_15 rfl ?_
    refine WP_iload_n dX11_fresh_16 rfl ?_
    refine WP_callV2 (k := 11) dX11_fresh_17 ⟨⟨⟨by decide, by decide⟩, zX11_find⟩, lX11_71, by decide, rfl, vX11_find.1, vX11_find.2⟩ (ly_is hy 0 11 rfl) (em_findd hy hr _  (b := 4) (k := (S.1 0 2).toNat) (nm := S.1 14) hT hC hn hB hp hk (by omega) (by omega) hN.2) (Nat.le_of_ble_eq_true rfl) ?_
    intro r Ia Ja Ra hq
    obtain ⟨⟨ea, eb, ec⟩, v1126, er, p1125⟩ := hq
    rw [ea, eb, ec, er]
    clear ea eb ec er Ia Ja Ra r
    have hfd : v1126.toInt = fnT S (tW B n p) := p1125
    refine WQ_iconst (-1) (-1) dX11_fresh_20 rfl rfl (fun v1127 hv1127 => ?_)
    refine WQ_icmp_eq 30 dX11_fresh_21 rfl (fun c1127 => ?_) (fun c1127 => ?_)
    · refine WP_aload_n dX11_fresh_30 rfl ?_
      refine WP_iload_n dX11_fresh_31 rfl ?_
      refine WP_aload_n dX11_fresh_32 rfl ?_
      refine WP_callV0 (k := 11) dX11_fresh_33 ⟨⟨⟨by decide, by decide⟩, zX11_name⟩, lX11_67, by decide, rfl, vX11_name.1, vX11_name.2⟩ (ly_is hy 0 11 rfl) (em_name hy hr   hT hC hn hB hp hk) (Nat.le_of_ble_eq_true rfl) ?_
      intro r Ia Ja Ra hq
      obtain ⟨⟨ea, eb, ec⟩, l1130, er, p1129⟩ := hq
      rw [ea, eb, ec, er]
      clear ea eb ec er Ia Ja Ra r
      refine WE_ls dX11_fresh_36 (ly_is hy 5 14 rfl) (ly_n hy 5 3 rfl) (by omega) (by omega) (fun J1131 eJ1131 => ?_)
      have fJ1132 : FC g [5] J J1131 := by rw [eJ1131]; exact FC_pp fJ0 (by decide)
      refine WP_aload_n dX11_fresh_37 rfl ?_
      refine WP_callV0 (k := 11) dX11_fresh_38 ⟨⟨⟨by decide, by decide⟩, zX11_scan⟩, lX11_63, by decide, rfl, vX11_scan.1, vX11_scan.2⟩ (ly_is hy 0 11 rfl) (em_scan hy hr   hT hn hB (by rw [ew1118]; exact c4) (tT_le B hp).2) (Nat.le_of_ble_eq_true rfl) ?_
      intro r I1134 J1135 Ra hq
      obtain ⟨ec, g1136, g1137, g1138, er, p1133⟩ := hq
      rw [ec, er]
      clear ec er Ra r
      have e1139 : I1134 (ad g 0) 2 = w1116 := by rw [g1138 2 (by decide)]; exact ew1116
      have e1140 : I1134 (ad g 0) 8 = w1121 := by rw [g1138 8 (by decide)]; exact ew1121
      have e1141 : I1134 (ad g 0) 9 = w1122 := by rw [g1138 9 (by decide)]; exact ew1122
      have fI1142 : FC g [0] I I1134 := FC_tr fI0 (FC_mono g1136 (by decide))
      have fJ1143 : FC g [5] J J1135 := FC_tr fJ1132 (FC_mono g1137 (by decide))
      have fQ1144 : FQ g [3, 4, 5, 6, 7, 8, 9] I I1134 := FQ_tr fQ0 (FQ_mono g1138 (by decide))
      obtain ⟨w1145, ew1145⟩ : ∃ w : Int32, I1134 (ad g 0) 3 = w := ⟨_, rfl⟩
      obtain ⟨w1146, ew1146⟩ : ∃ w : Int32, I1134 (ad g 0) 4 = w := ⟨_, rfl⟩
      obtain ⟨w1147, ew1147⟩ : ∃ w : Int32, I1134 (ad g 0) 5 = w := ⟨_, rfl⟩
      obtain ⟨w1148, ew1148⟩ : ∃ w : Int32, I1134 (ad g 0) 6 = w := ⟨_, rfl⟩
      try simp only [e1139, ew1145, ew1146, ew1147, ew1148, e1140, e1141, ew1116, ew1117, ew1118, ew1119, ew1120, ew1121, ew1122] at p1133
      obtain ⟨hT3, hC3⟩ := p1133
      refine WQ_iconst (1) (1) dX11_fresh_41 rfl rfl (fun v1149 hv1149 => ?_)
      exact WP_zret dX11_fresh_42 rfl (nar_z (by omega)) ⟨rfl, fI1142, fJ1143, fQ1144, v1149, rfl, by
        try simp only [e1139, e1140, e1141, ew1145, ew1146, ew1147, ew1148, ew1116, ew1117, ew1118, ew1119, ew1120, ew1121, ew1122]
        have gJ := FC_at hy g1137 5 (by decide) (by decide)
        have eJ := eJ1131
        rw [show mn.toInt.toNat = (S.1 0 2).toNat by omega] at eJ
        refine Or.inr ⟨by omega, (by rw [prt_m hk, if_neg (by omega)]), fun q hq => ?_, ?_, hw1, hT3, hC3, g1138 8 (by decide), g1138 9 (by decide)⟩
        · rw [gJ, eJ, pp_ne _ _ (Or.inr hq)]
        · rw [gJ, eJ, pp_self, hw2]; exact p1129⟩
    · refine WP_aload_n dX11_fresh_24 rfl ?_
      refine WQ_iconst (3) (3) dX11_fresh_25 rfl rfl (fun v1150 hv1150 => ?_)
      refine WP_callV1 (k := 11) dX11_fresh_26 ⟨⟨⟨by decide, by decide⟩, zX11_bad⟩, lX11_49, by decide, rfl, vX11_bad.1, vX11_bad.2⟩ (ly_is hy 0 11 rfl) (em_bad hy hr _  ) (Nat.le_of_ble_eq_true rfl) ?_
      intro r I1153 J1154 Ra hq
      obtain ⟨ec, g1155, g1156, g1157, v1152, er, p1151⟩ := hq
      rw [ec, er]
      clear ec er Ra r
      have e1158 : I1153 (ad g 0) 2 = w1116 := by rw [g1157 2 (by decide)]; exact ew1116
      have e1159 : I1153 (ad g 0) 3 = w1117 := by rw [g1157 3 (by decide)]; exact ew1117
      have e1160 : I1153 (ad g 0) 4 = w1118 := by rw [g1157 4 (by decide)]; exact ew1118
      have e1161 : I1153 (ad g 0) 5 = w1119 := by rw [g1157 5 (by decide)]; exact ew1119
      have e1162 : I1153 (ad g 0) 6 = w1120 := by rw [g1157 6 (by decide)]; exact ew1120
      have fI1163 : FC g [0] I I1153 := FC_tr fI0 (FC_mono g1155 (by decide))
      have fJ1164 : FC g [5] J J1154 := FC_tr fJ0 (FC_mono g1156 (by decide))
      have fQ1165 : FQ g [3, 4, 5, 6, 7, 8, 9] I I1153 := FQ_tr fQ0 (FQ_mono g1157 (by decide))
      obtain ⟨w1166, ew1166⟩ : ∃ w : Int32, I1153 (ad g 0) 8 = w := ⟨_, rfl⟩
      obtain ⟨w1167, ew1167⟩ : ∃ w : Int32, I1153 (ad g 0) 9 = w := ⟨_, rfl⟩
      try simp only [e1158, e1159, e1160, e1161, e1162, ew1166, ew1167, ew1116, ew1117, ew1118, ew1119, ew1120, ew1121, ew1122] at p1151
      obtain ⟨z0, z8, z9⟩ := p1151
      try simp only [ew1117] at z9
      exact WP_zret dX11_fresh_29 rfl (nar_z (by omega)) ⟨rfl, fI1163, fJ1164, fQ1165, v1152, rfl, by
        try simp only [e1158, e1159, e1160, e1161, e1162, ew1166, ew1167, ew1116, ew1117, ew1118, ew1119, ew1120, ew1121, ew1122]
        refine Or.inl ⟨by omega, 3, tF B n p, ?_, ?_⟩
        · rw [prt_m hk, if_pos (by omega)]
        · unfold ERM
          try simp only [ew1166, ew1167]
          exact ⟨by rw [z8]; omega, by rw [z9]; omega⟩⟩
  · refine WP_aload_n dX11_fresh_8 rfl ?_
    refine WQ_iconst (1) (1) dX11_fresh_9 rfl rfl (fun v1168 hv1168 => ?_)
    refine WP_callV1 (k := 11) dX11_fresh_10 ⟨⟨⟨by decide, by decide⟩, zX11_bad⟩, lX11_49, by decide, rfl, vX11_bad.1, vX11_bad.2⟩ (ly_is hy 0 11 rfl) (em_bad hy hr _  ) (Nat.le_of_ble_eq_true rfl) ?_
    intro r I1171 J1172 Ra hq
    obtain ⟨ec, g1173, g1174, g1175, v1170, er, p1169⟩ := hq
    rw [ec, er]
    clear ec er Ra r
    have e1176 : I1171 (ad g 0) 2 = w1116 := by rw [g1175 2 (by decide)]; exact ew1116
    have e1177 : I1171 (ad g 0) 3 = w1117 := by rw [g1175 3 (by decide)]; exact ew1117
    have e1178 : I1171 (ad g 0) 4 = w1118 := by rw [g1175 4 (by decide)]; exact ew1118
    have e1179 : I1171 (ad g 0) 5 = w1119 := by rw [g1175 5 (by decide)]; exact ew1119
    have e1180 : I1171 (ad g 0) 6 = w1120 := by rw [g1175 6 (by decide)]; exact ew1120
    have fI1181 : FC g [0] I I1171 := FC_tr fI0 (FC_mono g1173 (by decide))
    have fJ1182 : FC g [5] J J1172 := FC_tr fJ0 (FC_mono g1174 (by decide))
    have fQ1183 : FQ g [3, 4, 5, 6, 7, 8, 9] I I1171 := FQ_tr fQ0 (FQ_mono g1175 (by decide))
    obtain ⟨w1184, ew1184⟩ : ∃ w : Int32, I1171 (ad g 0) 8 = w := ⟨_, rfl⟩
    obtain ⟨w1185, ew1185⟩ : ∃ w : Int32, I1171 (ad g 0) 9 = w := ⟨_, rfl⟩
    try simp only [e1176, e1177, e1178, e1179, e1180, ew1184, ew1185, ew1116, ew1117, ew1118, ew1119, ew1120, ew1121, ew1122] at p1169
    obtain ⟨z0, z8, z9⟩ := p1169
    try simp only [ew1117] at z9
    exact WP_zret dX11_fresh_13 rfl (nar_z (by omega)) ⟨rfl, fI1181, fJ1182, fQ1183, v1170, rfl, by
      try simp only [e1176, e1177, e1178, e1179, e1180, ew1184, ew1185, ew1116, ew1117, ew1118, ew1119, ew1120, ew1121, ew1122]
      refine Or.inl ⟨by omega, 1, tF B n p, ?_, ?_⟩
      · exact prt_x (by omega)
      · unfold ERM
        try simp only [ew1184, ew1185]
        exact ⟨by rw [z8]; omega, by rw [z9]; omega⟩⟩
set_option maxHeartbeats 4000000 in
set_option maxRecDepth 100000 in
theorem em_open {g : GG} {I : pI} {J : pJ} {R : pR} (hy : Ly g) (hr : Rf g R) {B : Nat → Int} {n : Nat}  (h1 : (I (ad g 0) 1).toInt = (n : Int)) (hbt : ∀ q, q < 900 → (I (ad g 1) q).toInt = B q) (hn : n ≤ 900) (hB : ∀ q, -128 ≤ B q ∧ B q ≤ 127) : SP g mX11_open [.ref (ad g 0)] I J R (fun r I' J' R' => R' = R ∧ FC g [0] I I' ∧ FC g [] J J' ∧ FQ g [1, 2, 3, 4, 5, 6, 8, 9] I I' ∧ r = none ∧ (TPM g B n I' ∧ CUM g B n 0 I' ∧ (I' (ad g 0) 1).toInt = 0 ∧ (I' (ad g 0) 8).toInt = 0 ∧ (I' (ad g 0) 9).toInt = -1)) := by
  refine SP_of ⟨by decide, rfl⟩ (Nat.le_of_ble_eq_true rfl) ?_
  have fI0 : FC g [0] I I := FC_rf
  have fJ0 : FC g [] J J := FC_rf
  have fQ0 : FQ g [1, 2, 3, 4, 5, 6, 8, 9] I I := FQ_rf
  obtain ⟨w1186, ew1186⟩ : ∃ w : Int32, I (ad g 0) 1 = w := ⟨_, rfl⟩
  obtain ⟨w1187, ew1187⟩ : ∃ w : Int32, I (ad g 0) 2 = w := ⟨_, rfl⟩
  obtain ⟨w1188, ew1188⟩ : ∃ w : Int32, I (ad g 0) 4 = w := ⟨_, rfl⟩
  obtain ⟨w1189, ew1189⟩ : ∃ w : Int32, I (ad g 0) 8 = w := ⟨_, rfl⟩
  obtain ⟨w1190, ew1190⟩ : ∃ w : Int32, I (ad g 0) 9 = w := ⟨_, rfl⟩
  try simp only [ew1186, ew1187, ew1188, ew1189, ew1190] at h1
  refine WP_aload_n dX11_open_0 rfl ?_
  refine WP_aload_n dX11_open_1 rfl ?_
  refine WQ_getim dX11_open_2 fX11_75 rfl (ly_is hy 0 11 rfl) ew1186 ?_
  refine WQ_puti dX11_open_5 fX11_13 rfl rfl (ly_is hy 0 11 rfl) (fun I1191 eI1191 => ?_)
  have e1192 : I1191 (ad g 0) 1 = w1186 := by rw [eI1191, pp_ne _ _ (Or.inr (by decide))]; exact ew1186
  have e1193 : I1191 (ad g 0) 4 = w1188 := by rw [eI1191, pp_ne _ _ (Or.inr (by decide))]; exact ew1188
  have e1194 : I1191 (ad g 0) 8 = w1189 := by rw [eI1191, pp_ne _ _ (Or.inr (by decide))]; exact ew1189
  have e1195 : I1191 (ad g 0) 9 = w1190 := by rw [eI1191, pp_ne _ _ (Or.inr (by decide))]; exact ew1190
  have e1196 : I1191 (ad g 0) 2 = w1186 := by rw [eI1191, pp_self]
  have fI1197 : FC g [0] I I1191 := by rw [eI1191]; exact FC_pp fI0 (by decide)
  have fQ1198 : FQ g [1, 2, 3, 4, 5, 6, 8, 9] I I1191 := by rw [eI1191]; exact FQ_pp0 fQ0 (by decide)
  refine WP_aload_n dX11_open_8 rfl ?_
  refine WQ_iconst (0) (0) dX11_open_9 rfl rfl (fun v1199 hv1199 => ?_)
  refine WQ_puti dX11_open_10 fX11_75 rfl rfl (ly_is hy 0 11 rfl) (fun I1200 eI1200 => ?_)
  have e1201 : I1200 (ad g 0) 4 = w1188 := by rw [eI1200, pp_ne _ _ (Or.inr (by decide))]; exact e1193
  have e1202 : I1200 (ad g 0) 8 = w1189 := by rw [eI1200, pp_ne _ _ (Or.inr (by decide))]; exact e1194
  have e1203 : I1200 (ad g 0) 9 = w1190 := by rw [eI1200, pp_ne _ _ (Or.inr (by decide))]; exact e1195
  have e1204 : I1200 (ad g 0) 2 = w1186 := by rw [eI1200, pp_ne _ _ (Or.inr (by decide))]; exact e1196
  have e1205 : I1200 (ad g 0) 1 = v1199 := by rw [eI1200, pp_self]
  have fI1206 : FC g [0] I I1200 := by rw [eI1200]; exact FC_pp fI1197 (by decide)
  have fQ1207 : FQ g [1, 2, 3, 4, 5, 6, 8, 9] I I1200 := by rw [eI1200]; exact FQ_pp0 fQ1198 (by decide)
  refine WP_aload_n dX11_open_13 rfl ?_
  refine WQ_iconst (0) (0) dX11_open_14 rfl rfl (fun v1208 hv1208 => ?_)
  refine WQ_puti dX11_open_15 fX11_20 rfl rfl (ly_is hy 0 11 rfl) (fun I1209 eI1209 => ?_)
  have e1210 : I1209 (ad g 0) 8 = w1189 := by rw [eI1209, pp_ne _ _ (Or.inr (by decide))]; exact e1202
  have e1211 : I1209 (ad g 0) 9 = w1190 := by rw [eI1209, pp_ne _ _ (Or.inr (by decide))]; exact e1203
  have e1212 : I1209 (ad g 0) 2 = w1186 := by rw [eI1209, pp_ne _ _ (Or.inr (by decide))]; exact e1204
  have e1213 : I1209 (ad g 0) 1 = v1199 := by rw [eI1209, pp_ne _ _ (Or.inr (by decide))]; exact e1205
  have e1214 : I1209 (ad g 0) 4 = v1208 := by rw [eI1209, pp_self]
  have fI1215 : FC g [0] I I1209 := by rw [eI1209]; exact FC_pp fI1206 (by decide)
  have fQ1216 : FQ g [1, 2, 3, 4, 5, 6, 8, 9] I I1209 := by rw [eI1209]; exact FQ_pp0 fQ1207 (by decide)
  refine WP_aload_n dX11_open_18 rfl ?_
  refine WQ_iconst (0) (0) dX11_open_19 rfl rfl (fun v1217 hv1217 => ?_)
  refine WQ_puti dX11_open_20 fX11_3 rfl rfl (ly_is hy 0 11 rfl) (fun I1218 eI1218 => ?_)
  have e1219 : I1218 (ad g 0) 9 = w1190 := by rw [eI1218, pp_ne _ _ (Or.inr (by decide))]; exact e1211
  have e1220 : I1218 (ad g 0) 2 = w1186 := by rw [eI1218, pp_ne _ _ (Or.inr (by decide))]; exact e1212
  have e1221 : I1218 (ad g 0) 1 = v1199 := by rw [eI1218, pp_ne _ _ (Or.inr (by decide))]; exact e1213
  have e1222 : I1218 (ad g 0) 4 = v1208 := by rw [eI1218, pp_ne _ _ (Or.inr (by decide))]; exact e1214
  have e1223 : I1218 (ad g 0) 8 = v1217 := by rw [eI1218, pp_self]
  have fI1224 : FC g [0] I I1218 := by rw [eI1218]; exact FC_pp fI1215 (by decide)
  have fQ1225 : FQ g [1, 2, 3, 4, 5, 6, 8, 9] I I1218 := by rw [eI1218]; exact FQ_pp0 fQ1216 (by decide)
  refine WP_aload_n dX11_open_23 rfl ?_
  refine WQ_iconst (-1) (-1) dX11_open_24 rfl rfl (fun v1226 hv1226 => ?_)
  refine WQ_puti dX11_open_25 fX11_10 rfl rfl (ly_is hy 0 11 rfl) (fun I1227 eI1227 => ?_)
  have e1228 : I1227 (ad g 0) 2 = w1186 := by rw [eI1227, pp_ne _ _ (Or.inr (by decide))]; exact e1220
  have e1229 : I1227 (ad g 0) 1 = v1199 := by rw [eI1227, pp_ne _ _ (Or.inr (by decide))]; exact e1221
  have e1230 : I1227 (ad g 0) 4 = v1208 := by rw [eI1227, pp_ne _ _ (Or.inr (by decide))]; exact e1222
  have e1231 : I1227 (ad g 0) 8 = v1217 := by rw [eI1227, pp_ne _ _ (Or.inr (by decide))]; exact e1223
  have e1232 : I1227 (ad g 0) 9 = v1226 := by rw [eI1227, pp_self]
  have fI1233 : FC g [0] I I1227 := by rw [eI1227]; exact FC_pp fI1224 (by decide)
  have fQ1234 : FQ g [1, 2, 3, 4, 5, 6, 8, 9] I I1227 := by rw [eI1227]; exact FQ_pp0 fQ1225 (by decide)
  refine WP_aload_n dX11_open_28 rfl ?_
  refine WP_callV0 (k := 11) dX11_open_29 ⟨⟨⟨by decide, by decide⟩, zX11_scan⟩, lX11_63, by decide, rfl, vX11_scan.1, vX11_scan.2⟩ (ly_is hy 0 11 rfl) (em_scan hy hr   (B := B) (n := n) (p := 0) ⟨by rw [e1228]; exact h1, fun q hq => by rw [FC_at hy fI1233 1 (by decide) (by decide)]; exact hbt q hq⟩ hn hB (by rw [e1230]; omega) (by omega)) (Nat.le_of_ble_eq_true rfl) ?_
  intro r I1236 J1237 Ra hq
  obtain ⟨ec, g1238, g1239, g1240, er, p1235⟩ := hq
  rw [ec, er]
  clear ec er Ra r
  have e1241 : I1236 (ad g 0) 2 = w1186 := by rw [g1240 2 (by decide)]; exact e1228
  have e1242 : I1236 (ad g 0) 1 = v1199 := by rw [g1240 1 (by decide)]; exact e1229
  have e1243 : I1236 (ad g 0) 8 = v1217 := by rw [g1240 8 (by decide)]; exact e1231
  have e1244 : I1236 (ad g 0) 9 = v1226 := by rw [g1240 9 (by decide)]; exact e1232
  have fI1245 : FC g [0] I I1236 := FC_tr fI1233 (FC_mono g1238 (by decide))
  have fJ1246 : FC g [] J J1237 := FC_tr fJ0 (FC_mono g1239 (by decide))
  have fQ1247 : FQ g [1, 2, 3, 4, 5, 6, 8, 9] I I1236 := FQ_tr fQ1234 (FQ_mono g1240 (by decide))
  obtain ⟨w1248, ew1248⟩ : ∃ w : Int32, I1236 (ad g 0) 4 = w := ⟨_, rfl⟩
  try simp only [e1242, e1241, ew1248, e1243, e1244, ew1186, ew1187, ew1188, ew1189, ew1190] at p1235
  exact WP_vret dX11_open_32 rfl ⟨rfl, fI1245, fJ1246, fQ1247, rfl, by
    try simp only [e1241, e1242, e1243, e1244, ew1248, ew1186, ew1187, ew1188, ew1189, ew1190]
    exact ⟨p1235.1, p1235.2, by omega, by omega, by omega⟩⟩
