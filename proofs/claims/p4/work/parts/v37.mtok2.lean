/-- a fault of the reference; none new -/
def ERM (g : GG) (k pl : Nat) (I : pI) : Prop := (I (ad g 0) 8).toInt = (k : Int) ∧ (I (ad g 0) 9).toInt = (pl : Int)
def NOF (g : GG) (I I' : pI) : Prop := I' (ad g 0) 8 = I (ad g 0) 8 ∧ I' (ad g 0) 9 = I (ad g 0) 9
theorem cum_fq {g : GG} {B : Nat → Int} {n p : Nat} {I I' : pI} {Q : List Nat} (h : CUM g B n p I) (hf : FQ g Q I I') (hq : 3 ∉ Q ∧ 4 ∉ Q ∧ 5 ∉ Q ∧ 6 ∉ Q) : CUM g B n p I' := by
  unfold CUM
  rw [hf 3 hq.1, hf 4 hq.2.1, hf 5 hq.2.2.1, hf 6 hq.2.2.2]
  exact h
theorem tpm_fq {g : GG} (hy : Ly g) {B : Nat → Int} {n : Nat} {I I' : pI} {C Q : List Nat} (h : TPM g B n I) (hf : FC g C I I') (hC : ∀ i ∈ C, 1 ≠ i ∧ i < 49) (hq : FQ g Q I I') (h2 : 2 ∉ Q) : TPM g B n I' := ⟨by rw [hq 2 h2]; exact h.1, fun q hl => by rw [FC_at hy hf 1 (by decide) hC]; exact h.2 q hl⟩
/-- a name of the reference's, and the word that it is of -/
def NMM (g : GG) (c b k : Nat) (nm : Nat → Int) (J : pJ) : Prop := ∀ q, q < k → (J (ad g c) q).toInt = c5 8 (nm (b + q)) ∧ okW 8 (nm (b + q))
theorem tok_w {B : Nat → Int} {n p : Nat} (hp : p ≤ n) (h : tK B n p = 1) : okW 8 (tW B n p) ∧ c5 8 (tW B n p) = tM B n p ∧ tT B n p - tF B n p ≤ 8 ∧ (∀ q, tF B n p ≤ q → q < tT B n p → 97 ≤ B q ∧ B q ≤ 122) := by
  have hn : tF B n p ≠ n := by intro e; rw [(tok_end e).2] at h; exact absurd h (by decide)
  have hl : bL (B (tF B n p)) = true := by
    cases hb : bL (B (tF B n p)) with
    | true => rfl
    | false =>
      cases hd : bD (B (tF B n p)) with
      | true => rw [(tok_dig rfl hn hb hd).2] at h; split at h <;> exact absurd h (by decide)
      | false => rw [(tok_oth rfl hn hb hd).2] at h; split at h <;> exact absurd h (by decide)
  have tk := tok_let rfl hn hl
  rw [tk.2] at h
  have h8 : sp bL B (n - tF B n p) (tF B n p) - tF B n p ≤ 8 := by
    split at h
    · exact absurd h (by decide)
    · omega
  have hle := sp_le bL B (n - tF B n p) (tF B n p)
  have hall : ∀ q, tF B n p ≤ q → q < tT B n p → 97 ≤ B q ∧ B q ≤ 122 := fun q h1 h2 => of_bL (sp_all bL B _ _ q h1 (by rw [tk.1] at h2; exact h2))
  have hk := wI_ok (B := B) (a := tF B n p) (k := tT B n p - tF B n p) (fun q h1 h2 => hall q h1 (by omega))
  have hu := okW_up (m := 8) (by rw [tk.1]; exact h8) hk.1
  refine ⟨hu.1, hu.2.trans hk.2, by rw [tk.1]; exact h8, hall⟩
theorem p32 : ∀ k, k < 8 → (32 : Int) ^ k ≤ 34359738368 := by decide +kernel
set_option maxHeartbeats 4000000 in
set_option maxRecDepth 100000 in
theorem em_bad {g : GG} {I : pI} {J : pJ} {R : pR} (hy : Ly g) (hr : Rf g R)  (k : Int32)  : SP g mX11_bad [.ref (ad g 0), .int k] I J R (fun r I' J' R' => R' = R ∧ FC g [0] I I' ∧ FC g [] J J' ∧ FQ g [8, 9] I I' ∧ ∃ v : Int32, r = some (.int v) ∧ (v.toInt = 0 ∧ I' (ad g 0) 8 = k ∧ I' (ad g 0) 9 = I (ad g 0) 3)) := by
  refine SP_of ⟨by decide, rfl⟩ (Nat.le_of_ble_eq_true rfl) ?_
  have fI0 : FC g [0] I I := FC_rf
  have fJ0 : FC g [] J J := FC_rf
  have fQ0 : FQ g [8, 9] I I := FQ_rf
  obtain ⟨w457, ew457⟩ : ∃ w : Int32, I (ad g 0) 3 = w := ⟨_, rfl⟩
  refine WP_aload_n dX11_bad_0 rfl ?_
  refine WP_iload_n dX11_bad_1 rfl ?_
  refine WQ_puti dX11_bad_2 fX11_3 rfl rfl (ly_is hy 0 11 rfl) (fun I458 eI458 => ?_)
  have e459 : I458 (ad g 0) 3 = w457 := by rw [eI458, pp_ne _ _ (Or.inr (by decide))]; exact ew457
  have e460 : I458 (ad g 0) 8 = k := by rw [eI458, pp_self]
  have fI461 : FC g [0] I I458 := by rw [eI458]; exact FC_pp fI0 (by decide)
  have fQ462 : FQ g [8, 9] I I458 := by rw [eI458]; exact FQ_pp0 fQ0 (by decide)
  refine WP_aload_n dX11_bad_5 rfl ?_
  refine WP_aload_n dX11_bad_6 rfl ?_
  refine WQ_getim dX11_bad_7 fX11_7 rfl (ly_is hy 0 11 rfl) e459 ?_
  refine WQ_puti dX11_bad_10 fX11_10 rfl rfl (ly_is hy 0 11 rfl) (fun I463 eI463 => ?_)
  have e464 : I463 (ad g 0) 3 = w457 := by rw [eI463, pp_ne _ _ (Or.inr (by decide))]; exact e459
  have e465 : I463 (ad g 0) 8 = k := by rw [eI463, pp_ne _ _ (Or.inr (by decide))]; exact e460
  have e466 : I463 (ad g 0) 9 = w457 := by rw [eI463, pp_self]
  have fI467 : FC g [0] I I463 := by rw [eI463]; exact FC_pp fI461 (by decide)
  have fQ468 : FQ g [8, 9] I I463 := by rw [eI463]; exact FQ_pp0 fQ462 (by decide)
  refine WQ_iconst (0) (0) dX11_bad_13 rfl rfl (fun v469 hv469 => ?_)
  exact WP_iret dX11_bad_14 rfl ⟨rfl, fI467, fJ0, fQ468, v469, rfl, by
    try simp only [e464, e465, e466, ew457]
    exact ⟨by omega, rfl, rfl⟩⟩
set_option maxHeartbeats 4000000 in
set_option maxRecDepth 100000 in
theorem em_in {g : GG} {I : pI} {J : pJ} {R : pR} (hy : Ly g) (hr : Rf g R)  (a : Int64) (lo : Int64) (hi : Int64)  : SP g mX11_in [.long a, .long lo, .long hi] I J R (fun r I' J' R' => (I' = I ∧ J' = J ∧ R' = R) ∧ ∃ v : Int32, r = some (.int v) ∧ ((v.toInt = 1 ∧ lo.toInt ≤ a.toInt ∧ a.toInt ≤ hi.toInt) ∨ (v.toInt = 0 ∧ ¬ (lo.toInt ≤ a.toInt ∧ a.toInt ≤ hi.toInt)))) := by
  refine SP_of ⟨by decide, rfl⟩ (Nat.le_of_ble_eq_true rfl) ?_
  refine WP_lload_n dX11_in_0 rfl ?_
  refine WP_lload_n dX11_in_1 rfl ?_
  refine WP_lcmp dX11_in_2 ?_
  obtain ⟨v470, xv470⟩ : ∃ v : Int32, v = lg_cmp a lo := ⟨_, rfl⟩
  rw [← xv470]
  have hv470 := cmp_z a lo v470 xv470
  refine WQ_if_lt 17 dX11_in_3 rfl (fun c470 => ?_) (fun c470 => ?_)
  · refine WQ_iconst (0) (0) dX11_in_17 rfl rfl (fun v472 hv472 => ?_)
    exact WP_iret dX11_in_18 rfl ⟨⟨rfl, rfl, rfl⟩, v472, rfl, by
      first
      | exact Or.inl ⟨by omega, by omega, by omega⟩
      | exact Or.inr ⟨by omega, by omega⟩⟩
  · refine WP_lload_n dX11_in_6 rfl ?_
    refine WP_lload dX11_in_7 rfl ?_
    refine WP_lcmp dX11_in_9 ?_
    obtain ⟨v473, xv473⟩ : ∃ v : Int32, v = lg_cmp a hi := ⟨_, rfl⟩
    rw [← xv473]
    have hv473 := cmp_z a hi v473 xv473
    refine WQ_if_gt 17 dX11_in_10 rfl (fun c473 => ?_) (fun c473 => ?_)
    · refine WQ_iconst (0) (0) dX11_in_17 rfl rfl (fun v475 hv475 => ?_)
      exact WP_iret dX11_in_18 rfl ⟨⟨rfl, rfl, rfl⟩, v475, rfl, by
        first
        | exact Or.inl ⟨by omega, by omega, by omega⟩
        | exact Or.inr ⟨by omega, by omega⟩⟩
    · refine WQ_iconst (1) (1) dX11_in_13 rfl rfl (fun v476 hv476 => ?_)
      refine WP_goto 18 dX11_in_14 rfl ?_
      exact WP_iret dX11_in_18 rfl ⟨⟨rfl, rfl, rfl⟩, v476, rfl, by
        first
        | exact Or.inl ⟨by omega, by omega, by omega⟩
        | exact Or.inr ⟨by omega, by omega⟩⟩
set_option maxHeartbeats 4000000 in
set_option maxRecDepth 100000 in
theorem em_peek {g : GG} {I : pI} {J : pJ} {R : pR} (hy : Ly g) (hr : Rf g R) {B : Nat → Int} {n p : Nat} (lo : Int32) (hi : Int32) (hT : TPM g B n I) (hC : CUM g B n p I) (hn : n ≤ 900) (hB : ∀ q, -128 ≤ B q ∧ B q ≤ 127) (hp : p ≤ n) : SP g mX11_peek [.ref (ad g 0), .int lo, .int hi] I J R (fun r I' J' R' => R' = R ∧ FC g [0] I I' ∧ FC g [] J J' ∧ FQ g [7, 8, 9] I I' ∧ ∃ v : Int32, r = some (.int v) ∧ ((v.toInt = 0 ∧ tK B n p ≠ 2 ∧ ERM g 1 (tF B n p) I') ∨ (v.toInt = 0 ∧ tK B n p = 2 ∧ (tV B n p < lo.toInt ∨ hi.toInt < tV B n p) ∧ ERM g 2 (tF B n p) I') ∨ (v.toInt = 1 ∧ tK B n p = 2 ∧ lo.toInt ≤ tV B n p ∧ tV B n p ≤ hi.toInt ∧ (I' (ad g 0) 7).toInt = tV B n p ∧ NOF g I I'))) := by
  refine SP_of ⟨by decide, rfl⟩ (Nat.le_of_ble_eq_true rfl) ?_
  have fI0 : FC g [0] I I := FC_rf
  have fJ0 : FC g [] J J := FC_rf
  have fQ0 : FQ g [7, 8, 9] I I := FQ_rf
  have hC2 := hC
  have hT1 := hT.1
  obtain ⟨c3, c4, c5, c6⟩ := hC2
  obtain ⟨w477, ew477⟩ : ∃ w : Int32, I (ad g 0) 2 = w := ⟨_, rfl⟩
  obtain ⟨w478, ew478⟩ : ∃ w : Int32, I (ad g 0) 3 = w := ⟨_, rfl⟩
  obtain ⟨w479, ew479⟩ : ∃ w : Int32, I (ad g 0) 4 = w := ⟨_, rfl⟩
  obtain ⟨w480, ew480⟩ : ∃ w : Int32, I (ad g 0) 5 = w := ⟨_, rfl⟩
  obtain ⟨w481, ew481⟩ : ∃ w : Int32, I (ad g 0) 6 = w := ⟨_, rfl⟩
  obtain ⟨w482, ew482⟩ : ∃ w : Int32, I (ad g 0) 8 = w := ⟨_, rfl⟩
  obtain ⟨w483, ew483⟩ : ∃ w : Int32, I (ad g 0) 9 = w := ⟨_, rfl⟩
  try simp only [ew477, ew478, ew479, ew480, ew481, ew482, ew483] at c3 c4 c5 c6 hT1
  refine WP_aload_n dX11_peek_0 rfl ?_
  refine WQ_getim dX11_peek_1 fX11_27 rfl (ly_is hy 0 11 rfl) ew480 ?_
  refine WQ_iconst (2) (2) dX11_peek_4 rfl rfl (fun v484 hv484 => ?_)
  refine WQ_icmp_eq 14 dX11_peek_5 rfl (fun c484 => ?_) (fun c484 => ?_)
  · have hk : tK B n p = 2 := by omega
    have hv := c6 hk
    refine WP_aload_n dX11_peek_14 rfl ?_
    refine WQ_getim dX11_peek_15 fX11_37 rfl (ly_is hy 0 11 rfl) ew481 ?_
    refine WP_i2l dX11_peek_18 ?_
    obtain ⟨l486, xl486⟩ : ∃ v : Int64, v = w481.toInt64 := ⟨_, rfl⟩
    rw [← xl486]
    have hl486 : l486.toInt = w481.toInt := by rw [xl486]; exact t64 _
    refine WP_iload_n dX11_peek_19 rfl ?_
    refine WP_i2l dX11_peek_20 ?_
    obtain ⟨l487, xl487⟩ : ∃ v : Int64, v = lo.toInt64 := ⟨_, rfl⟩
    rw [← xl487]
    have hl487 : l487.toInt = lo.toInt := by rw [xl487]; exact t64 _
    refine WP_iload_n dX11_peek_21 rfl ?_
    refine WP_i2l dX11_peek_22 ?_
    obtain ⟨l488, xl488⟩ : ∃ v : Int64, v = hi.toInt64 := ⟨_, rfl⟩
    rw [← xl488]
    have hl488 : l488.toInt = hi.toInt := by rw [xl488]; exact t64 _
    refine WP_callS3 dX11_peek_23 ⟨⟨⟨by decide, by decide⟩, zX11_in⟩, lX11_52, tX11_in⟩ (em_in hy hr _ _ _  ) (Nat.le_of_ble_eq_true rfl) ?_
    intro r Ia Ja Ra hq
    obtain ⟨⟨ea, eb, ec⟩, v490, er, p489⟩ := hq
    rw [ea, eb, ec, er]
    clear ea eb ec er Ia Ja Ra r
    refine WQ_if_ne 35 dX11_peek_26 rfl (fun c490 => ?_) (fun c490 => ?_)
    · refine WP_aload_n dX11_peek_35 rfl ?_
      refine WP_aload_n dX11_peek_36 rfl ?_
      refine WQ_getim dX11_peek_37 fX11_37 rfl (ly_is hy 0 11 rfl) ew481 ?_
      refine WQ_puti dX11_peek_40 fX11_56 rfl rfl (ly_is hy 0 11 rfl) (fun I492 eI492 => ?_)
      have e493 : I492 (ad g 0) 2 = w477 := by rw [eI492, pp_ne _ _ (Or.inr (by decide))]; exact ew477
      have e494 : I492 (ad g 0) 3 = w478 := by rw [eI492, pp_ne _ _ (Or.inr (by decide))]; exact ew478
      have e495 : I492 (ad g 0) 4 = w479 := by rw [eI492, pp_ne _ _ (Or.inr (by decide))]; exact ew479
      have e496 : I492 (ad g 0) 5 = w480 := by rw [eI492, pp_ne _ _ (Or.inr (by decide))]; exact ew480
      have e497 : I492 (ad g 0) 6 = w481 := by rw [eI492, pp_ne _ _ (Or.inr (by decide))]; exact ew481
      have e498 : I492 (ad g 0) 8 = w482 := by rw [eI492, pp_ne _ _ (Or.inr (by decide))]; exact ew482
      have e499 : I492 (ad g 0) 9 = w483 := by rw [eI492, pp_ne _ _ (Or.inr (by decide))]; exact ew483
      have e500 : I492 (ad g 0) 7 = w481 := by rw [eI492, pp_self]
      have fI501 : FC g [0] I I492 := by rw [eI492]; exact FC_pp fI0 (by decide)
      have fQ502 : FQ g [7, 8, 9] I I492 := by rw [eI492]; exact FQ_pp0 fQ0 (by decide)
      refine WQ_iconst (1) (1) dX11_peek_43 rfl rfl (fun v503 hv503 => ?_)
      exact WP_iret dX11_peek_44 rfl ⟨rfl, fI501, fJ0, fQ502, v503, rfl, by
        try simp only [e493, e494, e495, e496, e497, e498, e499, e500, ew477, ew478, ew479, ew480, ew481, ew482, ew483]
        refine Or.inr (Or.inr ⟨by omega, hk, by omega, by omega, by omega, ?_⟩)
        unfold NOF
        try simp only [e498, e499]
        exact ⟨by assumption, by assumption⟩⟩
    · refine WP_aload_n dX11_peek_29 rfl ?_
      refine WQ_iconst (2) (2) dX11_peek_30 rfl rfl (fun v504 hv504 => ?_)
      refine WP_callV1 dX11_peek_31 ⟨⟨⟨by decide, by decide⟩, zX11_bad⟩, lX11_49, tX11_bad⟩ (ly_is hy 0 11 rfl) (em_bad hy hr _  ) (Nat.le_of_ble_eq_true rfl) ?_
      intro r I507 J508 Ra hq
      obtain ⟨ec, g509, g510, g511, v506, er, p505⟩ := hq
      rw [ec, er]
      clear ec er Ra r
      have e512 : I507 (ad g 0) 2 = w477 := by rw [g511 2 (by decide)]; exact ew477
      have e513 : I507 (ad g 0) 3 = w478 := by rw [g511 3 (by decide)]; exact ew478
      have e514 : I507 (ad g 0) 4 = w479 := by rw [g511 4 (by decide)]; exact ew479
      have e515 : I507 (ad g 0) 5 = w480 := by rw [g511 5 (by decide)]; exact ew480
      have e516 : I507 (ad g 0) 6 = w481 := by rw [g511 6 (by decide)]; exact ew481
      have fI517 : FC g [0] I I507 := FC_tr fI0 (FC_mono g509 (by decide))
      have fJ518 : FC g [] J J508 := FC_tr fJ0 (FC_mono g510 (by decide))
      have fQ519 : FQ g [7, 8, 9] I I507 := FQ_tr fQ0 (FQ_mono g511 (by decide))
      obtain ⟨w520, ew520⟩ : ∃ w : Int32, I507 (ad g 0) 8 = w := ⟨_, rfl⟩
      obtain ⟨w521, ew521⟩ : ∃ w : Int32, I507 (ad g 0) 9 = w := ⟨_, rfl⟩
      try simp only [e512, e513, e514, e515, e516, ew520, ew521, ew477, ew478, ew479, ew480, ew481, ew482, ew483] at p505
      obtain ⟨z0, z8, z9⟩ := p505
      exact WP_iret dX11_peek_34 rfl ⟨rfl, fI517, fJ518, fQ519, v506, rfl, by
        try simp only [e512, e513, e514, e515, e516, ew520, ew521, ew477, ew478, ew479, ew480, ew481, ew482, ew483]
        refine Or.inr (Or.inl ⟨by omega, hk, by omega, ?_⟩)
        unfold ERM
        try simp only [ew520, ew521]
        exact ⟨by rw [z8]; omega, by rw [z9]; omega⟩⟩
  · refine WP_aload_n dX11_peek_8 rfl ?_
    refine WQ_iconst (1) (1) dX11_peek_9 rfl rfl (fun v522 hv522 => ?_)
    refine WP_callV1 dX11_peek_10 ⟨⟨⟨by decide, by decide⟩, zX11_bad⟩, lX11_49, tX11_bad⟩ (ly_is hy 0 11 rfl) (em_bad hy hr _  ) (Nat.le_of_ble_eq_true rfl) ?_
    intro r I525 J526 Ra hq
    obtain ⟨ec, g527, g528, g529, v524, er, p523⟩ := hq
    rw [ec, er]
    clear ec er Ra r
    have e530 : I525 (ad g 0) 2 = w477 := by rw [g529 2 (by decide)]; exact ew477
    have e531 : I525 (ad g 0) 3 = w478 := by rw [g529 3 (by decide)]; exact ew478
    have e532 : I525 (ad g 0) 4 = w479 := by rw [g529 4 (by decide)]; exact ew479
    have e533 : I525 (ad g 0) 5 = w480 := by rw [g529 5 (by decide)]; exact ew480
    have e534 : I525 (ad g 0) 6 = w481 := by rw [g529 6 (by decide)]; exact ew481
    have fI535 : FC g [0] I I525 := FC_tr fI0 (FC_mono g527 (by decide))
    have fJ536 : FC g [] J J526 := FC_tr fJ0 (FC_mono g528 (by decide))
    have fQ537 : FQ g [7, 8, 9] I I525 := FQ_tr fQ0 (FQ_mono g529 (by decide))
    obtain ⟨w538, ew538⟩ : ∃ w : Int32, I525 (ad g 0) 8 = w := ⟨_, rfl⟩
    obtain ⟨w539, ew539⟩ : ∃ w : Int32, I525 (ad g 0) 9 = w := ⟨_, rfl⟩
    try simp only [e530, e531, e532, e533, e534, ew538, ew539, ew477, ew478, ew479, ew480, ew481, ew482, ew483] at p523
    obtain ⟨z0, z8, z9⟩ := p523
    exact WP_iret dX11_peek_13 rfl ⟨rfl, fI535, fJ536, fQ537, v524, rfl, by
      try simp only [e530, e531, e532, e533, e534, ew538, ew539, ew477, ew478, ew479, ew480, ew481, ew482, ew483]
      refine Or.inl ⟨by omega, by omega, ?_⟩
      unfold ERM
      try simp only [ew538, ew539]
      exact ⟨by rw [z8]; omega, by rw [z9]; omega⟩⟩
set_option maxHeartbeats 4000000 in
set_option maxRecDepth 100000 in
theorem em_name {g : GG} {I : pI} {J : pJ} {R : pR} (hy : Ly g) (hr : Rf g R) {B : Nat → Int} {n p : Nat}  (hT : TPM g B n I) (hC : CUM g B n p I) (hn : n ≤ 900) (hB : ∀ q, -128 ≤ B q ∧ B q ≤ 127) (hp : p ≤ n) (hk : tK B n p = 1) : SP g mX11_name [.ref (ad g 0)] I J R (fun r I' J' R' => (I' = I ∧ J' = J ∧ R' = R) ∧ ∃ v : Int64, r = some (.long v) ∧ (v.toInt = tM B n p)) := by
  refine SP_of ⟨by decide, rfl⟩ (Nat.le_of_ble_eq_true rfl) ?_
  have hT1 := hT.1
  have c3 := hC.1
  have c4 := hC.2.1
  obtain ⟨w540, ew540⟩ : ∃ w : Int32, I (ad g 0) 2 = w := ⟨_, rfl⟩
  obtain ⟨w541, ew541⟩ : ∃ w : Int32, I (ad g 0) 3 = w := ⟨_, rfl⟩
  obtain ⟨w542, ew542⟩ : ∃ w : Int32, I (ad g 0) 4 = w := ⟨_, rfl⟩
  try simp only [ew540, ew541, ew542] at c3 c4 hT1
  obtain ⟨hw1, hw2, hw3, hw4⟩ := tok_w hp hk
  have tl := tT_le B hp
  refine WP_lconst (0) dX11_name_0 rfl ?_
  obtain ⟨l543, hl543, el543⟩ : ∃ v : Int64, v.toInt = 0 ∧ (0 : Int64) = v := ⟨_, rfl, rfl⟩
  rw [el543]
  refine WP_lstore_n (ls' := [(0, _), (1, _)]) dX11_name_1 (by decide) rfl ?_
  refine WP_aload_n dX11_name_2 rfl ?_
  refine WQ_getim dX11_name_3 fX11_7 rfl (ly_is hy 0 11 rfl) ew541 ?_
  refine WP_istore_n (ls' := [(0, _), (1, _), (3, _)]) dX11_name_6 (by decide) rfl ?_
  have lp546 : ∀ (mz : Nat) (l544 : Int64) (i545 : Int32), (∃ j : Nat, i545.toInt = (j : Int) ∧ tF B n p ≤ j ∧ j ≤ tT B n p ∧ l544.toInt = w5 B (tF B n p) (j - tF B n p)) → (tT B n p - i545.toInt.toNat) < mz → WP g mX11_name 7 [(0, .ref (ad g 0)), (1, .long l544), (3, .int i545)] [] I J R (fun r I' J' R' => (I' = I ∧ J' = J ∧ R' = R) ∧ ∃ v : Int64, r = some (.long v) ∧ (v.toInt = tM B n p)) := by
    intro mz
    induction mz with
    | zero =>
      intro l544 i545  hvlp546 hmlp546
      exact absurd hmlp546 (Nat.not_lt_zero _)
    | succ mz ihlp546 =>
      intro l544 i545  hvlp546 hmlp546
      try simp only [ew540, ew541, ew542] at hvlp546 hmlp546
      obtain ⟨j, ij, ij1, ij2, iw⟩ := hvlp546
      refine WP_iload_n dX11_name_7 rfl ?_
      refine WP_aload_n dX11_name_8 rfl ?_
      refine WQ_getim dX11_name_9 fX11_20 rfl (ly_is hy 0 11 rfl) ew542 ?_
      refine WQ_icmp_ge 35 dX11_name_12 rfl (fun c546 => ?_) (fun c546 => ?_)
      · refine WP_lload_n dX11_name_35 rfl ?_
        exact WP_lret dX11_name_36 rfl ⟨⟨rfl, rfl, rfl⟩, l544, rfl, by
          try simp only [ew540, ew541, ew542]
          rw [iw]
          unfold tM
          rw [show tT B n p = j by omega]⟩
      · have hj := hw4 j (by omega) (by omega)
        have hwb := w5_b (B := B) (a := tF B n p) (k := j - tF B n p) (fun q h1 h2 => hw4 q h1 (by omega))
        have hp32 := p32 (j - tF B n p) (by omega)
        refine WP_lload_n dX11_name_15 rfl ?_
        refine WQ_iconst (5) (5) dX11_name_16 rfl rfl (fun v548 hv548 => ?_)
        refine WP_lshl dX11_name_17 ?_
        obtain ⟨l549, xl549⟩ : ∃ v : Int64, v = l544 <<< (v548.toInt64 &&& 63) := ⟨_, rfl⟩
        rw [← xl549]
        refine WP_aload_n dX11_name_18 rfl ?_
        refine WP_iload_n dX11_name_19 rfl ?_
        refine WP_callV1 dX11_name_20 ⟨⟨⟨by decide, by decide⟩, zX11_byteAt⟩, lX11_23, tX11_byteAt⟩ (ly_is hy 0 11 rfl) (em_byteAt hy hr _  (q := j) hT hn (by omega)) (Nat.le_of_ble_eq_true rfl) ?_
        intro r Ia Ja Ra hq
        obtain ⟨⟨ea, eb, ec⟩, v551, er, p550⟩ := hq
        rw [ea, eb, ec, er]
        clear ea eb ec er Ia Ja Ra r
        have hq20 : v551.toInt = B j := by rw [p550]; unfold bA; rw [if_pos (by omega)]; omega
        refine WQ_bipush (96) (96) dX11_name_23 rfl rfl (fun v552 hv552 => ?_)
        refine WQ_isub dX11_name_25 (by omega) (by omega) (fun v553 hv553 => ?_)
        have hbj : v553.toInt = B j - 96 := by omega
        refine WP_i2l dX11_name_26 ?_
        obtain ⟨l554, xl554⟩ : ∃ v : Int64, v = v553.toInt64 := ⟨_, rfl⟩
        rw [← xl554]
        have hl554 : l554.toInt = v553.toInt := by rw [xl554]; exact t64 _
        refine WP_lor dX11_name_27 ?_
        obtain ⟨l555, xl555⟩ : ∃ v : Int64, v = l549 ||| l554 := ⟨_, rfl⟩
        rw [← xl555]
        refine WP_lstore_n (ls' := [(0, _), (1, _), (3, _)]) dX11_name_28 (by decide) rfl ?_
        refine WP_iinc (ls' := [(0, _), (1, _), (3, _)]) dX11_name_29 rfl (by decide) rfl ?_
        have hv556 : (i545 + Int32.ofInt (1)).toInt = i545.toInt + (1) := ia_n rfl (by omega) (by omega)
        generalize i545 + Int32.ofInt (1) = v556 at hv556 ⊢
        refine WP_goto 7 dX11_name_32 rfl ?_
        refine WP_sub (fc rfl (fc rfl (fc rfl fn))) (ihlp546 l555 v556  ?_ ?_)
        · try simp only [ew540, ew541, ew542]
          refine ⟨j + 1, by omega, by omega, by omega, ?_⟩
          rw [show j + 1 - tF B n p = (j - tF B n p) + 1 by omega, w5, show tF B n p + (j - tF B n p) = j by omega, ← iw, ← hbj, ← hl554]
          exact lsor5 hv548 xl549 xl555 (by omega) (by omega) (by omega) (by omega)
        · try simp only [ew540, ew541, ew542]
          omega
  refine WP_sub (fc rfl (fc rfl (fc rfl fn))) (lp546 _ l543 w541  ?_ (Nat.lt_succ_self _))
  · try simp only [ew540, ew541, ew542]
    refine ⟨tF B n p, by omega, Nat.le_refl _, tl.1, ?_⟩
    rw [Nat.sub_self]; show _ = (0 : Int); omega
set_option maxHeartbeats 4000000 in
set_option maxRecDepth 100000 in
theorem em_finda {g : GG} {I : pI} {J : pJ} {R : pR} (hy : Ly g) (hr : Rf g R) {B : Nat → Int} {n p b k : Nat} {nm : Nat → Int} (mn : Int32) (hT : TPM g B n I) (hC : CUM g B n p I) (hn : n ≤ 900) (hB : ∀ q, -128 ≤ B q ∧ B q ≤ 127) (hp : p ≤ n) (hk : tK B n p = 1) (hm : mn.toInt = (k : Int)) (hk4 : k ≤ 4) (hN : NMM g 2 b k nm J) : SP g mX11_find [.ref (ad g 0), .ref (ad g 2), .int mn] I J R (fun r I' J' R' => (I' = I ∧ J' = J ∧ R' = R) ∧ ∃ v : Int32, r = some (.int v) ∧ (v.toInt = fnd nm b (tW B n p) k 0)) := by
  refine SP_of ⟨by decide, rfl⟩ (Nat.le_of_ble_eq_true rfl) ?_
  obtain ⟨hw1, hw2, hw3, hw4⟩ := tok_w hp hk
  refine WQ_iconst (0) (0) dX11_find_0 rfl rfl (fun v557 hv557 => ?_)
  refine WP_istore_n (ls' := [(0, _), (1, _), (2, _), (3, _)]) dX11_find_1 (by decide) rfl ?_
  have lp559 : ∀ (mz : Nat) (i558 : Int32), (∃ j : Nat, i558.toInt = (j : Int) ∧ j ≤ k ∧ fnd nm b (tW B n p) (k - j) j = fnd nm b (tW B n p) k 0) → (k - i558.toInt.toNat) < mz → WP g mX11_find 2 [(0, .ref (ad g 0)), (1, .ref (ad g 2)), (2, .int mn), (3, .int i558)] [] I J R (fun r I' J' R' => (I' = I ∧ J' = J ∧ R' = R) ∧ ∃ v : Int32, r = some (.int v) ∧ (v.toInt = fnd nm b (tW B n p) k 0)) := by
    intro mz
    induction mz with
    | zero =>
      intro i558  hvlp559 hmlp559
      exact absurd hmlp559 (Nat.not_lt_zero _)
    | succ mz ihlp559 =>
      intro i558  hvlp559 hmlp559
      obtain ⟨j, ij, ijk, ifn⟩ := hvlp559
      refine WP_iload_n dX11_find_2 rfl ?_
      refine WP_iload_n dX11_find_3 rfl ?_
      refine WQ_icmp_ge 26 dX11_find_4 rfl (fun c559 => ?_) (fun c559 => ?_)
      · refine WQ_iconst (-1) (-1) dX11_find_26 rfl rfl (fun v561 hv561 => ?_)
        exact WP_iret dX11_find_27 rfl ⟨⟨rfl, rfl, rfl⟩, v561, rfl, by
          rw [← ifn, fnd_end (by omega)]; omega⟩
      · refine WP_aload_n dX11_find_7 rfl ?_
        refine WP_iload_n dX11_find_8 rfl ?_
        refine WE_la dX11_find_9 (ly_is hy 2 14 rfl) (ly_n hy 2 4 rfl) (by omega) (by omega) (fun l562 el562 => ?_)
        have hnj := hN j (by omega)
        rw [show j = i558.toInt.toNat by omega] at hnj
        rw [el562, ← show j = i558.toInt.toNat by omega] at hnj
        refine WP_aload_n dX11_find_10 rfl ?_
        refine WP_callV0 dX11_find_11 ⟨⟨⟨by decide, by decide⟩, zX11_name⟩, lX11_67, tX11_name⟩ (ly_is hy 0 11 rfl) (em_name hy hr   hT hC hn hB hp hk) (Nat.le_of_ble_eq_true rfl) ?_
        intro r Ia Ja Ra hq
        obtain ⟨⟨ea, eb, ec⟩, l564, er, p563⟩ := hq
        rw [ea, eb, ec, er]
        clear ea eb ec er Ia Ja Ra r
        refine WP_lcmp dX11_find_14 ?_
        obtain ⟨v565, xv565⟩ : ∃ v : Int32, v = lg_cmp l562 l564 := ⟨_, rfl⟩
        rw [← xv565]
        have hv565 := cmp_z l562 l564 v565 xv565
        refine WQ_if_ne 20 dX11_find_15 rfl (fun c565 => ?_) (fun c565 => ?_)
        · have hne : nm (b + j) ≠ tW B n p := by
            intro e
            rw [e, hw2] at hnj
            omega
          refine WP_iinc (ls' := [(0, _), (1, _), (2, _), (3, _)]) dX11_find_20 rfl (by decide) rfl ?_
          have hv567 : (i558 + Int32.ofInt (1)).toInt = i558.toInt + (1) := ia_n rfl (by omega) (by omega)
          generalize i558 + Int32.ofInt (1) = v567 at hv567 ⊢
          refine WP_goto 2 dX11_find_23 rfl ?_
          refine WP_sub (fc rfl (fc rfl (fc rfl (fc rfl fn)))) (ihlp559 v567  ?_ ?_)
          · refine ⟨j + 1, by omega, by omega, ?_⟩
            rw [← fnd_go (by omega) hne]; exact ifn
          · omega
        · have hey : nm (b + j) = tW B n p := c5_inj 8 _ _ hnj.2 hw1 (by rw [hw2, ← hnj.1]; omega)
          refine WP_iload_n dX11_find_18 rfl ?_
          exact WP_iret dX11_find_19 rfl ⟨⟨rfl, rfl, rfl⟩, i558, rfl, by
            rw [← ifn, fnd_at (by omega) hey]; omega⟩
  refine WP_sub (fc rfl (fc rfl (fc rfl (fc rfl fn)))) (lp559 _ v557  ?_ (Nat.lt_succ_self _))
  · exact ⟨0, by omega, by omega, rfl⟩
set_option maxHeartbeats 4000000 in
set_option maxRecDepth 100000 in
theorem em_findb {g : GG} {I : pI} {J : pJ} {R : pR} (hy : Ly g) (hr : Rf g R) {B : Nat → Int} {n p b k : Nat} {nm : Nat → Int} (mn : Int32) (hT : TPM g B n I) (hC : CUM g B n p I) (hn : n ≤ 900) (hB : ∀ q, -128 ≤ B q ∧ B q ≤ 127) (hp : p ≤ n) (hk : tK B n p = 1) (hm : mn.toInt = (k : Int)) (hk4 : k ≤ 3) (hN : NMM g 3 b k nm J) : SP g mX11_find [.ref (ad g 0), .ref (ad g 3), .int mn] I J R (fun r I' J' R' => (I' = I ∧ J' = J ∧ R' = R) ∧ ∃ v : Int32, r = some (.int v) ∧ (v.toInt = fnd nm b (tW B n p) k 0)) := by
  refine SP_of ⟨by decide, rfl⟩ (Nat.le_of_ble_eq_true rfl) ?_
  obtain ⟨hw1, hw2, hw3, hw4⟩ := tok_w hp hk
  refine WQ_iconst (0) (0) dX11_find_0 rfl rfl (fun v568 hv568 => ?_)
  refine WP_istore_n (ls' := [(0, _), (1, _), (2, _), (3, _)]) dX11_find_1 (by decide) rfl ?_
  have lp570 : ∀ (mz : Nat) (i569 : Int32), (∃ j : Nat, i569.toInt = (j : Int) ∧ j ≤ k ∧ fnd nm b (tW B n p) (k - j) j = fnd nm b (tW B n p) k 0) → (k - i569.toInt.toNat) < mz → WP g mX11_find 2 [(0, .ref (ad g 0)), (1, .ref (ad g 3)), (2, .int mn), (3, .int i569)] [] I J R (fun r I' J' R' => (I' = I ∧ J' = J ∧ R' = R) ∧ ∃ v : Int32, r = some (.int v) ∧ (v.toInt = fnd nm b (tW B n p) k 0)) := by
    intro mz
    induction mz with
    | zero =>
      intro i569  hvlp570 hmlp570
      exact absurd hmlp570 (Nat.not_lt_zero _)
    | succ mz ihlp570 =>
      intro i569  hvlp570 hmlp570
      obtain ⟨j, ij, ijk, ifn⟩ := hvlp570
      refine WP_iload_n dX11_find_2 rfl ?_
      refine WP_iload_n dX11_find_3 rfl ?_
      refine WQ_icmp_ge 26 dX11_find_4 rfl (fun c570 => ?_) (fun c570 => ?_)
      · refine WQ_iconst (-1) (-1) dX11_find_26 rfl rfl (fun v572 hv572 => ?_)
        exact WP_iret dX11_find_27 rfl ⟨⟨rfl, rfl, rfl⟩, v572, rfl, by
          rw [← ifn, fnd_end (by omega)]; omega⟩
      · refine WP_aload_n dX11_find_7 rfl ?_
        refine WP_iload_n dX11_find_8 rfl ?_
        refine WE_la dX11_find_9 (ly_is hy 3 14 rfl) (ly_n hy 3 3 rfl) (by omega) (by omega) (fun l573 el573 => ?_)
        have hnj := hN j (by omega)
        rw [show j = i569.toInt.toNat by omega] at hnj
        rw [el573, ← show j = i569.toInt.toNat by omega] at hnj
        refine WP_aload_n dX11_find_10 rfl ?_
        refine WP_callV0 dX11_find_11 ⟨⟨⟨by decide, by decide⟩, zX11_name⟩, lX11_67, tX11_name⟩ (ly_is hy 0 11 rfl) (em_name hy hr   hT hC hn hB hp hk) (Nat.le_of_ble_eq_true rfl) ?_
        intro r Ia Ja Ra hq
        obtain ⟨⟨ea, eb, ec⟩, l575, er, p574⟩ := hq
        rw [ea, eb, ec, er]
        clear ea eb ec er Ia Ja Ra r
        refine WP_lcmp dX11_find_14 ?_
        obtain ⟨v576, xv576⟩ : ∃ v : Int32, v = lg_cmp l573 l575 := ⟨_, rfl⟩
        rw [← xv576]
        have hv576 := cmp_z l573 l575 v576 xv576
        refine WQ_if_ne 20 dX11_find_15 rfl (fun c576 => ?_) (fun c576 => ?_)
        · have hne : nm (b + j) ≠ tW B n p := by
            intro e
            rw [e, hw2] at hnj
            omega
          refine WP_iinc (ls' := [(0, _), (1, _), (2, _), (3, _)]) dX11_find_20 rfl (by decide) rfl ?_
          have hv578 : (i569 + Int32.ofInt (1)).toInt = i569.toInt + (1) := ia_n rfl (by omega) (by omega)
          generalize i569 + Int32.ofInt (1) = v578 at hv578 ⊢
          refine WP_goto 2 dX11_find_23 rfl ?_
          refine WP_sub (fc rfl (fc rfl (fc rfl (fc rfl fn)))) (ihlp570 v578  ?_ ?_)
          · refine ⟨j + 1, by omega, by omega, ?_⟩
            rw [← fnd_go (by omega) hne]; exact ifn
          · omega
        · have hey : nm (b + j) = tW B n p := c5_inj 8 _ _ hnj.2 hw1 (by rw [hw2, ← hnj.1]; omega)
          refine WP_iload_n dX11_find_18 rfl ?_
          exact WP_iret dX11_find_19 rfl ⟨⟨rfl, rfl, rfl⟩, i569, rfl, by
            rw [← ifn, fnd_at (by omega) hey]; omega⟩
  refine WP_sub (fc rfl (fc rfl (fc rfl (fc rfl fn)))) (lp570 _ v568  ?_ (Nat.lt_succ_self _))
  · exact ⟨0, by omega, by omega, rfl⟩
set_option maxHeartbeats 4000000 in
set_option maxRecDepth 100000 in
theorem em_findc {g : GG} {I : pI} {J : pJ} {R : pR} (hy : Ly g) (hr : Rf g R) {B : Nat → Int} {n p b k : Nat} {nm : Nat → Int} (mn : Int32) (hT : TPM g B n I) (hC : CUM g B n p I) (hn : n ≤ 900) (hB : ∀ q, -128 ≤ B q ∧ B q ≤ 127) (hp : p ≤ n) (hk : tK B n p = 1) (hm : mn.toInt = (k : Int)) (hk4 : k ≤ 4) (hN : NMM g 4 b k nm J) : SP g mX11_find [.ref (ad g 0), .ref (ad g 4), .int mn] I J R (fun r I' J' R' => (I' = I ∧ J' = J ∧ R' = R) ∧ ∃ v : Int32, r = some (.int v) ∧ (v.toInt = fnd nm b (tW B n p) k 0)) := by
  refine SP_of ⟨by decide, rfl⟩ (Nat.le_of_ble_eq_true rfl) ?_
  obtain ⟨hw1, hw2, hw3, hw4⟩ := tok_w hp hk
  refine WQ_iconst (0) (0) dX11_find_0 rfl rfl (fun v579 hv579 => ?_)
  refine WP_istore_n (ls' := [(0, _), (1, _), (2, _), (3, _)]) dX11_find_1 (by decide) rfl ?_
  have lp581 : ∀ (mz : Nat) (i580 : Int32), (∃ j : Nat, i580.toInt = (j : Int) ∧ j ≤ k ∧ fnd nm b (tW B n p) (k - j) j = fnd nm b (tW B n p) k 0) → (k - i580.toInt.toNat) < mz → WP g mX11_find 2 [(0, .ref (ad g 0)), (1, .ref (ad g 4)), (2, .int mn), (3, .int i580)] [] I J R (fun r I' J' R' => (I' = I ∧ J' = J ∧ R' = R) ∧ ∃ v : Int32, r = some (.int v) ∧ (v.toInt = fnd nm b (tW B n p) k 0)) := by
    intro mz
    induction mz with
    | zero =>
      intro i580  hvlp581 hmlp581
      exact absurd hmlp581 (Nat.not_lt_zero _)
    | succ mz ihlp581 =>
      intro i580  hvlp581 hmlp581
      obtain ⟨j, ij, ijk, ifn⟩ := hvlp581
      refine WP_iload_n dX11_find_2 rfl ?_
      refine WP_iload_n dX11_find_3 rfl ?_
      refine WQ_icmp_ge 26 dX11_find_4 rfl (fun c581 => ?_) (fun c581 => ?_)
      · refine WQ_iconst (-1) (-1) dX11_find_26 rfl rfl (fun v583 hv583 => ?_)
        exact WP_iret dX11_find_27 rfl ⟨⟨rfl, rfl, rfl⟩, v583, rfl, by
          rw [← ifn, fnd_end (by omega)]; omega⟩
      · refine WP_aload_n dX11_find_7 rfl ?_
        refine WP_iload_n dX11_find_8 rfl ?_
        refine WE_la dX11_find_9 (ly_is hy 4 14 rfl) (ly_n hy 4 4 rfl) (by omega) (by omega) (fun l584 el584 => ?_)
        have hnj := hN j (by omega)
        rw [show j = i580.toInt.toNat by omega] at hnj
        rw [el584, ← show j = i580.toInt.toNat by omega] at hnj
        refine WP_aload_n dX11_find_10 rfl ?_
        refine WP_callV0 dX11_find_11 ⟨⟨⟨by decide, by decide⟩, zX11_name⟩, lX11_67, tX11_name⟩ (ly_is hy 0 11 rfl) (em_name hy hr   hT hC hn hB hp hk) (Nat.le_of_ble_eq_true rfl) ?_
        intro r Ia Ja Ra hq
        obtain ⟨⟨ea, eb, ec⟩, l586, er, p585⟩ := hq
        rw [ea, eb, ec, er]
        clear ea eb ec er Ia Ja Ra r
        refine WP_lcmp dX11_find_14 ?_
        obtain ⟨v587, xv587⟩ : ∃ v : Int32, v = lg_cmp l584 l586 := ⟨_, rfl⟩
        rw [← xv587]
        have hv587 := cmp_z l584 l586 v587 xv587
        refine WQ_if_ne 20 dX11_find_15 rfl (fun c587 => ?_) (fun c587 => ?_)
        · have hne : nm (b + j) ≠ tW B n p := by
            intro e
            rw [e, hw2] at hnj
            omega
          refine WP_iinc (ls' := [(0, _), (1, _), (2, _), (3, _)]) dX11_find_20 rfl (by decide) rfl ?_
          have hv589 : (i580 + Int32.ofInt (1)).toInt = i580.toInt + (1) := ia_n rfl (by omega) (by omega)
          generalize i580 + Int32.ofInt (1) = v589 at hv589 ⊢
          refine WP_goto 2 dX11_find_23 rfl ?_
          refine WP_sub (fc rfl (fc rfl (fc rfl (fc rfl fn)))) (ihlp581 v589  ?_ ?_)
          · refine ⟨j + 1, by omega, by omega, ?_⟩
            rw [← fnd_go (by omega) hne]; exact ifn
          · omega
        · have hey : nm (b + j) = tW B n p := c5_inj 8 _ _ hnj.2 hw1 (by rw [hw2, ← hnj.1]; omega)
          refine WP_iload_n dX11_find_18 rfl ?_
          exact WP_iret dX11_find_19 rfl ⟨⟨rfl, rfl, rfl⟩, i580, rfl, by
            rw [← ifn, fnd_at (by omega) hey]; omega⟩
  refine WP_sub (fc rfl (fc rfl (fc rfl (fc rfl fn)))) (lp581 _ v579  ?_ (Nat.lt_succ_self _))
  · exact ⟨0, by omega, by omega, rfl⟩
set_option maxHeartbeats 4000000 in
set_option maxRecDepth 100000 in
theorem em_findd {g : GG} {I : pI} {J : pJ} {R : pR} (hy : Ly g) (hr : Rf g R) {B : Nat → Int} {n p b k : Nat} {nm : Nat → Int} (mn : Int32) (hT : TPM g B n I) (hC : CUM g B n p I) (hn : n ≤ 900) (hB : ∀ q, -128 ≤ B q ∧ B q ≤ 127) (hp : p ≤ n) (hk : tK B n p = 1) (hm : mn.toInt = (k : Int)) (hk4 : k ≤ 3) (hN : NMM g 5 b k nm J) : SP g mX11_find [.ref (ad g 0), .ref (ad g 5), .int mn] I J R (fun r I' J' R' => (I' = I ∧ J' = J ∧ R' = R) ∧ ∃ v : Int32, r = some (.int v) ∧ (v.toInt = fnd nm b (tW B n p) k 0)) := by
  refine SP_of ⟨by decide, rfl⟩ (Nat.le_of_ble_eq_true rfl) ?_
  obtain ⟨hw1, hw2, hw3, hw4⟩ := tok_w hp hk
  refine WQ_iconst (0) (0) dX11_find_0 rfl rfl (fun v590 hv590 => ?_)
  refine WP_istore_n (ls' := [(0, _), (1, _), (2, _), (3, _)]) dX11_find_1 (by decide) rfl ?_
  have lp592 : ∀ (mz : Nat) (i591 : Int32), (∃ j : Nat, i591.toInt = (j : Int) ∧ j ≤ k ∧ fnd nm b (tW B n p) (k - j) j = fnd nm b (tW B n p) k 0) → (k - i591.toInt.toNat) < mz → WP g mX11_find 2 [(0, .ref (ad g 0)), (1, .ref (ad g 5)), (2, .int mn), (3, .int i591)] [] I J R (fun r I' J' R' => (I' = I ∧ J' = J ∧ R' = R) ∧ ∃ v : Int32, r = some (.int v) ∧ (v.toInt = fnd nm b (tW B n p) k 0)) := by
    intro mz
    induction mz with
    | zero =>
      intro i591  hvlp592 hmlp592
      exact absurd hmlp592 (Nat.not_lt_zero _)
    | succ mz ihlp592 =>
      intro i591  hvlp592 hmlp592
      obtain ⟨j, ij, ijk, ifn⟩ := hvlp592
      refine WP_iload_n dX11_find_2 rfl ?_
      refine WP_iload_n dX11_find_3 rfl ?_
      refine WQ_icmp_ge 26 dX11_find_4 rfl (fun c592 => ?_) (fun c592 => ?_)
      · refine WQ_iconst (-1) (-1) dX11_find_26 rfl rfl (fun v594 hv594 => ?_)
        exact WP_iret dX11_find_27 rfl ⟨⟨rfl, rfl, rfl⟩, v594, rfl, by
          rw [← ifn, fnd_end (by omega)]; omega⟩
      · refine WP_aload_n dX11_find_7 rfl ?_
        refine WP_iload_n dX11_find_8 rfl ?_
        refine WE_la dX11_find_9 (ly_is hy 5 14 rfl) (ly_n hy 5 3 rfl) (by omega) (by omega) (fun l595 el595 => ?_)
        have hnj := hN j (by omega)
        rw [show j = i591.toInt.toNat by omega] at hnj
        rw [el595, ← show j = i591.toInt.toNat by omega] at hnj
        refine WP_aload_n dX11_find_10 rfl ?_
        refine WP_callV0 dX11_find_11 ⟨⟨⟨by decide, by decide⟩, zX11_name⟩, lX11_67, tX11_name⟩ (ly_is hy 0 11 rfl) (em_name hy hr   hT hC hn hB hp hk) (Nat.le_of_ble_eq_true rfl) ?_
        intro r Ia Ja Ra hq
        obtain ⟨⟨ea, eb, ec⟩, l597, er, p596⟩ := hq
        rw [ea, eb, ec, er]
        clear ea eb ec er Ia Ja Ra r
        refine WP_lcmp dX11_find_14 ?_
        obtain ⟨v598, xv598⟩ : ∃ v : Int32, v = lg_cmp l595 l597 := ⟨_, rfl⟩
        rw [← xv598]
        have hv598 := cmp_z l595 l597 v598 xv598
        refine WQ_if_ne 20 dX11_find_15 rfl (fun c598 => ?_) (fun c598 => ?_)
        · have hne : nm (b + j) ≠ tW B n p := by
            intro e
            rw [e, hw2] at hnj
            omega
          refine WP_iinc (ls' := [(0, _), (1, _), (2, _), (3, _)]) dX11_find_20 rfl (by decide) rfl ?_
          have hv600 : (i591 + Int32.ofInt (1)).toInt = i591.toInt + (1) := ia_n rfl (by omega) (by omega)
          generalize i591 + Int32.ofInt (1) = v600 at hv600 ⊢
          refine WP_goto 2 dX11_find_23 rfl ?_
          refine WP_sub (fc rfl (fc rfl (fc rfl (fc rfl fn)))) (ihlp592 v600  ?_ ?_)
          · refine ⟨j + 1, by omega, by omega, ?_⟩
            rw [← fnd_go (by omega) hne]; exact ifn
          · omega
        · have hey : nm (b + j) = tW B n p := c5_inj 8 _ _ hnj.2 hw1 (by rw [hw2, ← hnj.1]; omega)
          refine WP_iload_n dX11_find_18 rfl ?_
          exact WP_iret dX11_find_19 rfl ⟨⟨rfl, rfl, rfl⟩, i591, rfl, by
            rw [← ifn, fnd_at (by omega) hey]; omega⟩
  refine WP_sub (fc rfl (fc rfl (fc rfl (fc rfl fn)))) (lp592 _ v590  ?_ (Nat.lt_succ_self _))
  · exact ⟨0, by omega, by omega, rfl⟩
set_option maxHeartbeats 4000000 in
set_option maxRecDepth 100000 in
theorem em_number {g : GG} {I : pI} {J : pJ} {R : pR} (hy : Ly g) (hr : Rf g R) {B : Nat → Int} {n p : Nat} (lo : Int32) (hi : Int32) (hT : TPM g B n I) (hC : CUM g B n p I) (hn : n ≤ 900) (hB : ∀ q, -128 ≤ B q ∧ B q ≤ 127) (hp : p ≤ n) : SP g mX11_number [.ref (ad g 0), .int lo, .int hi] I J R (fun r I' J' R' => R' = R ∧ FC g [0] I I' ∧ FC g [] J J' ∧ FQ g [3, 4, 5, 6, 7, 8, 9] I I' ∧ ∃ v : Int32, r = some (.int v) ∧ ((v.toInt = 0 ∧ tK B n p ≠ 2 ∧ ERM g 1 (tF B n p) I') ∨ (v.toInt = 0 ∧ tK B n p = 2 ∧ (tV B n p < lo.toInt ∨ hi.toInt < tV B n p) ∧ ERM g 2 (tF B n p) I') ∨ (v.toInt = 1 ∧ tK B n p = 2 ∧ lo.toInt ≤ tV B n p ∧ tV B n p ≤ hi.toInt ∧ (I' (ad g 0) 7).toInt = tV B n p ∧ NOF g I I' ∧ TPM g B n I' ∧ CUM g B n (tT B n p) I'))) := by
  refine SP_of ⟨by decide, rfl⟩ (Nat.le_of_ble_eq_true rfl) ?_
  have fI0 : FC g [0] I I := FC_rf
  have fJ0 : FC g [] J J := FC_rf
  have fQ0 : FQ g [3, 4, 5, 6, 7, 8, 9] I I := FQ_rf
  refine WP_aload_n dX11_number_0 rfl ?_
  refine WP_iload_n dX11_number_1 rfl ?_
  refine WP_iload_n dX11_number_2 rfl ?_
  refine WP_callV2 dX11_number_3 ⟨⟨⟨by decide, by decide⟩, zX11_peek⟩, lX11_59, tX11_peek⟩ (ly_is hy 0 11 rfl) (em_peek hy hr _ _  hT hC hn hB hp) (Nat.le_of_ble_eq_true rfl) ?_
  intro r I603 J604 Ra hq
  obtain ⟨ec, g605, g606, g607, v602, er, p601⟩ := hq
  rw [ec, er]
  clear ec er Ra r
  have fI608 : FC g [0] I I603 := FC_tr fI0 (FC_mono g605 (by decide))
  have fJ609 : FC g [] J J604 := FC_tr fJ0 (FC_mono g606 (by decide))
  have fQ610 : FQ g [3, 4, 5, 6, 7, 8, 9] I I603 := FQ_tr fQ0 (FQ_mono g607 (by decide))
  have hT2 := tpm_fq hy hT g605 (by decide) g607 (by decide)
  have hC2 := cum_fq hC g607 (by decide)
  refine WQ_if_ne 11 dX11_number_6 rfl (fun c610 => ?_) (fun c610 => ?_)
  · refine WP_aload_n dX11_number_11 rfl ?_
    refine WP_callV0 dX11_number_12 ⟨⟨⟨by decide, by decide⟩, zX11_scan⟩, lX11_63, tX11_scan⟩ (ly_is hy 0 11 rfl) (em_scan hy hr   hT2 hn hB hC2.2.1 (tT_le B hp).2) (Nat.le_of_ble_eq_true rfl) ?_
    intro r I613 J614 Ra hq
    obtain ⟨ec, g615, g616, g617, er, p612⟩ := hq
    rw [ec, er]
    clear ec er Ra r
    have fI618 : FC g [0] I I613 := FC_tr fI608 (FC_mono g615 (by decide))
    have fJ619 : FC g [] J J614 := FC_tr fJ609 (FC_mono g616 (by decide))
    have fQ620 : FQ g [3, 4, 5, 6, 7, 8, 9] I I613 := FQ_tr fQ610 (FQ_mono g617 (by decide))
    obtain ⟨hT3, hC3⟩ := p612
    have g7 := g617 7 (by decide)
    refine WQ_iconst (1) (1) dX11_number_15 rfl rfl (fun v621 hv621 => ?_)
    exact WP_iret dX11_number_16 rfl ⟨rfl, fI618, fJ619, fQ620, v621, rfl, by
      rcases p601 with h | h | h
      · exact absurd h.1 (by omega)
      · exact absurd h.1 (by omega)
      · obtain ⟨q1, q2, q3, q4, q5, q6⟩ := h
        refine Or.inr (Or.inr ⟨by omega, q2, q3, q4, ?_, ?_, hT3, hC3⟩)
        · rw [g7]; exact q5
        · have g8 := g617 8 (by decide)
          have g9 := g617 9 (by decide)
          exact ⟨g8.trans q6.1, g9.trans q6.2⟩⟩
  · refine WQ_iconst (0) (0) dX11_number_9 rfl rfl (fun v622 hv622 => ?_)
    exact WP_iret dX11_number_10 rfl ⟨rfl, fI608, fJ609, fQ610, v622, rfl, by
      rcases p601 with h | h | h
      · exact Or.inl ⟨by omega, h.2.1, h.2.2⟩
      · exact Or.inr (Or.inl ⟨by omega, h.2⟩)
      · exact absurd h.1 (by omega)⟩
