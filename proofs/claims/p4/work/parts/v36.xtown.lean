set_option maxHeartbeats 4000000 in
set_option maxRecDepth 100000 in
theorem ex_nameda {g : GG} {I : pI} {J : pJ} {R : pR} (hy : LyX g) (hr : RfX g R) {nm : Nat → Int} {b k : Nat} (wd : Int64) (fr : Int32) (mn : Int32) (hf : fr.toInt = (b : Int)) (hk : mn.toInt = (k : Int)) (hbk : b + k ≤ 7) (hN : ∀ q, q < k → (J (ad g 20) (b + q)).toInt = nm (b + q)) : SP g mX7_named [.ref (ad g 6), .long wd, .int fr, .int mn] I J R (fun r I' J' R' => (I' = I ∧ J' = J ∧ R' = R) ∧ ∃ v : Int32, r = some (.int v) ∧ (v.toInt = fnd nm b wd.toInt k 0)) := by
  refine SP_of ⟨by decide, rfl⟩ (Nat.le_of_ble_eq_true rfl) ?_
  refine WQ_iconst (0) (0) dX7_named_0 rfl rfl (fun v413 hv413 => ?_)
  refine WP_istore (ls' := [(0, _), (1, _), (3, _), (4, _), (5, _)]) dX7_named_1 (by decide) rfl ?_
  have lp415 : ∀ (mz : Nat) (i414 : Int32), (∃ j : Nat, i414.toInt = (j : Int) ∧ j ≤ k ∧ fnd nm b wd.toInt (k - j) j = fnd nm b wd.toInt k 0) → (k - i414.toInt.toNat) < mz → WP g mX7_named 3 [(0, .ref (ad g 6)), (1, .long wd), (3, .int fr), (4, .int mn), (5, .int i414)] [] I J R (fun r I' J' R' => (I' = I ∧ J' = J ∧ R' = R) ∧ ∃ v : Int32, r = some (.int v) ∧ (v.toInt = fnd nm b wd.toInt k 0)) := by
    intro mz
    induction mz with
    | zero =>
      intro i414  hvlp415 hmlp415
      exact absurd hmlp415 (Nat.not_lt_zero _)
    | succ mz ihlp415 =>
      intro i414  hvlp415 hmlp415
      obtain ⟨j, ij, ijk, ifn⟩ := hvlp415
      refine WP_iload dX7_named_3 rfl ?_
      refine WP_iload dX7_named_5 rfl ?_
      refine WQ_icmp_ge 33 dX7_named_7 rfl (fun c415 => ?_) (fun c415 => ?_)
      · refine WQ_iconst (-1) (-1) dX7_named_33 rfl rfl (fun v417 hv417 => ?_)
        exact WP_iret dX7_named_34 rfl ⟨⟨rfl, rfl, rfl⟩, v417, rfl, by
          rw [← ifn, fnd_end (by omega)]; omega⟩
      · refine WP_aload_n dX7_named_10 rfl ?_
        refine WP_getr dX7_named_11 fX7_51 rfl (lyx_is hy 6 7 rfl) (rfx hr 6 18 20 (by decide)) ?_
        refine WP_iload_n dX7_named_14 rfl ?_
        refine WP_iload dX7_named_15 rfl ?_
        refine WQ_iadd dX7_named_17 (by omega) (by omega) (fun v418 hv418 => ?_)
        refine WE_la dX7_named_18 (lyx_is hy 20 14 rfl) (lyx_n hy 20 7 rfl) (by omega) (by omega) (fun l419 el419 => ?_)
        refine WP_lload_n dX7_named_19 rfl ?_
        have hn20 : l419.toInt = nm (b + j) := by rw [← el419, ← hN j (by omega)]; congr 2; omega
        refine WP_lcmp dX7_named_20 ?_
        obtain ⟨v420, xv420⟩ : ∃ v : Int32, v = lg_cmp l419 wd := ⟨_, rfl⟩
        rw [← xv420]
        have hv420 := cmp_z l419 wd v420 xv420
        refine WQ_if_ne 27 dX7_named_21 rfl (fun c420 => ?_) (fun c420 => ?_)
        · have hne : nm (b + j) ≠ wd.toInt := by intro e; omega
          refine WP_iinc (ls' := [(0, _), (1, _), (3, _), (4, _), (5, _)]) dX7_named_27 rfl (by decide) rfl ?_
          have hv422 : (i414 + Int32.ofInt (1)).toInt = i414.toInt + (1) := ia_n rfl (by omega) (by omega)
          generalize i414 + Int32.ofInt (1) = v422 at hv422 ⊢
          refine WP_goto 3 dX7_named_30 rfl ?_
          refine WP_sub (fc rfl (fc rfl (fc rfl (fc rfl (fc rfl fn))))) (ihlp415 v422  ?_ ?_)
          · refine ⟨j + 1, by omega, by omega, ?_⟩
            rw [← fnd_go (by omega) hne]; exact ifn
          · omega
        · refine WP_iload dX7_named_24 rfl ?_
          exact WP_iret dX7_named_26 rfl ⟨⟨rfl, rfl, rfl⟩, i414, rfl, by
            rw [← ifn, fnd_at (by omega) (by omega)]; omega⟩
  refine WP_sub (fc rfl (fc rfl (fc rfl (fc rfl (fc rfl fn))))) (lp415 _ v413  ?_ (Nat.lt_succ_self _))
  · exact ⟨0, by omega, by omega, rfl⟩
set_option maxHeartbeats 4000000 in
set_option maxRecDepth 100000 in
theorem ex_sortNameda {g : GG} {I : pI} {J : pJ} {R : pR} (hy : LyX g) (hr : RfX g R) {a b : Nat} {S : TS} (wd : Int64) (hR : RTX g 6 a b S I J) (hB : SB S) (ha : S.1 0 1 ≤ a) : SP g mX7_sortNamed [.ref (ad g 6), .long wd] I J R (fun r I' J' R' => (I' = I ∧ J' = J ∧ R' = R) ∧ ∃ v : Int32, r = some (.int v) ∧ (v.toInt = fnS S wd.toInt)) := by
  refine SP_of ⟨by decide, rfl⟩ (Nat.le_of_ble_eq_true rfl) ?_
  have hs := hR.1 1 (by decide)
  obtain ⟨b1, b2, b3, b4⟩ := hB
  obtain ⟨w423, ew423⟩ : ∃ w : Int32, I (ad g 6) 1 = w := ⟨_, rfl⟩
  try simp only [ew423] at hs
  refine WP_aload_n dX7_sortNamed_0 rfl ?_
  refine WP_lload_n dX7_sortNamed_1 rfl ?_
  refine WQ_iconst (0) (0) dX7_sortNamed_2 rfl rfl (fun v424 hv424 => ?_)
  refine WP_aload_n dX7_sortNamed_3 rfl ?_
  refine WQ_getim dX7_sortNamed_4 fX7_65 rfl (lyx_is hy 6 7 rfl) ew423 ?_
  refine WP_callV3 dX7_sortNamed_7 ⟨⟨⟨by decide, by decide⟩, zX7_named⟩, lX7_83, tX7_named⟩ (lyx_is hy 6 7 rfl) (ex_nameda hy hr _ _ _  (nm := S.1 14) (b := 0) (k := (S.1 0 1).toNat) (by omega) (by omega) (by omega) (fun q hq => hR.2.2.2.2.1 (0 + q) (by omega))) (Nat.le_of_ble_eq_true rfl) ?_
  intro r Ia Ja Ra hq
  obtain ⟨⟨ea, eb, ec⟩, v426, er, p425⟩ := hq
  rw [ea, eb, ec, er]
  clear ea eb ec er Ia Ja Ra r
  exact WP_iret dX7_sortNamed_10 rfl ⟨⟨rfl, rfl, rfl⟩, v426, rfl, by
    try simp only [ew423]
    exact p425⟩
set_option maxHeartbeats 4000000 in
set_option maxRecDepth 100000 in
theorem ex_thingNameda {g : GG} {I : pI} {J : pJ} {R : pR} (hy : LyX g) (hr : RfX g R) {a b : Nat} {S : TS} (wd : Int64) (hR : RTX g 6 a b S I J) (hB : SB S) (ha : S.1 0 2 ≤ b) : SP g mX7_thingNamed [.ref (ad g 6), .long wd] I J R (fun r I' J' R' => (I' = I ∧ J' = J ∧ R' = R) ∧ ∃ v : Int32, r = some (.int v) ∧ (v.toInt = fnT S wd.toInt)) := by
  refine SP_of ⟨by decide, rfl⟩ (Nat.le_of_ble_eq_true rfl) ?_
  have hs := hR.1 2 (by decide)
  obtain ⟨b1, b2, b3, b4⟩ := hB
  obtain ⟨w427, ew427⟩ : ∃ w : Int32, I (ad g 6) 2 = w := ⟨_, rfl⟩
  try simp only [ew427] at hs
  refine WP_aload_n dX7_thingNamed_0 rfl ?_
  refine WP_lload_n dX7_thingNamed_1 rfl ?_
  refine WQ_iconst (4) (4) dX7_thingNamed_2 rfl rfl (fun v428 hv428 => ?_)
  refine WP_aload_n dX7_thingNamed_3 rfl ?_
  refine WQ_getim dX7_thingNamed_4 fX7_68 rfl (lyx_is hy 6 7 rfl) ew427 ?_
  refine WP_callV3 dX7_thingNamed_7 ⟨⟨⟨by decide, by decide⟩, zX7_named⟩, lX7_83, tX7_named⟩ (lyx_is hy 6 7 rfl) (ex_nameda hy hr _ _ _  (nm := S.1 14) (b := 4) (k := (S.1 0 2).toNat) (by omega) (by omega) (by omega) (fun q hq => hR.2.2.2.2.1 (4 + q) (by omega))) (Nat.le_of_ble_eq_true rfl) ?_
  intro r Ia Ja Ra hq
  obtain ⟨⟨ea, eb, ec⟩, v430, er, p429⟩ := hq
  rw [ea, eb, ec, er]
  clear ea eb ec er Ia Ja Ra r
  exact WP_iret dX7_thingNamed_10 rfl ⟨⟨rfl, rfl, rfl⟩, v430, rfl, by
    try simp only [ew427]
    exact p429⟩
set_option maxHeartbeats 4000000 in
set_option maxRecDepth 100000 in
theorem ex_namea {g : GG} {I : pI} {J : pJ} {R : pR} (hy : LyX g) (hr : RfX g R) {a b : Nat} {S : TS} (os : Int32) (wd : Int64) (hR : RTX g 6 a b S I J) (hB : SB S) (ha : S.1 0 1 = a) (hb : S.1 0 2 = b) (h4 : os.toInt ≠ 0 → a < 4) (h3 : os.toInt = 0 → b < 3) : SP g mX7_name [.ref (ad g 6), .int os, .long wd] I J R (fun r I' J' R' => R' = R ∧ FC g [] I I' ∧ FC g [20] J J' ∧ r = none ∧ ((os.toInt ≠ 0 → RTX g 6 (a + 1) b (pp S.1 14 (S.1 0 1).toNat wd.toInt, S.2) I' J') ∧ (os.toInt = 0 → RTX g 6 a (b + 1) (pp S.1 14 (4 + (S.1 0 2).toNat) wd.toInt, S.2) I' J'))) := by
  refine SP_of ⟨by decide, rfl⟩ (Nat.le_of_ble_eq_true rfl) ?_
  have fI0 : FC g [] I I := FC_rf
  have fJ0 : FC g [20] J J := FC_rf
  have hs := hR.1 1 (by decide)
  have ht := hR.1 2 (by decide)
  obtain ⟨b1, b2, b3, b4⟩ := hB
  obtain ⟨w431, ew431⟩ : ∃ w : Int32, I (ad g 6) 1 = w := ⟨_, rfl⟩
  obtain ⟨w432, ew432⟩ : ∃ w : Int32, I (ad g 6) 2 = w := ⟨_, rfl⟩
  try simp only [ew431, ew432] at hs ht
  refine WP_aload_n dX7_name_0 rfl ?_
  refine WP_getr dX7_name_1 fX7_51 rfl (lyx_is hy 6 7 rfl) (rfx hr 6 18 20 (by decide)) ?_
  refine WP_iload_n dX7_name_4 rfl ?_
  refine WQ_if_eq 15 dX7_name_5 rfl (fun c432 => ?_) (fun c432 => ?_)
  · refine WQ_iconst (4) (4) dX7_name_15 rfl rfl (fun v434 hv434 => ?_)
    refine WP_aload_n dX7_name_16 rfl ?_
    refine WQ_getim dX7_name_17 fX7_68 rfl (lyx_is hy 6 7 rfl) ew432 ?_
    refine WQ_iadd dX7_name_20 (by omega) (by omega) (fun v435 hv435 => ?_)
    refine WP_lload_n dX7_name_21 rfl ?_
    refine WE_ls dX7_name_22 (lyx_is hy 20 14 rfl) (lyx_n hy 20 7 rfl) (by omega) (by omega) (fun J436 eJ436 => ?_)
    have fJ437 : FC g [20] J J436 := by rw [eJ436]; exact FC_pp fJ0 (by decide)
    exact WP_vret dX7_name_23 rfl ⟨rfl, fI0, fJ437, rfl, by
      try simp only [ew431, ew432]
      refine ⟨fun h => absurd h (by omega), fun _ => ?_⟩
      refine ⟨fun q hq => ?_, fun c hc q hq => ?_, fun c hc q hq => ?_, fun c hc q hq => ?_, fun q hq => ?_, hR.2.2.2.2.2⟩
      · rw [pp_off _ _ (by decide)]; exact hR.1 q hq
      · rw [pp_off _ _ (by intro e; subst e; revert hc; decide)]; exact hR.2.1 c hc q hq
      · rw [pp_off _ _ (by decide)] at hq; rw [pp_off _ _ (by intro e; subst e; revert hc; decide)]; exact hR.2.2.1 c hc q hq
      · rw [pp_off _ _ (by decide)] at hq; rw [pp_off _ _ (by intro e; subst e; revert hc; decide)]; exact hR.2.2.2.1 c hc q hq
      · rw [eJ436]
        show (pp J (ad g 20) _ wd (ad g 20) q).toInt = _
        rw [pp_at, pp_at]
        by_cases e : q = 4 + (S.1 0 2).toNat
        · rw [if_pos (by omega), if_pos e]
        · rw [if_neg (by omega), if_neg e]; exact hR.2.2.2.2.1 q (by omega)⟩
  · refine WP_aload_n dX7_name_8 rfl ?_
    refine WQ_getim dX7_name_9 fX7_65 rfl (lyx_is hy 6 7 rfl) ew431 ?_
    refine WP_goto 21 dX7_name_12 rfl ?_
    refine WP_lload_n dX7_name_21 rfl ?_
    refine WE_ls dX7_name_22 (lyx_is hy 20 14 rfl) (lyx_n hy 20 7 rfl) (by omega) (by omega) (fun J438 eJ438 => ?_)
    have fJ439 : FC g [20] J J438 := by rw [eJ438]; exact FC_pp fJ0 (by decide)
    exact WP_vret dX7_name_23 rfl ⟨rfl, fI0, fJ439, rfl, by
      try simp only [ew431, ew432]
      refine ⟨fun _ => ?_, fun h => absurd h (by omega)⟩
      refine ⟨fun q hq => ?_, fun c hc q hq => ?_, fun c hc q hq => ?_, fun c hc q hq => ?_, fun q hq => ?_, hR.2.2.2.2.2⟩
      · rw [pp_off _ _ (by decide)]; exact hR.1 q hq
      · rw [pp_off _ _ (by intro e; subst e; revert hc; decide)]; exact hR.2.1 c hc q hq
      · rw [pp_off _ _ (by decide)] at hq; rw [pp_off _ _ (by intro e; subst e; revert hc; decide)]; exact hR.2.2.1 c hc q hq
      · rw [pp_off _ _ (by decide)] at hq; rw [pp_off _ _ (by intro e; subst e; revert hc; decide)]; exact hR.2.2.2.1 c hc q hq
      · rw [eJ438]
        show (pp J (ad g 20) _ wd (ad g 20) q).toInt = _
        rw [pp_at, pp_at]
        by_cases e : q = (S.1 0 1).toNat
        · rw [if_pos (by omega), if_pos e]
        · rw [if_neg (by omega), if_neg e]; exact hR.2.2.2.2.1 q (by omega)⟩
set_option maxHeartbeats 4000000 in
set_option maxRecDepth 100000 in
theorem ex_isTolda {g : GG} {I : pI} {J : pJ} {R : pR} (hy : LyX g) (hr : RfX g R) {a b : Nat} {S : TS} {r d : Nat} (cl : Int32) (of : Int32) (da : Int32) (hR : RTX g 6 a b S I J) (hr1 : cl.toInt * 4 + of.toInt = (r : Int)) (hr2 : r < 48) (hc1 : -100 ≤ cl.toInt) (hc2 : cl.toInt ≤ 100) (hd : da.toInt = (d : Int)) (hd7 : d < 7) : SP g mX7_isTold [.ref (ad g 6), .int cl, .int of, .int da] I J R (fun r I' J' R' => (I' = I ∧ J' = J ∧ R' = R) ∧ ∃ v : Int32, r = some (.int v) ∧ ((v.toInt = 1 ∧ S.2 r d = true) ∨ (v.toInt = 0 ∧ S.2 r d = false))) := by
  refine SP_of ⟨by decide, rfl⟩ (Nat.le_of_ble_eq_true rfl) ?_
  refine WP_aload_n dX7_isTold_0 rfl ?_
  refine WP_getr dX7_isTold_1 fX7_55 rfl (lyx_is hy 6 7 rfl) (rfx hr 6 19 21 (by decide)) ?_
  refine WP_iload_n dX7_isTold_4 rfl ?_
  refine WQ_iconst (4) (4) dX7_isTold_5 rfl rfl (fun v440 hv440 => ?_)
  refine WQ_imulk (4) dX7_isTold_6 hv440 (by omega) (by omega) (fun v441 hv441 => ?_)
  refine WP_iload_n dX7_isTold_7 rfl ?_
  refine WQ_iadd dX7_isTold_8 (by omega) (by omega) (fun v442 hv442 => ?_)
  refine WE_ia dX7_isTold_9 (lyx_is hy 21 13 rfl) (lyx_n hy 21 48 rfl) (by omega) (by omega) (fun v443 ev443 => ?_)
  refine WP_iload_n dX7_isTold_10 rfl ?_
  refine WP_ishr dX7_isTold_11 ?_
  obtain ⟨v444, xv444⟩ : ∃ v : Int32, v = v443 >>> (da &&& 31) := ⟨_, rfl⟩
  rw [← xv444]
  refine WQ_iconst (1) (1) dX7_isTold_12 rfl rfl (fun v445 hv445 => ?_)
  refine WP_iand dX7_isTold_13 ?_
  obtain ⟨v446, xv446⟩ : ∃ v : Int32, v = v444 &&& v445 := ⟨_, rfl⟩
  rw [← xv446]
  have hq := tb_get hd7 hd xv444 hv445 xv446
  have hq2 : tb (I (ad g 21) r) d = S.2 r d := hR.2.2.2.2.2 r hr2 d hd7
  have hq3 : I (ad g 21) r = v443 := by rw [← show v442.toInt.toNat = r by omega]; exact ev443
  rw [hq3] at hq2
  rw [hq2] at hq
  refine WQ_if_eq 21 dX7_isTold_14 rfl (fun c446 => ?_) (fun c446 => ?_)
  · refine WQ_iconst (0) (0) dX7_isTold_21 rfl rfl (fun v448 hv448 => ?_)
    exact WP_iret dX7_isTold_22 rfl ⟨⟨rfl, rfl, rfl⟩, v448, rfl, by
      first
      | exact Or.inl ⟨by omega, hq.elim (fun z => z.1) (fun z => absurd z.2 (by omega))⟩
      | exact Or.inr ⟨by omega, hq.elim (fun z => absurd z.2 (by omega)) (fun z => z.1)⟩⟩
  · refine WQ_iconst (1) (1) dX7_isTold_17 rfl rfl (fun v449 hv449 => ?_)
    refine WP_goto 22 dX7_isTold_18 rfl ?_
    exact WP_iret dX7_isTold_22 rfl ⟨⟨rfl, rfl, rfl⟩, v449, rfl, by
      first
      | exact Or.inl ⟨by omega, hq.elim (fun z => z.1) (fun z => absurd z.2 (by omega))⟩
      | exact Or.inr ⟨by omega, hq.elim (fun z => absurd z.2 (by omega)) (fun z => z.1)⟩⟩
set_option maxHeartbeats 4000000 in
set_option maxRecDepth 100000 in
theorem ex_holda {g : GG} {I : pI} {J : pJ} {R : pR} (hy : LyX g) (hr : RfX g R) {a b : Nat} {S : TS} {r d : Nat} (cl : Int32) (of : Int32) (da : Int32) (hR : RTX g 6 a b S I J) (hr1 : cl.toInt * 4 + of.toInt = (r : Int)) (hr2 : r < 48) (hc1 : -100 ≤ cl.toInt) (hc2 : cl.toInt ≤ 100) (hd : da.toInt = (d : Int)) (hd7 : d < 7) : SP g mX7_hold [.ref (ad g 6), .int cl, .int of, .int da] I J R (fun r I' J' R' => R' = R ∧ FC g [21] I I' ∧ FC g [] J J' ∧ r = none ∧ (RTX g 6 a b (S.1, pp S.2 r d true) I' J')) := by
  refine SP_of ⟨by decide, rfl⟩ (Nat.le_of_ble_eq_true rfl) ?_
  have fI0 : FC g [21] I I := FC_rf
  have fJ0 : FC g [] J J := FC_rf
  refine WP_aload_n dX7_hold_0 rfl ?_
  refine WP_getr dX7_hold_1 fX7_55 rfl (lyx_is hy 6 7 rfl) (rfx hr 6 19 21 (by decide)) ?_
  refine WP_iload_n dX7_hold_4 rfl ?_
  refine WQ_iconst (4) (4) dX7_hold_5 rfl rfl (fun v450 hv450 => ?_)
  refine WQ_imulk (4) dX7_hold_6 hv450 (by omega) (by omega) (fun v451 hv451 => ?_)
  refine WP_iload_n dX7_hold_7 rfl ?_
  refine WQ_iadd dX7_hold_8 (by omega) (by omega) (fun v452 hv452 => ?_)
  refine WP_dup2 dX7_hold_9 rfl rfl ?_
  refine WE_ia dX7_hold_10 (lyx_is hy 21 13 rfl) (lyx_n hy 21 48 rfl) (by omega) (by omega) (fun v453 ev453 => ?_)
  refine WQ_iconst (1) (1) dX7_hold_11 rfl rfl (fun v454 hv454 => ?_)
  refine WP_iload_n dX7_hold_12 rfl ?_
  refine WP_ishl dX7_hold_13 ?_
  obtain ⟨v455, xv455⟩ : ∃ v : Int32, v = v454 <<< (da &&& 31) := ⟨_, rfl⟩
  rw [← xv455]
  refine WP_ior dX7_hold_14 ?_
  obtain ⟨v456, xv456⟩ : ∃ v : Int32, v = v453 ||| v455 := ⟨_, rfl⟩
  rw [← xv456]
  refine WE_is dX7_hold_15 (lyx_is hy 21 13 rfl) (lyx_n hy 21 48 rfl) (by omega) (by omega) (fun I457 eI457 => ?_)
  have fI458 : FC g [21] I I457 := by rw [eI457]; exact FC_pp fI0 (by decide)
  exact WP_vret dX7_hold_16 rfl ⟨rfl, fI458, fJ0, rfl, by
    rw [eI457, show v452.toInt.toNat = r by omega]
    refine RTX_hold hy (by decide) hR r d _ hr2 hd7 (fun e he => ?_)
    have hq3 : I (ad g 21) r = v453 := by rw [← show v452.toInt.toNat = r by omega]; exact ev453
    show tb _ e = (tb (I (ad g 21) r) e || _)
    rw [hq3]
    exact tb_set hd7 he hd hv454 xv455 xv456⟩
set_option maxHeartbeats 4000000 in
set_option maxRecDepth 100000 in
theorem ex_faultAheada {g : GG} {I : pI} {J : pJ} {R : pR} (hy : LyX g) (hr : RfX g R) {a b : Nat} {S : TS} {c : Nat} (cl : Int32) (hR : RTX g 6 a b S I J) (hc : cl.toInt = (c : Int)) (hc9 : c < 10) : SP g mX7_faultAhead [.ref (ad g 6), .int cl] I J R (fun r I' J' R' => (I' = I ∧ J' = J ∧ R' = R) ∧ ∃ v : Int32, r = some (.int v) ∧ (v.toInt = (ahd c S : Nat))) := by
  refine SP_of ⟨by decide, rfl⟩ (Nat.le_of_ble_eq_true rfl) ?_
  have hs := hR.1 1 (by decide)
  have ht := hR.1 2 (by decide)
  obtain ⟨w459, ew459⟩ : ∃ w : Int32, I (ad g 6) 1 = w := ⟨_, rfl⟩
  obtain ⟨w460, ew460⟩ : ∃ w : Int32, I (ad g 6) 2 = w := ⟨_, rfl⟩
  try simp only [ew459, ew460] at hs ht
  refine WP_iload_n dX7_faultAhead_0 rfl ?_
  refine WQ_iconst (1) (1) dX7_faultAhead_1 rfl rfl (fun v461 hv461 => ?_)
  refine WQ_icmp_ne 13 dX7_faultAhead_2 rfl (fun c461 => ?_) (fun c461 => ?_)
  · refine WP_iload_n dX7_faultAhead_13 rfl ?_
    refine WQ_iconst (2) (2) dX7_faultAhead_14 rfl rfl (fun v463 hv463 => ?_)
    refine WQ_icmp_ne 28 dX7_faultAhead_15 rfl (fun c463 => ?_) (fun c463 => ?_)
    · refine WP_iload_n dX7_faultAhead_28 rfl ?_
      refine WQ_bipush (8) (8) dX7_faultAhead_29 rfl rfl (fun v465 hv465 => ?_)
      refine WQ_icmp_eq 40 dX7_faultAhead_31 rfl (fun c465 => ?_) (fun c465 => ?_)
      · refine WP_aload_n dX7_faultAhead_40 rfl ?_
        refine WP_iload_n dX7_faultAhead_41 rfl ?_
        refine WQ_iconst (0) (0) dX7_faultAhead_42 rfl rfl (fun v467 hv467 => ?_)
        refine WQ_iconst (0) (0) dX7_faultAhead_43 rfl rfl (fun v468 hv468 => ?_)
        refine WP_callV3 dX7_faultAhead_44 ⟨⟨⟨by decide, by decide⟩, zX7_isTold⟩, lX7_87, tX7_isTold⟩ (lyx_is hy 6 7 rfl) (ex_isTolda hy hr _ _ _  (r := c * 4) (d := 0) hR (by omega) (by omega) (by omega) (by omega) (by omega) (by decide)) (Nat.le_of_ble_eq_true rfl) ?_
        intro r Ia Ja Ra hq
        obtain ⟨⟨ea, eb, ec⟩, v470, er, p469⟩ := hq
        rw [ea, eb, ec, er]
        clear ea eb ec er Ia Ja Ra r
        refine WQ_if_eq 54 dX7_faultAhead_47 rfl (fun c470 => ?_) (fun c470 => ?_)
        · refine WQ_iconst (0) (0) dX7_faultAhead_54 rfl rfl (fun v472 hv472 => ?_)
          exact WP_iret dX7_faultAhead_55 rfl ⟨⟨rfl, rfl, rfl⟩, v472, rfl, by
            try simp only [ew459, ew460]
            unfold ahd
            rw [if_neg (by omega)]
            rcases p469 with ⟨h1, h2⟩ | ⟨h1, h2⟩
            · first
              | (rw [if_pos ⟨by omega, h2⟩]; omega)
              | exact absurd h1 (by omega)
            · first
              | (rw [if_neg (by rintro ⟨-, h3⟩; rw [h2] at h3; exact absurd h3 (by decide))]; omega)
              | exact absurd h1 (by omega)⟩
        · refine WQ_iconst (3) (3) dX7_faultAhead_50 rfl rfl (fun v473 hv473 => ?_)
          refine WP_goto 55 dX7_faultAhead_51 rfl ?_
          exact WP_iret dX7_faultAhead_55 rfl ⟨⟨rfl, rfl, rfl⟩, v473, rfl, by
            try simp only [ew459, ew460]
            unfold ahd
            rw [if_neg (by omega)]
            rcases p469 with ⟨h1, h2⟩ | ⟨h1, h2⟩
            · first
              | (rw [if_pos ⟨by omega, h2⟩]; omega)
              | exact absurd h1 (by omega)
            · first
              | (rw [if_neg (by rintro ⟨-, h3⟩; rw [h2] at h3; exact absurd h3 (by decide))]; omega)
              | exact absurd h1 (by omega)⟩
      · refine WP_iload_n dX7_faultAhead_34 rfl ?_
        refine WQ_bipush (9) (9) dX7_faultAhead_35 rfl rfl (fun v474 hv474 => ?_)
        refine WQ_icmp_ne 54 dX7_faultAhead_37 rfl (fun c474 => ?_) (fun c474 => ?_)
        · refine WQ_iconst (0) (0) dX7_faultAhead_54 rfl rfl (fun v476 hv476 => ?_)
          exact WP_iret dX7_faultAhead_55 rfl ⟨⟨rfl, rfl, rfl⟩, v476, rfl, by
            try simp only [ew459, ew460]
            unfold ahd
            rw [if_neg (by omega)]
            rw [if_neg (by rintro ⟨h3, -⟩; omega)]; omega⟩
        · refine WP_aload_n dX7_faultAhead_40 rfl ?_
          refine WP_iload_n dX7_faultAhead_41 rfl ?_
          refine WQ_iconst (0) (0) dX7_faultAhead_42 rfl rfl (fun v477 hv477 => ?_)
          refine WQ_iconst (0) (0) dX7_faultAhead_43 rfl rfl (fun v478 hv478 => ?_)
          refine WP_callV3 dX7_faultAhead_44 ⟨⟨⟨by decide, by decide⟩, zX7_isTold⟩, lX7_87, tX7_isTold⟩ (lyx_is hy 6 7 rfl) (ex_isTolda hy hr _ _ _  (r := c * 4) (d := 0) hR (by omega) (by omega) (by omega) (by omega) (by omega) (by decide)) (Nat.le_of_ble_eq_true rfl) ?_
          intro r Ia Ja Ra hq
          obtain ⟨⟨ea, eb, ec⟩, v480, er, p479⟩ := hq
          rw [ea, eb, ec, er]
          clear ea eb ec er Ia Ja Ra r
          refine WQ_if_eq 54 dX7_faultAhead_47 rfl (fun c480 => ?_) (fun c480 => ?_)
          · refine WQ_iconst (0) (0) dX7_faultAhead_54 rfl rfl (fun v482 hv482 => ?_)
            exact WP_iret dX7_faultAhead_55 rfl ⟨⟨rfl, rfl, rfl⟩, v482, rfl, by
              try simp only [ew459, ew460]
              unfold ahd
              rw [if_neg (by omega)]
              rcases p479 with ⟨h1, h2⟩ | ⟨h1, h2⟩
              · first
                | (rw [if_pos ⟨by omega, h2⟩]; omega)
                | exact absurd h1 (by omega)
              · first
                | (rw [if_neg (by rintro ⟨-, h3⟩; rw [h2] at h3; exact absurd h3 (by decide))]; omega)
                | exact absurd h1 (by omega)⟩
          · refine WQ_iconst (3) (3) dX7_faultAhead_50 rfl rfl (fun v483 hv483 => ?_)
            refine WP_goto 55 dX7_faultAhead_51 rfl ?_
            exact WP_iret dX7_faultAhead_55 rfl ⟨⟨rfl, rfl, rfl⟩, v483, rfl, by
              try simp only [ew459, ew460]
              unfold ahd
              rw [if_neg (by omega)]
              rcases p479 with ⟨h1, h2⟩ | ⟨h1, h2⟩
              · first
                | (rw [if_pos ⟨by omega, h2⟩]; omega)
                | exact absurd h1 (by omega)
              · first
                | (rw [if_neg (by rintro ⟨-, h3⟩; rw [h2] at h3; exact absurd h3 (by decide))]; omega)
                | exact absurd h1 (by omega)⟩
    · refine WP_aload_n dX7_faultAhead_18 rfl ?_
      refine WQ_getim dX7_faultAhead_19 fX7_68 rfl (lyx_is hy 6 7 rfl) ew460 ?_
      refine WQ_iconst (3) (3) dX7_faultAhead_22 rfl rfl (fun v484 hv484 => ?_)
      refine WQ_icmp_ne 28 dX7_faultAhead_23 rfl (fun c484 => ?_) (fun c484 => ?_)
      · refine WP_iload_n dX7_faultAhead_28 rfl ?_
        refine WQ_bipush (8) (8) dX7_faultAhead_29 rfl rfl (fun v486 hv486 => ?_)
        refine WQ_icmp_eq 40 dX7_faultAhead_31 rfl (fun c486 => ?_) (fun c486 => ?_)
        · refine WP_aload_n dX7_faultAhead_40 rfl ?_
          refine WP_iload_n dX7_faultAhead_41 rfl ?_
          refine WQ_iconst (0) (0) dX7_faultAhead_42 rfl rfl (fun v488 hv488 => ?_)
          refine WQ_iconst (0) (0) dX7_faultAhead_43 rfl rfl (fun v489 hv489 => ?_)
          refine WP_callV3 dX7_faultAhead_44 ⟨⟨⟨by decide, by decide⟩, zX7_isTold⟩, lX7_87, tX7_isTold⟩ (lyx_is hy 6 7 rfl) (ex_isTolda hy hr _ _ _  (r := c * 4) (d := 0) hR (by omega) (by omega) (by omega) (by omega) (by omega) (by decide)) (Nat.le_of_ble_eq_true rfl) ?_
          intro r Ia Ja Ra hq
          obtain ⟨⟨ea, eb, ec⟩, v491, er, p490⟩ := hq
          rw [ea, eb, ec, er]
          clear ea eb ec er Ia Ja Ra r
          refine WQ_if_eq 54 dX7_faultAhead_47 rfl (fun c491 => ?_) (fun c491 => ?_)
          · refine WQ_iconst (0) (0) dX7_faultAhead_54 rfl rfl (fun v493 hv493 => ?_)
            exact WP_iret dX7_faultAhead_55 rfl ⟨⟨rfl, rfl, rfl⟩, v493, rfl, by
              try simp only [ew459, ew460]
              unfold ahd
              rw [if_neg (by omega)]
              rcases p490 with ⟨h1, h2⟩ | ⟨h1, h2⟩
              · first
                | (rw [if_pos ⟨by omega, h2⟩]; omega)
                | exact absurd h1 (by omega)
              · first
                | (rw [if_neg (by rintro ⟨-, h3⟩; rw [h2] at h3; exact absurd h3 (by decide))]; omega)
                | exact absurd h1 (by omega)⟩
          · refine WQ_iconst (3) (3) dX7_faultAhead_50 rfl rfl (fun v494 hv494 => ?_)
            refine WP_goto 55 dX7_faultAhead_51 rfl ?_
            exact WP_iret dX7_faultAhead_55 rfl ⟨⟨rfl, rfl, rfl⟩, v494, rfl, by
              try simp only [ew459, ew460]
              unfold ahd
              rw [if_neg (by omega)]
              rcases p490 with ⟨h1, h2⟩ | ⟨h1, h2⟩
              · first
                | (rw [if_pos ⟨by omega, h2⟩]; omega)
                | exact absurd h1 (by omega)
              · first
                | (rw [if_neg (by rintro ⟨-, h3⟩; rw [h2] at h3; exact absurd h3 (by decide))]; omega)
                | exact absurd h1 (by omega)⟩
        · refine WP_iload_n dX7_faultAhead_34 rfl ?_
          refine WQ_bipush (9) (9) dX7_faultAhead_35 rfl rfl (fun v495 hv495 => ?_)
          refine WQ_icmp_ne 54 dX7_faultAhead_37 rfl (fun c495 => ?_) (fun c495 => ?_)
          · refine WQ_iconst (0) (0) dX7_faultAhead_54 rfl rfl (fun v497 hv497 => ?_)
            exact WP_iret dX7_faultAhead_55 rfl ⟨⟨rfl, rfl, rfl⟩, v497, rfl, by
              try simp only [ew459, ew460]
              unfold ahd
              rw [if_neg (by omega)]
              rw [if_neg (by rintro ⟨h3, -⟩; omega)]; omega⟩
          · refine WP_aload_n dX7_faultAhead_40 rfl ?_
            refine WP_iload_n dX7_faultAhead_41 rfl ?_
            refine WQ_iconst (0) (0) dX7_faultAhead_42 rfl rfl (fun v498 hv498 => ?_)
            refine WQ_iconst (0) (0) dX7_faultAhead_43 rfl rfl (fun v499 hv499 => ?_)
            refine WP_callV3 dX7_faultAhead_44 ⟨⟨⟨by decide, by decide⟩, zX7_isTold⟩, lX7_87, tX7_isTold⟩ (lyx_is hy 6 7 rfl) (ex_isTolda hy hr _ _ _  (r := c * 4) (d := 0) hR (by omega) (by omega) (by omega) (by omega) (by omega) (by decide)) (Nat.le_of_ble_eq_true rfl) ?_
            intro r Ia Ja Ra hq
            obtain ⟨⟨ea, eb, ec⟩, v501, er, p500⟩ := hq
            rw [ea, eb, ec, er]
            clear ea eb ec er Ia Ja Ra r
            refine WQ_if_eq 54 dX7_faultAhead_47 rfl (fun c501 => ?_) (fun c501 => ?_)
            · refine WQ_iconst (0) (0) dX7_faultAhead_54 rfl rfl (fun v503 hv503 => ?_)
              exact WP_iret dX7_faultAhead_55 rfl ⟨⟨rfl, rfl, rfl⟩, v503, rfl, by
                try simp only [ew459, ew460]
                unfold ahd
                rw [if_neg (by omega)]
                rcases p500 with ⟨h1, h2⟩ | ⟨h1, h2⟩
                · first
                  | (rw [if_pos ⟨by omega, h2⟩]; omega)
                  | exact absurd h1 (by omega)
                · first
                  | (rw [if_neg (by rintro ⟨-, h3⟩; rw [h2] at h3; exact absurd h3 (by decide))]; omega)
                  | exact absurd h1 (by omega)⟩
            · refine WQ_iconst (3) (3) dX7_faultAhead_50 rfl rfl (fun v504 hv504 => ?_)
              refine WP_goto 55 dX7_faultAhead_51 rfl ?_
              exact WP_iret dX7_faultAhead_55 rfl ⟨⟨rfl, rfl, rfl⟩, v504, rfl, by
                try simp only [ew459, ew460]
                unfold ahd
                rw [if_neg (by omega)]
                rcases p500 with ⟨h1, h2⟩ | ⟨h1, h2⟩
                · first
                  | (rw [if_pos ⟨by omega, h2⟩]; omega)
                  | exact absurd h1 (by omega)
                · first
                  | (rw [if_neg (by rintro ⟨-, h3⟩; rw [h2] at h3; exact absurd h3 (by decide))]; omega)
                  | exact absurd h1 (by omega)⟩
      · refine WQ_iconst (4) (4) dX7_faultAhead_26 rfl rfl (fun v505 hv505 => ?_)
        exact WP_iret dX7_faultAhead_27 rfl ⟨⟨rfl, rfl, rfl⟩, v505, rfl, by
          try simp only [ew459, ew460]
          unfold ahd
          rw [if_pos (by omega)]; omega⟩
  · refine WP_aload_n dX7_faultAhead_5 rfl ?_
    refine WQ_getim dX7_faultAhead_6 fX7_65 rfl (lyx_is hy 6 7 rfl) ew459 ?_
    refine WQ_iconst (4) (4) dX7_faultAhead_9 rfl rfl (fun v506 hv506 => ?_)
    refine WQ_icmp_eq 26 dX7_faultAhead_10 rfl (fun c506 => ?_) (fun c506 => ?_)
    · refine WQ_iconst (4) (4) dX7_faultAhead_26 rfl rfl (fun v508 hv508 => ?_)
      exact WP_iret dX7_faultAhead_27 rfl ⟨⟨rfl, rfl, rfl⟩, v508, rfl, by
        try simp only [ew459, ew460]
        unfold ahd
        rw [if_pos (by omega)]; omega⟩
    · refine WP_iload_n dX7_faultAhead_13 rfl ?_
      refine WQ_iconst (2) (2) dX7_faultAhead_14 rfl rfl (fun v509 hv509 => ?_)
      refine WQ_icmp_ne 28 dX7_faultAhead_15 rfl (fun c509 => ?_) (fun c509 => ?_)
      · refine WP_iload_n dX7_faultAhead_28 rfl ?_
        refine WQ_bipush (8) (8) dX7_faultAhead_29 rfl rfl (fun v511 hv511 => ?_)
        refine WQ_icmp_eq 40 dX7_faultAhead_31 rfl (fun c511 => ?_) (fun c511 => ?_)
        · refine WP_aload_n dX7_faultAhead_40 rfl ?_
          refine WP_iload_n dX7_faultAhead_41 rfl ?_
          refine WQ_iconst (0) (0) dX7_faultAhead_42 rfl rfl (fun v513 hv513 => ?_)
          refine WQ_iconst (0) (0) dX7_faultAhead_43 rfl rfl (fun v514 hv514 => ?_)
          refine WP_callV3 dX7_faultAhead_44 ⟨⟨⟨by decide, by decide⟩, zX7_isTold⟩, lX7_87, tX7_isTold⟩ (lyx_is hy 6 7 rfl) (ex_isTolda hy hr _ _ _  (r := c * 4) (d := 0) hR (by omega) (by omega) (by omega) (by omega) (by omega) (by decide)) (Nat.le_of_ble_eq_true rfl) ?_
          intro r Ia Ja Ra hq
          obtain ⟨⟨ea, eb, ec⟩, v516, er, p515⟩ := hq
          rw [ea, eb, ec, er]
          clear ea eb ec er Ia Ja Ra r
          refine WQ_if_eq 54 dX7_faultAhead_47 rfl (fun c516 => ?_) (fun c516 => ?_)
          · refine WQ_iconst (0) (0) dX7_faultAhead_54 rfl rfl (fun v518 hv518 => ?_)
            exact WP_iret dX7_faultAhead_55 rfl ⟨⟨rfl, rfl, rfl⟩, v518, rfl, by
              try simp only [ew459, ew460]
              unfold ahd
              rw [if_neg (by omega)]
              rcases p515 with ⟨h1, h2⟩ | ⟨h1, h2⟩
              · first
                | (rw [if_pos ⟨by omega, h2⟩]; omega)
                | exact absurd h1 (by omega)
              · first
                | (rw [if_neg (by rintro ⟨-, h3⟩; rw [h2] at h3; exact absurd h3 (by decide))]; omega)
                | exact absurd h1 (by omega)⟩
          · refine WQ_iconst (3) (3) dX7_faultAhead_50 rfl rfl (fun v519 hv519 => ?_)
            refine WP_goto 55 dX7_faultAhead_51 rfl ?_
            exact WP_iret dX7_faultAhead_55 rfl ⟨⟨rfl, rfl, rfl⟩, v519, rfl, by
              try simp only [ew459, ew460]
              unfold ahd
              rw [if_neg (by omega)]
              rcases p515 with ⟨h1, h2⟩ | ⟨h1, h2⟩
              · first
                | (rw [if_pos ⟨by omega, h2⟩]; omega)
                | exact absurd h1 (by omega)
              · first
                | (rw [if_neg (by rintro ⟨-, h3⟩; rw [h2] at h3; exact absurd h3 (by decide))]; omega)
                | exact absurd h1 (by omega)⟩
        · refine WP_iload_n dX7_faultAhead_34 rfl ?_
          refine WQ_bipush (9) (9) dX7_faultAhead_35 rfl rfl (fun v520 hv520 => ?_)
          refine WQ_icmp_ne 54 dX7_faultAhead_37 rfl (fun c520 => ?_) (fun c520 => ?_)
          · refine WQ_iconst (0) (0) dX7_faultAhead_54 rfl rfl (fun v522 hv522 => ?_)
            exact WP_iret dX7_faultAhead_55 rfl ⟨⟨rfl, rfl, rfl⟩, v522, rfl, by
              try simp only [ew459, ew460]
              unfold ahd
              rw [if_neg (by omega)]
              rw [if_neg (by rintro ⟨h3, -⟩; omega)]; omega⟩
          · refine WP_aload_n dX7_faultAhead_40 rfl ?_
            refine WP_iload_n dX7_faultAhead_41 rfl ?_
            refine WQ_iconst (0) (0) dX7_faultAhead_42 rfl rfl (fun v523 hv523 => ?_)
            refine WQ_iconst (0) (0) dX7_faultAhead_43 rfl rfl (fun v524 hv524 => ?_)
            refine WP_callV3 dX7_faultAhead_44 ⟨⟨⟨by decide, by decide⟩, zX7_isTold⟩, lX7_87, tX7_isTold⟩ (lyx_is hy 6 7 rfl) (ex_isTolda hy hr _ _ _  (r := c * 4) (d := 0) hR (by omega) (by omega) (by omega) (by omega) (by omega) (by decide)) (Nat.le_of_ble_eq_true rfl) ?_
            intro r Ia Ja Ra hq
            obtain ⟨⟨ea, eb, ec⟩, v526, er, p525⟩ := hq
            rw [ea, eb, ec, er]
            clear ea eb ec er Ia Ja Ra r
            refine WQ_if_eq 54 dX7_faultAhead_47 rfl (fun c526 => ?_) (fun c526 => ?_)
            · refine WQ_iconst (0) (0) dX7_faultAhead_54 rfl rfl (fun v528 hv528 => ?_)
              exact WP_iret dX7_faultAhead_55 rfl ⟨⟨rfl, rfl, rfl⟩, v528, rfl, by
                try simp only [ew459, ew460]
                unfold ahd
                rw [if_neg (by omega)]
                rcases p525 with ⟨h1, h2⟩ | ⟨h1, h2⟩
                · first
                  | (rw [if_pos ⟨by omega, h2⟩]; omega)
                  | exact absurd h1 (by omega)
                · first
                  | (rw [if_neg (by rintro ⟨-, h3⟩; rw [h2] at h3; exact absurd h3 (by decide))]; omega)
                  | exact absurd h1 (by omega)⟩
            · refine WQ_iconst (3) (3) dX7_faultAhead_50 rfl rfl (fun v529 hv529 => ?_)
              refine WP_goto 55 dX7_faultAhead_51 rfl ?_
              exact WP_iret dX7_faultAhead_55 rfl ⟨⟨rfl, rfl, rfl⟩, v529, rfl, by
                try simp only [ew459, ew460]
                unfold ahd
                rw [if_neg (by omega)]
                rcases p525 with ⟨h1, h2⟩ | ⟨h1, h2⟩
                · first
                  | (rw [if_pos ⟨by omega, h2⟩]; omega)
                  | exact absurd h1 (by omega)
                · first
                  | (rw [if_neg (by rintro ⟨-, h3⟩; rw [h2] at h3; exact absurd h3 (by decide))]; omega)
                  | exact absurd h1 (by omega)⟩
      · refine WP_aload_n dX7_faultAhead_18 rfl ?_
        refine WQ_getim dX7_faultAhead_19 fX7_68 rfl (lyx_is hy 6 7 rfl) ew460 ?_
        refine WQ_iconst (3) (3) dX7_faultAhead_22 rfl rfl (fun v530 hv530 => ?_)
        refine WQ_icmp_ne 28 dX7_faultAhead_23 rfl (fun c530 => ?_) (fun c530 => ?_)
        · refine WP_iload_n dX7_faultAhead_28 rfl ?_
          refine WQ_bipush (8) (8) dX7_faultAhead_29 rfl rfl (fun v532 hv532 => ?_)
          refine WQ_icmp_eq 40 dX7_faultAhead_31 rfl (fun c532 => ?_) (fun c532 => ?_)
          · refine WP_aload_n dX7_faultAhead_40 rfl ?_
            refine WP_iload_n dX7_faultAhead_41 rfl ?_
            refine WQ_iconst (0) (0) dX7_faultAhead_42 rfl rfl (fun v534 hv534 => ?_)
            refine WQ_iconst (0) (0) dX7_faultAhead_43 rfl rfl (fun v535 hv535 => ?_)
            refine WP_callV3 dX7_faultAhead_44 ⟨⟨⟨by decide, by decide⟩, zX7_isTold⟩, lX7_87, tX7_isTold⟩ (lyx_is hy 6 7 rfl) (ex_isTolda hy hr _ _ _  (r := c * 4) (d := 0) hR (by omega) (by omega) (by omega) (by omega) (by omega) (by decide)) (Nat.le_of_ble_eq_true rfl) ?_
            intro r Ia Ja Ra hq
            obtain ⟨⟨ea, eb, ec⟩, v537, er, p536⟩ := hq
            rw [ea, eb, ec, er]
            clear ea eb ec er Ia Ja Ra r
            refine WQ_if_eq 54 dX7_faultAhead_47 rfl (fun c537 => ?_) (fun c537 => ?_)
            · refine WQ_iconst (0) (0) dX7_faultAhead_54 rfl rfl (fun v539 hv539 => ?_)
              exact WP_iret dX7_faultAhead_55 rfl ⟨⟨rfl, rfl, rfl⟩, v539, rfl, by
                try simp only [ew459, ew460]
                unfold ahd
                rw [if_neg (by omega)]
                rcases p536 with ⟨h1, h2⟩ | ⟨h1, h2⟩
                · first
                  | (rw [if_pos ⟨by omega, h2⟩]; omega)
                  | exact absurd h1 (by omega)
                · first
                  | (rw [if_neg (by rintro ⟨-, h3⟩; rw [h2] at h3; exact absurd h3 (by decide))]; omega)
                  | exact absurd h1 (by omega)⟩
            · refine WQ_iconst (3) (3) dX7_faultAhead_50 rfl rfl (fun v540 hv540 => ?_)
              refine WP_goto 55 dX7_faultAhead_51 rfl ?_
              exact WP_iret dX7_faultAhead_55 rfl ⟨⟨rfl, rfl, rfl⟩, v540, rfl, by
                try simp only [ew459, ew460]
                unfold ahd
                rw [if_neg (by omega)]
                rcases p536 with ⟨h1, h2⟩ | ⟨h1, h2⟩
                · first
                  | (rw [if_pos ⟨by omega, h2⟩]; omega)
                  | exact absurd h1 (by omega)
                · first
                  | (rw [if_neg (by rintro ⟨-, h3⟩; rw [h2] at h3; exact absurd h3 (by decide))]; omega)
                  | exact absurd h1 (by omega)⟩
          · refine WP_iload_n dX7_faultAhead_34 rfl ?_
            refine WQ_bipush (9) (9) dX7_faultAhead_35 rfl rfl (fun v541 hv541 => ?_)
            refine WQ_icmp_ne 54 dX7_faultAhead_37 rfl (fun c541 => ?_) (fun c541 => ?_)
            · refine WQ_iconst (0) (0) dX7_faultAhead_54 rfl rfl (fun v543 hv543 => ?_)
              exact WP_iret dX7_faultAhead_55 rfl ⟨⟨rfl, rfl, rfl⟩, v543, rfl, by
                try simp only [ew459, ew460]
                unfold ahd
                rw [if_neg (by omega)]
                rw [if_neg (by rintro ⟨h3, -⟩; omega)]; omega⟩
            · refine WP_aload_n dX7_faultAhead_40 rfl ?_
              refine WP_iload_n dX7_faultAhead_41 rfl ?_
              refine WQ_iconst (0) (0) dX7_faultAhead_42 rfl rfl (fun v544 hv544 => ?_)
              refine WQ_iconst (0) (0) dX7_faultAhead_43 rfl rfl (fun v545 hv545 => ?_)
              refine WP_callV3 dX7_faultAhead_44 ⟨⟨⟨by decide, by decide⟩, zX7_isTold⟩, lX7_87, tX7_isTold⟩ (lyx_is hy 6 7 rfl) (ex_isTolda hy hr _ _ _  (r := c * 4) (d := 0) hR (by omega) (by omega) (by omega) (by omega) (by omega) (by decide)) (Nat.le_of_ble_eq_true rfl) ?_
              intro r Ia Ja Ra hq
              obtain ⟨⟨ea, eb, ec⟩, v547, er, p546⟩ := hq
              rw [ea, eb, ec, er]
              clear ea eb ec er Ia Ja Ra r
              refine WQ_if_eq 54 dX7_faultAhead_47 rfl (fun c547 => ?_) (fun c547 => ?_)
              · refine WQ_iconst (0) (0) dX7_faultAhead_54 rfl rfl (fun v549 hv549 => ?_)
                exact WP_iret dX7_faultAhead_55 rfl ⟨⟨rfl, rfl, rfl⟩, v549, rfl, by
                  try simp only [ew459, ew460]
                  unfold ahd
                  rw [if_neg (by omega)]
                  rcases p546 with ⟨h1, h2⟩ | ⟨h1, h2⟩
                  · first
                    | (rw [if_pos ⟨by omega, h2⟩]; omega)
                    | exact absurd h1 (by omega)
                  · first
                    | (rw [if_neg (by rintro ⟨-, h3⟩; rw [h2] at h3; exact absurd h3 (by decide))]; omega)
                    | exact absurd h1 (by omega)⟩
              · refine WQ_iconst (3) (3) dX7_faultAhead_50 rfl rfl (fun v550 hv550 => ?_)
                refine WP_goto 55 dX7_faultAhead_51 rfl ?_
                exact WP_iret dX7_faultAhead_55 rfl ⟨⟨rfl, rfl, rfl⟩, v550, rfl, by
                  try simp only [ew459, ew460]
                  unfold ahd
                  rw [if_neg (by omega)]
                  rcases p546 with ⟨h1, h2⟩ | ⟨h1, h2⟩
                  · first
                    | (rw [if_pos ⟨by omega, h2⟩]; omega)
                    | exact absurd h1 (by omega)
                  · first
                    | (rw [if_neg (by rintro ⟨-, h3⟩; rw [h2] at h3; exact absurd h3 (by decide))]; omega)
                    | exact absurd h1 (by omega)⟩
        · refine WQ_iconst (4) (4) dX7_faultAhead_26 rfl rfl (fun v551 hv551 => ?_)
          exact WP_iret dX7_faultAhead_27 rfl ⟨⟨rfl, rfl, rfl⟩, v551, rfl, by
            try simp only [ew459, ew460]
            unfold ahd
            rw [if_pos (by omega)]; omega⟩
set_option maxHeartbeats 4000000 in
set_option maxRecDepth 100000 in
theorem ex_tellLossa {g : GG} {I : pI} {J : pJ} {R : pR} (hy : LyX g) (hr : RfX g R) {a b : Nat} {S : TS} {d : Nat} (da : Int32) (lo : Int32) (hR : RTX g 6 a b S I J) (hd : da.toInt = (d : Int)) (hd7 : d < 7) : SP g mX7_tellLoss [.ref (ad g 6), .int da, .int lo] I J R (fun r I' J' R' => R' = R ∧ FC g [7, 21] I I' ∧ FC g [] J J' ∧ r = none ∧ (RTX g 6 a b (pp S.1 1 d lo.toInt, pp S.2 0 d true) I' J')) := by
  refine SP_of ⟨by decide, rfl⟩ (Nat.le_of_ble_eq_true rfl) ?_
  have fI0 : FC g [7, 21] I I := FC_rf
  have fJ0 : FC g [] J J := FC_rf
  refine WP_aload_n dX7_tellLoss_0 rfl ?_
  refine WP_getr dX7_tellLoss_1 fX7_9 rfl (lyx_is hy 6 7 rfl) (rfx hr 6 5 7 (by decide)) ?_
  refine WP_iload_n dX7_tellLoss_4 rfl ?_
  refine WP_iload_n dX7_tellLoss_5 rfl ?_
  refine WE_is dX7_tellLoss_6 (lyx_is hy 7 13 rfl) (lyx_n hy 7 7 rfl) (by omega) (by omega) (fun I552 eI552 => ?_)
  have fI553 : FC g [7, 21] I I552 := by rw [eI552]; exact FC_pp fI0 (by decide)
  have hR2 : RTX g 6 a b (pp S.1 1 d lo.toInt, S.2) I552 J := by rw [eI552, show da.toInt.toNat = d by omega]; exact RTX_row hy (by decide) hR 1 d lo _ (by decide) rfl
  refine WP_aload_n dX7_tellLoss_7 rfl ?_
  refine WQ_iconst (0) (0) dX7_tellLoss_8 rfl rfl (fun v554 hv554 => ?_)
  refine WQ_iconst (0) (0) dX7_tellLoss_9 rfl rfl (fun v555 hv555 => ?_)
  refine WP_iload_n dX7_tellLoss_10 rfl ?_
  refine WP_callV3 dX7_tellLoss_11 ⟨⟨⟨by decide, by decide⟩, zX7_hold⟩, lX7_109, tX7_hold⟩ (lyx_is hy 6 7 rfl) (ex_holda hy hr _ _ _  (r := 0) (d := d) hR2 (by omega) (by decide) (by omega) (by omega) hd hd7) (Nat.le_of_ble_eq_true rfl) ?_
  intro r I557 J558 Ra hq
  obtain ⟨ec, g559, g560, er, p556⟩ := hq
  rw [ec, er]
  clear ec er Ra r
  have fI562 : FC g [7, 21] I I557 := FC_tr fI553 (FC_mono g559 (by decide))
  have fJ563 : FC g [] J J558 := FC_tr fJ0 (FC_mono g560 (by decide))
  exact WP_vret dX7_tellLoss_14 rfl ⟨rfl, fI562, fJ563, rfl, by
    exact p556⟩
set_option maxHeartbeats 4000000 in
set_option maxRecDepth 100000 in
theorem ex_tellOn3a {g : GG} {I : pI} {J : pJ} {R : pR} (hy : LyX g) (hr : RfX g R) {a b : Nat} {S : TS} {P : Nat → Int} (cl : Int32) (hR : RTX g 6 a b S I J) (hcl : cl.toInt = 3) (hP : ∀ j, j < 3 → (I (ad g 4) j).toInt = P j) (h0 : 0 ≤ P 0 ∧ P 0 < 4) (h1 : 0 ≤ P 1 ∧ P 1 < 7) : SP g mX7_tellOn [.ref (ad g 6), .ref (ad g 12), .int cl, .ref (ad g 4)] I J R (fun r I' J' R' => R' = R ∧ FC g [12, 21] I I' ∧ FC g [] J J' ∧ r = none ∧ (RTX g 6 a b (pp S.1 6 ((P 0).toNat * 7 + (P 1).toNat) (P 2), pp S.2 (12 + (P 0).toNat) (P 1).toNat true) I' J')) := by
  refine SP_of ⟨by decide, rfl⟩ (Nat.le_of_ble_eq_true rfl) ?_
  have fI0 : FC g [12, 21] I I := FC_rf
  have fJ0 : FC g [] J J := FC_rf
  have q0 := hP 0 (by decide)
  have q1 := hP 1 (by decide)
  have q2 := hP 2 (by decide)
  obtain ⟨w564, ew564⟩ : ∃ w : Int32, I (ad g 4) 0 = w := ⟨_, rfl⟩
  obtain ⟨w565, ew565⟩ : ∃ w : Int32, I (ad g 4) 1 = w := ⟨_, rfl⟩
  obtain ⟨w566, ew566⟩ : ∃ w : Int32, I (ad g 4) 2 = w := ⟨_, rfl⟩
  try simp only [ew564, ew565, ew566] at q0 q1 q2
  refine WP_aload_n dX7_tellOn_0 rfl ?_
  refine WP_aload_n dX7_tellOn_1 rfl ?_
  refine WQ_iconst (0) (0) dX7_tellOn_2 rfl rfl (fun v567 hv567 => ?_)
  refine WE_iak (z := 0) dX7_tellOn_3 (lyx_is hy 4 13 rfl) (lyx_n hy 4 5 rfl) hv567 (by decide) ew564 ?_
  refine WQ_bipush (7) (7) dX7_tellOn_4 rfl rfl (fun v569 hv569 => ?_)
  refine WQ_imulk (7) dX7_tellOn_6 hv569 (by omega) (by omega) (fun v570 hv570 => ?_)
  refine WP_aload_n dX7_tellOn_7 rfl ?_
  refine WQ_iconst (1) (1) dX7_tellOn_8 rfl rfl (fun v571 hv571 => ?_)
  refine WE_iak (z := 1) dX7_tellOn_9 (lyx_is hy 4 13 rfl) (lyx_n hy 4 5 rfl) hv571 (by decide) ew565 ?_
  refine WQ_iadd dX7_tellOn_10 (by omega) (by omega) (fun v573 hv573 => ?_)
  refine WP_aload_n dX7_tellOn_11 rfl ?_
  refine WQ_iconst (2) (2) dX7_tellOn_12 rfl rfl (fun v574 hv574 => ?_)
  refine WE_iak (z := 2) dX7_tellOn_13 (lyx_is hy 4 13 rfl) (lyx_n hy 4 5 rfl) hv574 (by decide) ew566 ?_
  refine WE_is dX7_tellOn_14 (lyx_is hy 12 13 rfl) (lyx_n hy 12 28 rfl) (by omega) (by omega) (fun I576 eI576 => ?_)
  have e577 : I576 (ad g 4) 0 = w564 := by rw [eI576, pp_ne _ _ (Or.inl (lyx_ne hy (by decide) (by decide) (by decide)))]; exact ew564
  have e578 : I576 (ad g 4) 1 = w565 := by rw [eI576, pp_ne _ _ (Or.inl (lyx_ne hy (by decide) (by decide) (by decide)))]; exact ew565
  have e579 : I576 (ad g 4) 2 = w566 := by rw [eI576, pp_ne _ _ (Or.inl (lyx_ne hy (by decide) (by decide) (by decide)))]; exact ew566
  have fI580 : FC g [12, 21] I I576 := by rw [eI576]; exact FC_pp fI0 (by decide)
  have hR2 : RTX g 6 a b (pp S.1 6 ((P 0).toNat * 7 + (P 1).toNat) (P 2), S.2) I576 J := by rw [eI576, show v573.toInt.toNat = (P 0).toNat * 7 + (P 1).toNat by omega]; exact RTX_row hy (by decide) hR 6 _ _ _ (by decide) q2
  refine WP_aload_n dX7_tellOn_15 rfl ?_
  refine WP_iload_n dX7_tellOn_16 rfl ?_
  refine WP_aload_n dX7_tellOn_17 rfl ?_
  refine WQ_iconst (0) (0) dX7_tellOn_18 rfl rfl (fun v581 hv581 => ?_)
  refine WE_iak (z := 0) dX7_tellOn_19 (lyx_is hy 4 13 rfl) (lyx_n hy 4 5 rfl) hv581 (by decide) e577 ?_
  refine WP_aload_n dX7_tellOn_20 rfl ?_
  refine WQ_iconst (1) (1) dX7_tellOn_21 rfl rfl (fun v583 hv583 => ?_)
  refine WE_iak (z := 1) dX7_tellOn_22 (lyx_is hy 4 13 rfl) (lyx_n hy 4 5 rfl) hv583 (by decide) e578 ?_
  refine WP_callV3 dX7_tellOn_23 ⟨⟨⟨by decide, by decide⟩, zX7_hold⟩, lX7_109, tX7_hold⟩ (lyx_is hy 6 7 rfl) (ex_holda hy hr _ _ _  (r := 12 + (P 0).toNat) (d := (P 1).toNat) hR2 (by omega) (by omega) (by omega) (by omega) (by omega) (by omega)) (Nat.le_of_ble_eq_true rfl) ?_
  intro r I586 J587 Ra hq
  obtain ⟨ec, g588, g589, er, p585⟩ := hq
  rw [ec, er]
  clear ec er Ra r
  have e591 : I586 (ad g 4) 0 = w564 := by rw [FCx_at hy g588 4 (by decide) (by decide)]; exact e577
  have e592 : I586 (ad g 4) 1 = w565 := by rw [FCx_at hy g588 4 (by decide) (by decide)]; exact e578
  have e593 : I586 (ad g 4) 2 = w566 := by rw [FCx_at hy g588 4 (by decide) (by decide)]; exact e579
  have fI594 : FC g [12, 21] I I586 := FC_tr fI580 (FC_mono g588 (by decide))
  have fJ595 : FC g [] J J587 := FC_tr fJ0 (FC_mono g589 (by decide))
  try simp only [e591, e592, e593, ew564, ew565, ew566] at p585
  exact WP_vret dX7_tellOn_26 rfl ⟨rfl, fI594, fJ595, rfl, by
    try simp only [e591, e592, e593, ew564, ew565, ew566]
    exact p585⟩
set_option maxHeartbeats 4000000 in
set_option maxRecDepth 100000 in
theorem ex_tellOn4a {g : GG} {I : pI} {J : pJ} {R : pR} (hy : LyX g) (hr : RfX g R) {a b : Nat} {S : TS} {P : Nat → Int} (cl : Int32) (hR : RTX g 6 a b S I J) (hcl : cl.toInt = 4) (hP : ∀ j, j < 3 → (I (ad g 4) j).toInt = P j) (h0 : 0 ≤ P 0 ∧ P 0 < 3) (h1 : 0 ≤ P 1 ∧ P 1 < 7) : SP g mX7_tellOn [.ref (ad g 6), .ref (ad g 18), .int cl, .ref (ad g 4)] I J R (fun r I' J' R' => R' = R ∧ FC g [18, 21] I I' ∧ FC g [] J J' ∧ r = none ∧ (RTX g 6 a b (pp S.1 12 ((P 0).toNat * 7 + (P 1).toNat) (P 2), pp S.2 (16 + (P 0).toNat) (P 1).toNat true) I' J')) := by
  refine SP_of ⟨by decide, rfl⟩ (Nat.le_of_ble_eq_true rfl) ?_
  have fI0 : FC g [18, 21] I I := FC_rf
  have fJ0 : FC g [] J J := FC_rf
  have q0 := hP 0 (by decide)
  have q1 := hP 1 (by decide)
  have q2 := hP 2 (by decide)
  obtain ⟨w596, ew596⟩ : ∃ w : Int32, I (ad g 4) 0 = w := ⟨_, rfl⟩
  obtain ⟨w597, ew597⟩ : ∃ w : Int32, I (ad g 4) 1 = w := ⟨_, rfl⟩
  obtain ⟨w598, ew598⟩ : ∃ w : Int32, I (ad g 4) 2 = w := ⟨_, rfl⟩
  try simp only [ew596, ew597, ew598] at q0 q1 q2
  refine WP_aload_n dX7_tellOn_0 rfl ?_
  refine WP_aload_n dX7_tellOn_1 rfl ?_
  refine WQ_iconst (0) (0) dX7_tellOn_2 rfl rfl (fun v599 hv599 => ?_)
  refine WE_iak (z := 0) dX7_tellOn_3 (lyx_is hy 4 13 rfl) (lyx_n hy 4 5 rfl) hv599 (by decide) ew596 ?_
  refine WQ_bipush (7) (7) dX7_tellOn_4 rfl rfl (fun v601 hv601 => ?_)
  refine WQ_imulk (7) dX7_tellOn_6 hv601 (by omega) (by omega) (fun v602 hv602 => ?_)
  refine WP_aload_n dX7_tellOn_7 rfl ?_
  refine WQ_iconst (1) (1) dX7_tellOn_8 rfl rfl (fun v603 hv603 => ?_)
  refine WE_iak (z := 1) dX7_tellOn_9 (lyx_is hy 4 13 rfl) (lyx_n hy 4 5 rfl) hv603 (by decide) ew597 ?_
  refine WQ_iadd dX7_tellOn_10 (by omega) (by omega) (fun v605 hv605 => ?_)
  refine WP_aload_n dX7_tellOn_11 rfl ?_
  refine WQ_iconst (2) (2) dX7_tellOn_12 rfl rfl (fun v606 hv606 => ?_)
  refine WE_iak (z := 2) dX7_tellOn_13 (lyx_is hy 4 13 rfl) (lyx_n hy 4 5 rfl) hv606 (by decide) ew598 ?_
  refine WE_is dX7_tellOn_14 (lyx_is hy 18 13 rfl) (lyx_n hy 18 21 rfl) (by omega) (by omega) (fun I608 eI608 => ?_)
  have e609 : I608 (ad g 4) 0 = w596 := by rw [eI608, pp_ne _ _ (Or.inl (lyx_ne hy (by decide) (by decide) (by decide)))]; exact ew596
  have e610 : I608 (ad g 4) 1 = w597 := by rw [eI608, pp_ne _ _ (Or.inl (lyx_ne hy (by decide) (by decide) (by decide)))]; exact ew597
  have e611 : I608 (ad g 4) 2 = w598 := by rw [eI608, pp_ne _ _ (Or.inl (lyx_ne hy (by decide) (by decide) (by decide)))]; exact ew598
  have fI612 : FC g [18, 21] I I608 := by rw [eI608]; exact FC_pp fI0 (by decide)
  have hR2 : RTX g 6 a b (pp S.1 12 ((P 0).toNat * 7 + (P 1).toNat) (P 2), S.2) I608 J := by rw [eI608, show v605.toInt.toNat = (P 0).toNat * 7 + (P 1).toNat by omega]; exact RTX_row hy (by decide) hR 12 _ _ _ (by decide) q2
  refine WP_aload_n dX7_tellOn_15 rfl ?_
  refine WP_iload_n dX7_tellOn_16 rfl ?_
  refine WP_aload_n dX7_tellOn_17 rfl ?_
  refine WQ_iconst (0) (0) dX7_tellOn_18 rfl rfl (fun v613 hv613 => ?_)
  refine WE_iak (z := 0) dX7_tellOn_19 (lyx_is hy 4 13 rfl) (lyx_n hy 4 5 rfl) hv613 (by decide) e609 ?_
  refine WP_aload_n dX7_tellOn_20 rfl ?_
  refine WQ_iconst (1) (1) dX7_tellOn_21 rfl rfl (fun v615 hv615 => ?_)
  refine WE_iak (z := 1) dX7_tellOn_22 (lyx_is hy 4 13 rfl) (lyx_n hy 4 5 rfl) hv615 (by decide) e610 ?_
  refine WP_callV3 dX7_tellOn_23 ⟨⟨⟨by decide, by decide⟩, zX7_hold⟩, lX7_109, tX7_hold⟩ (lyx_is hy 6 7 rfl) (ex_holda hy hr _ _ _  (r := 16 + (P 0).toNat) (d := (P 1).toNat) hR2 (by omega) (by omega) (by omega) (by omega) (by omega) (by omega)) (Nat.le_of_ble_eq_true rfl) ?_
  intro r I618 J619 Ra hq
  obtain ⟨ec, g620, g621, er, p617⟩ := hq
  rw [ec, er]
  clear ec er Ra r
  have e623 : I618 (ad g 4) 0 = w596 := by rw [FCx_at hy g620 4 (by decide) (by decide)]; exact e609
  have e624 : I618 (ad g 4) 1 = w597 := by rw [FCx_at hy g620 4 (by decide) (by decide)]; exact e610
  have e625 : I618 (ad g 4) 2 = w598 := by rw [FCx_at hy g620 4 (by decide) (by decide)]; exact e611
  have fI626 : FC g [18, 21] I I618 := FC_tr fI612 (FC_mono g620 (by decide))
  have fJ627 : FC g [] J J619 := FC_tr fJ0 (FC_mono g621 (by decide))
  try simp only [e623, e624, e625, ew596, ew597, ew598] at p617
  exact WP_vret dX7_tellOn_26 rfl ⟨rfl, fI626, fJ627, rfl, by
    try simp only [e623, e624, e625, ew596, ew597, ew598]
    exact p617⟩
set_option maxHeartbeats 4000000 in
set_option maxRecDepth 100000 in
theorem ex_tellOn5a {g : GG} {I : pI} {J : pJ} {R : pR} (hy : LyX g) (hr : RfX g R) {a b : Nat} {S : TS} {P : Nat → Int} (cl : Int32) (hR : RTX g 6 a b S I J) (hcl : cl.toInt = 5) (hP : ∀ j, j < 3 → (I (ad g 4) j).toInt = P j) (h0 : 0 ≤ P 0 ∧ P 0 < 3) (h1 : 0 ≤ P 1 ∧ P 1 < 7) : SP g mX7_tellOn [.ref (ad g 6), .ref (ad g 19), .int cl, .ref (ad g 4)] I J R (fun r I' J' R' => R' = R ∧ FC g [19, 21] I I' ∧ FC g [] J J' ∧ r = none ∧ (RTX g 6 a b (pp S.1 13 ((P 0).toNat * 7 + (P 1).toNat) (P 2), pp S.2 (20 + (P 0).toNat) (P 1).toNat true) I' J')) := by
  refine SP_of ⟨by decide, rfl⟩ (Nat.le_of_ble_eq_true rfl) ?_
  have fI0 : FC g [19, 21] I I := FC_rf
  have fJ0 : FC g [] J J := FC_rf
  have q0 := hP 0 (by decide)
  have q1 := hP 1 (by decide)
  have q2 := hP 2 (by decide)
  obtain ⟨w628, ew628⟩ : ∃ w : Int32, I (ad g 4) 0 = w := ⟨_, rfl⟩
  obtain ⟨w629, ew629⟩ : ∃ w : Int32, I (ad g 4) 1 = w := ⟨_, rfl⟩
  obtain ⟨w630, ew630⟩ : ∃ w : Int32, I (ad g 4) 2 = w := ⟨_, rfl⟩
  try simp only [ew628, ew629, ew630] at q0 q1 q2
  refine WP_aload_n dX7_tellOn_0 rfl ?_
  refine WP_aload_n dX7_tellOn_1 rfl ?_
  refine WQ_iconst (0) (0) dX7_tellOn_2 rfl rfl (fun v631 hv631 => ?_)
  refine WE_iak (z := 0) dX7_tellOn_3 (lyx_is hy 4 13 rfl) (lyx_n hy 4 5 rfl) hv631 (by decide) ew628 ?_
  refine WQ_bipush (7) (7) dX7_tellOn_4 rfl rfl (fun v633 hv633 => ?_)
  refine WQ_imulk (7) dX7_tellOn_6 hv633 (by omega) (by omega) (fun v634 hv634 => ?_)
  refine WP_aload_n dX7_tellOn_7 rfl ?_
  refine WQ_iconst (1) (1) dX7_tellOn_8 rfl rfl (fun v635 hv635 => ?_)
  refine WE_iak (z := 1) dX7_tellOn_9 (lyx_is hy 4 13 rfl) (lyx_n hy 4 5 rfl) hv635 (by decide) ew629 ?_
  refine WQ_iadd dX7_tellOn_10 (by omega) (by omega) (fun v637 hv637 => ?_)
  refine WP_aload_n dX7_tellOn_11 rfl ?_
  refine WQ_iconst (2) (2) dX7_tellOn_12 rfl rfl (fun v638 hv638 => ?_)
  refine WE_iak (z := 2) dX7_tellOn_13 (lyx_is hy 4 13 rfl) (lyx_n hy 4 5 rfl) hv638 (by decide) ew630 ?_
  refine WE_is dX7_tellOn_14 (lyx_is hy 19 13 rfl) (lyx_n hy 19 21 rfl) (by omega) (by omega) (fun I640 eI640 => ?_)
  have e641 : I640 (ad g 4) 0 = w628 := by rw [eI640, pp_ne _ _ (Or.inl (lyx_ne hy (by decide) (by decide) (by decide)))]; exact ew628
  have e642 : I640 (ad g 4) 1 = w629 := by rw [eI640, pp_ne _ _ (Or.inl (lyx_ne hy (by decide) (by decide) (by decide)))]; exact ew629
  have e643 : I640 (ad g 4) 2 = w630 := by rw [eI640, pp_ne _ _ (Or.inl (lyx_ne hy (by decide) (by decide) (by decide)))]; exact ew630
  have fI644 : FC g [19, 21] I I640 := by rw [eI640]; exact FC_pp fI0 (by decide)
  have hR2 : RTX g 6 a b (pp S.1 13 ((P 0).toNat * 7 + (P 1).toNat) (P 2), S.2) I640 J := by rw [eI640, show v637.toInt.toNat = (P 0).toNat * 7 + (P 1).toNat by omega]; exact RTX_row hy (by decide) hR 13 _ _ _ (by decide) q2
  refine WP_aload_n dX7_tellOn_15 rfl ?_
  refine WP_iload_n dX7_tellOn_16 rfl ?_
  refine WP_aload_n dX7_tellOn_17 rfl ?_
  refine WQ_iconst (0) (0) dX7_tellOn_18 rfl rfl (fun v645 hv645 => ?_)
  refine WE_iak (z := 0) dX7_tellOn_19 (lyx_is hy 4 13 rfl) (lyx_n hy 4 5 rfl) hv645 (by decide) e641 ?_
  refine WP_aload_n dX7_tellOn_20 rfl ?_
  refine WQ_iconst (1) (1) dX7_tellOn_21 rfl rfl (fun v647 hv647 => ?_)
  refine WE_iak (z := 1) dX7_tellOn_22 (lyx_is hy 4 13 rfl) (lyx_n hy 4 5 rfl) hv647 (by decide) e642 ?_
  refine WP_callV3 dX7_tellOn_23 ⟨⟨⟨by decide, by decide⟩, zX7_hold⟩, lX7_109, tX7_hold⟩ (lyx_is hy 6 7 rfl) (ex_holda hy hr _ _ _  (r := 20 + (P 0).toNat) (d := (P 1).toNat) hR2 (by omega) (by omega) (by omega) (by omega) (by omega) (by omega)) (Nat.le_of_ble_eq_true rfl) ?_
  intro r I650 J651 Ra hq
  obtain ⟨ec, g652, g653, er, p649⟩ := hq
  rw [ec, er]
  clear ec er Ra r
  have e655 : I650 (ad g 4) 0 = w628 := by rw [FCx_at hy g652 4 (by decide) (by decide)]; exact e641
  have e656 : I650 (ad g 4) 1 = w629 := by rw [FCx_at hy g652 4 (by decide) (by decide)]; exact e642
  have e657 : I650 (ad g 4) 2 = w630 := by rw [FCx_at hy g652 4 (by decide) (by decide)]; exact e643
  have fI658 : FC g [19, 21] I I650 := FC_tr fI644 (FC_mono g652 (by decide))
  have fJ659 : FC g [] J J651 := FC_tr fJ0 (FC_mono g653 (by decide))
  try simp only [e655, e656, e657, ew628, ew629, ew630] at p649
  exact WP_vret dX7_tellOn_26 rfl ⟨rfl, fI658, fJ659, rfl, by
    try simp only [e655, e656, e657, ew628, ew629, ew630]
    exact p649⟩
set_option maxHeartbeats 4000000 in
set_option maxRecDepth 100000 in
theorem ex_tellWanta {g : GG} {I : pI} {J : pJ} {R : pR} (hy : LyX g) (hr : RfX g R) {a b : Nat} {S : TS} {P : Nat → Int}  (hR : RTX g 6 a b S I J) (hP : ∀ j, j < 5 → (I (ad g 4) j).toInt = P j) (h0 : 0 ≤ P 0 ∧ P 0 < 4) (h1 : 0 ≤ P 2 ∧ P 2 < 7) : SP g mX7_tellWant [.ref (ad g 6), .ref (ad g 4)] I J R (fun r I' J' R' => R' = R ∧ FC g [13, 14, 15, 21] I I' ∧ FC g [] J J' ∧ r = none ∧ (RTX g 6 a b (pp (pp (pp S.1 7 ((P 0).toNat * 7 + (P 2).toNat) (P 1)) 8 ((P 0).toNat * 7 + (P 2).toNat) (P 3)) 9 ((P 0).toNat * 7 + (P 2).toNat) (P 4), pp S.2 (24 + (P 0).toNat) (P 2).toNat true) I' J')) := by
  refine SP_of ⟨by decide, rfl⟩ (Nat.le_of_ble_eq_true rfl) ?_
  have fI0 : FC g [13, 14, 15, 21] I I := FC_rf
  have fJ0 : FC g [] J J := FC_rf
  have q0 := hP 0 (by decide)
  have q1 := hP 1 (by decide)
  have q2 := hP 2 (by decide)
  have q3 := hP 3 (by decide)
  have q4 := hP 4 (by decide)
  obtain ⟨w660, ew660⟩ : ∃ w : Int32, I (ad g 4) 0 = w := ⟨_, rfl⟩
  obtain ⟨w661, ew661⟩ : ∃ w : Int32, I (ad g 4) 1 = w := ⟨_, rfl⟩
  obtain ⟨w662, ew662⟩ : ∃ w : Int32, I (ad g 4) 2 = w := ⟨_, rfl⟩
  obtain ⟨w663, ew663⟩ : ∃ w : Int32, I (ad g 4) 3 = w := ⟨_, rfl⟩
  obtain ⟨w664, ew664⟩ : ∃ w : Int32, I (ad g 4) 4 = w := ⟨_, rfl⟩
  try simp only [ew660, ew661, ew662, ew663, ew664] at q0 q1 q2 q3 q4
  refine WP_aload_n dX7_tellWant_0 rfl ?_
  refine WQ_iconst (0) (0) dX7_tellWant_1 rfl rfl (fun v665 hv665 => ?_)
  refine WE_iak (z := 0) dX7_tellWant_2 (lyx_is hy 4 13 rfl) (lyx_n hy 4 5 rfl) hv665 (by decide) ew660 ?_
  refine WQ_bipush (7) (7) dX7_tellWant_3 rfl rfl (fun v667 hv667 => ?_)
  refine WQ_imulk (7) dX7_tellWant_5 hv667 (by omega) (by omega) (fun v668 hv668 => ?_)
  refine WP_aload_n dX7_tellWant_6 rfl ?_
  refine WQ_iconst (2) (2) dX7_tellWant_7 rfl rfl (fun v669 hv669 => ?_)
  refine WE_iak (z := 2) dX7_tellWant_8 (lyx_is hy 4 13 rfl) (lyx_n hy 4 5 rfl) hv669 (by decide) ew662 ?_
  refine WQ_iadd dX7_tellWant_9 (by omega) (by omega) (fun v671 hv671 => ?_)
  refine WP_istore_n (ls' := [(0, _), (1, _), (2, _)]) dX7_tellWant_10 (by decide) rfl ?_
  refine WP_aload_n dX7_tellWant_11 rfl ?_
  refine WP_getr dX7_tellWant_12 fX7_30 rfl (lyx_is hy 6 7 rfl) (rfx hr 6 11 13 (by decide)) ?_
  refine WP_iload_n dX7_tellWant_15 rfl ?_
  refine WP_aload_n dX7_tellWant_16 rfl ?_
  refine WQ_iconst (1) (1) dX7_tellWant_17 rfl rfl (fun v672 hv672 => ?_)
  refine WE_iak (z := 1) dX7_tellWant_18 (lyx_is hy 4 13 rfl) (lyx_n hy 4 5 rfl) hv672 (by decide) ew661 ?_
  refine WE_is dX7_tellWant_19 (lyx_is hy 13 13 rfl) (lyx_n hy 13 28 rfl) (by omega) (by omega) (fun I674 eI674 => ?_)
  have e675 : I674 (ad g 4) 0 = w660 := by rw [eI674, pp_ne _ _ (Or.inl (lyx_ne hy (by decide) (by decide) (by decide)))]; exact ew660
  have e676 : I674 (ad g 4) 1 = w661 := by rw [eI674, pp_ne _ _ (Or.inl (lyx_ne hy (by decide) (by decide) (by decide)))]; exact ew661
  have e677 : I674 (ad g 4) 2 = w662 := by rw [eI674, pp_ne _ _ (Or.inl (lyx_ne hy (by decide) (by decide) (by decide)))]; exact ew662
  have e678 : I674 (ad g 4) 3 = w663 := by rw [eI674, pp_ne _ _ (Or.inl (lyx_ne hy (by decide) (by decide) (by decide)))]; exact ew663
  have e679 : I674 (ad g 4) 4 = w664 := by rw [eI674, pp_ne _ _ (Or.inl (lyx_ne hy (by decide) (by decide) (by decide)))]; exact ew664
  have fI680 : FC g [13, 14, 15, 21] I I674 := by rw [eI674]; exact FC_pp fI0 (by decide)
  have hR2 : RTX g 6 a b (pp S.1 7 ((P 0).toNat * 7 + (P 2).toNat) (P 1), S.2) I674 J := by rw [eI674, show v671.toInt.toNat = ((P 0).toNat * 7 + (P 2).toNat) by omega]; exact RTX_row hy (by decide) hR 7 _ _ _ (by decide) q1
  refine WP_aload_n dX7_tellWant_20 rfl ?_
  refine WP_getr dX7_tellWant_21 fX7_33 rfl (lyx_is hy 6 7 rfl) (rfx hr 6 12 14 (by decide)) ?_
  refine WP_iload_n dX7_tellWant_24 rfl ?_
  refine WP_aload_n dX7_tellWant_25 rfl ?_
  refine WQ_iconst (3) (3) dX7_tellWant_26 rfl rfl (fun v681 hv681 => ?_)
  refine WE_iak (z := 3) dX7_tellWant_27 (lyx_is hy 4 13 rfl) (lyx_n hy 4 5 rfl) hv681 (by decide) e678 ?_
  refine WE_is dX7_tellWant_28 (lyx_is hy 14 13 rfl) (lyx_n hy 14 28 rfl) (by omega) (by omega) (fun I683 eI683 => ?_)
  have e684 : I683 (ad g 4) 0 = w660 := by rw [eI683, pp_ne _ _ (Or.inl (lyx_ne hy (by decide) (by decide) (by decide)))]; exact e675
  have e685 : I683 (ad g 4) 1 = w661 := by rw [eI683, pp_ne _ _ (Or.inl (lyx_ne hy (by decide) (by decide) (by decide)))]; exact e676
  have e686 : I683 (ad g 4) 2 = w662 := by rw [eI683, pp_ne _ _ (Or.inl (lyx_ne hy (by decide) (by decide) (by decide)))]; exact e677
  have e687 : I683 (ad g 4) 3 = w663 := by rw [eI683, pp_ne _ _ (Or.inl (lyx_ne hy (by decide) (by decide) (by decide)))]; exact e678
  have e688 : I683 (ad g 4) 4 = w664 := by rw [eI683, pp_ne _ _ (Or.inl (lyx_ne hy (by decide) (by decide) (by decide)))]; exact e679
  have fI689 : FC g [13, 14, 15, 21] I I683 := by rw [eI683]; exact FC_pp fI680 (by decide)
  have hR3 : RTX g 6 a b (pp (pp S.1 7 ((P 0).toNat * 7 + (P 2).toNat) (P 1)) 8 ((P 0).toNat * 7 + (P 2).toNat) (P 3), S.2) I683 J := by rw [eI683, show v671.toInt.toNat = ((P 0).toNat * 7 + (P 2).toNat) by omega]; exact RTX_row hy (by decide) hR2 8 _ _ _ (by decide) q3
  refine WP_aload_n dX7_tellWant_29 rfl ?_
  refine WP_getr dX7_tellWant_30 fX7_36 rfl (lyx_is hy 6 7 rfl) (rfx hr 6 13 15 (by decide)) ?_
  refine WP_iload_n dX7_tellWant_33 rfl ?_
  refine WP_aload_n dX7_tellWant_34 rfl ?_
  refine WQ_iconst (4) (4) dX7_tellWant_35 rfl rfl (fun v690 hv690 => ?_)
  refine WE_iak (z := 4) dX7_tellWant_36 (lyx_is hy 4 13 rfl) (lyx_n hy 4 5 rfl) hv690 (by decide) e688 ?_
  refine WE_is dX7_tellWant_37 (lyx_is hy 15 13 rfl) (lyx_n hy 15 28 rfl) (by omega) (by omega) (fun I692 eI692 => ?_)
  have e693 : I692 (ad g 4) 0 = w660 := by rw [eI692, pp_ne _ _ (Or.inl (lyx_ne hy (by decide) (by decide) (by decide)))]; exact e684
  have e694 : I692 (ad g 4) 1 = w661 := by rw [eI692, pp_ne _ _ (Or.inl (lyx_ne hy (by decide) (by decide) (by decide)))]; exact e685
  have e695 : I692 (ad g 4) 2 = w662 := by rw [eI692, pp_ne _ _ (Or.inl (lyx_ne hy (by decide) (by decide) (by decide)))]; exact e686
  have e696 : I692 (ad g 4) 3 = w663 := by rw [eI692, pp_ne _ _ (Or.inl (lyx_ne hy (by decide) (by decide) (by decide)))]; exact e687
  have e697 : I692 (ad g 4) 4 = w664 := by rw [eI692, pp_ne _ _ (Or.inl (lyx_ne hy (by decide) (by decide) (by decide)))]; exact e688
  have fI698 : FC g [13, 14, 15, 21] I I692 := by rw [eI692]; exact FC_pp fI689 (by decide)
  have hR4 : RTX g 6 a b (pp (pp (pp S.1 7 ((P 0).toNat * 7 + (P 2).toNat) (P 1)) 8 ((P 0).toNat * 7 + (P 2).toNat) (P 3)) 9 ((P 0).toNat * 7 + (P 2).toNat) (P 4), S.2) I692 J := by rw [eI692, show v671.toInt.toNat = ((P 0).toNat * 7 + (P 2).toNat) by omega]; exact RTX_row hy (by decide) hR3 9 _ _ _ (by decide) q4
  refine WP_aload_n dX7_tellWant_38 rfl ?_
  refine WQ_bipush (6) (6) dX7_tellWant_39 rfl rfl (fun v699 hv699 => ?_)
  refine WP_aload_n dX7_tellWant_41 rfl ?_
  refine WQ_iconst (0) (0) dX7_tellWant_42 rfl rfl (fun v700 hv700 => ?_)
  refine WE_iak (z := 0) dX7_tellWant_43 (lyx_is hy 4 13 rfl) (lyx_n hy 4 5 rfl) hv700 (by decide) e693 ?_
  refine WP_aload_n dX7_tellWant_44 rfl ?_
  refine WQ_iconst (2) (2) dX7_tellWant_45 rfl rfl (fun v702 hv702 => ?_)
  refine WE_iak (z := 2) dX7_tellWant_46 (lyx_is hy 4 13 rfl) (lyx_n hy 4 5 rfl) hv702 (by decide) e695 ?_
  refine WP_callV3 dX7_tellWant_47 ⟨⟨⟨by decide, by decide⟩, zX7_hold⟩, lX7_109, tX7_hold⟩ (lyx_is hy 6 7 rfl) (ex_holda hy hr _ _ _  (r := 24 + (P 0).toNat) (d := (P 2).toNat) hR4 (by omega) (by omega) (by omega) (by omega) (by omega) (by omega)) (Nat.le_of_ble_eq_true rfl) ?_
  intro r I705 J706 Ra hq
  obtain ⟨ec, g707, g708, er, p704⟩ := hq
  rw [ec, er]
  clear ec er Ra r
  have e710 : I705 (ad g 4) 0 = w660 := by rw [FCx_at hy g707 4 (by decide) (by decide)]; exact e693
  have e711 : I705 (ad g 4) 1 = w661 := by rw [FCx_at hy g707 4 (by decide) (by decide)]; exact e694
  have e712 : I705 (ad g 4) 2 = w662 := by rw [FCx_at hy g707 4 (by decide) (by decide)]; exact e695
  have e713 : I705 (ad g 4) 3 = w663 := by rw [FCx_at hy g707 4 (by decide) (by decide)]; exact e696
  have e714 : I705 (ad g 4) 4 = w664 := by rw [FCx_at hy g707 4 (by decide) (by decide)]; exact e697
  have fI715 : FC g [13, 14, 15, 21] I I705 := FC_tr fI698 (FC_mono g707 (by decide))
  have fJ716 : FC g [] J J706 := FC_tr fJ0 (FC_mono g708 (by decide))
  try simp only [e710, e711, e712, e713, e714, ew660, ew661, ew662, ew663, ew664] at p704
  exact WP_vret dX7_tellWant_50 rfl ⟨rfl, fI715, fJ716, rfl, by
    try simp only [e710, e711, e712, e713, e714, ew660, ew661, ew662, ew663, ew664]
    exact p704⟩
set_option maxHeartbeats 4000000 in
set_option maxRecDepth 100000 in
theorem ex_tellSorta {g : GG} {I : pI} {J : pJ} {R : pR} (hy : LyX g) (hr : RfX g R) {a b : Nat} {S : TS} {P : Nat → Int}  (hR : RTX g 6 a b S I J) (hP : ∀ j, 1 ≤ j → j < 4 → (I (ad g 4) j).toInt = P j) (h0 : 0 ≤ S.1 0 1 ∧ S.1 0 1 < 4) : SP g mX7_tellSort [.ref (ad g 6), .ref (ad g 4)] I J R (fun r I' J' R' => R' = R ∧ FC g [6, 8, 9, 10] I I' ∧ FC g [] J J' ∧ r = none ∧ (RTX g 6 a b (pp (pp (pp (pp S.1 2 (S.1 0 1).toNat (P 1)) 3 (S.1 0 1).toNat (P 2)) 4 (S.1 0 1).toNat (P 3)) 0 1 (S.1 0 1 + 1), S.2) I' J')) := by
  refine SP_of ⟨by decide, rfl⟩ (Nat.le_of_ble_eq_true rfl) ?_
  have fI0 : FC g [6, 8, 9, 10] I I := FC_rf
  have fJ0 : FC g [] J J := FC_rf
  have hs := hR.1 1 (by decide)
  have q1 := hP 1 (by decide) (by decide)
  have q2 := hP 2 (by decide) (by decide)
  have q3 := hP 3 (by decide) (by decide)
  obtain ⟨w717, ew717⟩ : ∃ w : Int32, I (ad g 4) 1 = w := ⟨_, rfl⟩
  obtain ⟨w718, ew718⟩ : ∃ w : Int32, I (ad g 4) 2 = w := ⟨_, rfl⟩
  obtain ⟨w719, ew719⟩ : ∃ w : Int32, I (ad g 4) 3 = w := ⟨_, rfl⟩
  obtain ⟨w720, ew720⟩ : ∃ w : Int32, I (ad g 6) 1 = w := ⟨_, rfl⟩
  try simp only [ew717, ew718, ew719, ew720] at q1 q2 q3 hs
  refine WP_aload_n dX7_tellSort_0 rfl ?_
  refine WP_getr dX7_tellSort_1 fX7_15 rfl (lyx_is hy 6 7 rfl) (rfx hr 6 6 8 (by decide)) ?_
  refine WP_aload_n dX7_tellSort_4 rfl ?_
  refine WQ_getim dX7_tellSort_5 fX7_65 rfl (lyx_is hy 6 7 rfl) ew720 ?_
  refine WP_aload_n dX7_tellSort_8 rfl ?_
  refine WQ_iconst (1) (1) dX7_tellSort_9 rfl rfl (fun v721 hv721 => ?_)
  refine WE_iak (z := 1) dX7_tellSort_10 (lyx_is hy 4 13 rfl) (lyx_n hy 4 5 rfl) hv721 (by decide) ew717 ?_
  refine WE_is dX7_tellSort_11 (lyx_is hy 8 13 rfl) (lyx_n hy 8 4 rfl) (by omega) (by omega) (fun I723 eI723 => ?_)
  have e724 : I723 (ad g 4) 1 = w717 := by rw [eI723, pp_ne _ _ (Or.inl (lyx_ne hy (by decide) (by decide) (by decide)))]; exact ew717
  have e725 : I723 (ad g 4) 2 = w718 := by rw [eI723, pp_ne _ _ (Or.inl (lyx_ne hy (by decide) (by decide) (by decide)))]; exact ew718
  have e726 : I723 (ad g 4) 3 = w719 := by rw [eI723, pp_ne _ _ (Or.inl (lyx_ne hy (by decide) (by decide) (by decide)))]; exact ew719
  have e727 : I723 (ad g 6) 1 = w720 := by rw [eI723, pp_ne _ _ (Or.inl (lyx_ne hy (by decide) (by decide) (by decide)))]; exact ew720
  have fI728 : FC g [6, 8, 9, 10] I I723 := by rw [eI723]; exact FC_pp fI0 (by decide)
  refine WP_aload_n dX7_tellSort_12 rfl ?_
  refine WP_getr dX7_tellSort_13 fX7_18 rfl (lyx_is hy 6 7 rfl) (rfx hr 6 7 9 (by decide)) ?_
  refine WP_aload_n dX7_tellSort_16 rfl ?_
  refine WQ_getim dX7_tellSort_17 fX7_65 rfl (lyx_is hy 6 7 rfl) e727 ?_
  refine WP_aload_n dX7_tellSort_20 rfl ?_
  refine WQ_iconst (2) (2) dX7_tellSort_21 rfl rfl (fun v729 hv729 => ?_)
  refine WE_iak (z := 2) dX7_tellSort_22 (lyx_is hy 4 13 rfl) (lyx_n hy 4 5 rfl) hv729 (by decide) e725 ?_
  refine WE_is dX7_tellSort_23 (lyx_is hy 9 13 rfl) (lyx_n hy 9 4 rfl) (by omega) (by omega) (fun I731 eI731 => ?_)
  have e732 : I731 (ad g 4) 1 = w717 := by rw [eI731, pp_ne _ _ (Or.inl (lyx_ne hy (by decide) (by decide) (by decide)))]; exact e724
  have e733 : I731 (ad g 4) 2 = w718 := by rw [eI731, pp_ne _ _ (Or.inl (lyx_ne hy (by decide) (by decide) (by decide)))]; exact e725
  have e734 : I731 (ad g 4) 3 = w719 := by rw [eI731, pp_ne _ _ (Or.inl (lyx_ne hy (by decide) (by decide) (by decide)))]; exact e726
  have e735 : I731 (ad g 6) 1 = w720 := by rw [eI731, pp_ne _ _ (Or.inl (lyx_ne hy (by decide) (by decide) (by decide)))]; exact e727
  have fI736 : FC g [6, 8, 9, 10] I I731 := by rw [eI731]; exact FC_pp fI728 (by decide)
  refine WP_aload_n dX7_tellSort_24 rfl ?_
  refine WP_getr dX7_tellSort_25 fX7_21 rfl (lyx_is hy 6 7 rfl) (rfx hr 6 8 10 (by decide)) ?_
  refine WP_aload_n dX7_tellSort_28 rfl ?_
  refine WQ_getim dX7_tellSort_29 fX7_65 rfl (lyx_is hy 6 7 rfl) e735 ?_
  refine WP_aload_n dX7_tellSort_32 rfl ?_
  refine WQ_iconst (3) (3) dX7_tellSort_33 rfl rfl (fun v737 hv737 => ?_)
  refine WE_iak (z := 3) dX7_tellSort_34 (lyx_is hy 4 13 rfl) (lyx_n hy 4 5 rfl) hv737 (by decide) e734 ?_
  refine WE_is dX7_tellSort_35 (lyx_is hy 10 13 rfl) (lyx_n hy 10 4 rfl) (by omega) (by omega) (fun I739 eI739 => ?_)
  have e740 : I739 (ad g 4) 1 = w717 := by rw [eI739, pp_ne _ _ (Or.inl (lyx_ne hy (by decide) (by decide) (by decide)))]; exact e732
  have e741 : I739 (ad g 4) 2 = w718 := by rw [eI739, pp_ne _ _ (Or.inl (lyx_ne hy (by decide) (by decide) (by decide)))]; exact e733
  have e742 : I739 (ad g 4) 3 = w719 := by rw [eI739, pp_ne _ _ (Or.inl (lyx_ne hy (by decide) (by decide) (by decide)))]; exact e734
  have e743 : I739 (ad g 6) 1 = w720 := by rw [eI739, pp_ne _ _ (Or.inl (lyx_ne hy (by decide) (by decide) (by decide)))]; exact e735
  have fI744 : FC g [6, 8, 9, 10] I I739 := by rw [eI739]; exact FC_pp fI736 (by decide)
  refine WP_aload_n dX7_tellSort_36 rfl ?_
  refine WP_dup dX7_tellSort_37 rfl ?_
  refine WQ_getim dX7_tellSort_38 fX7_65 rfl (lyx_is hy 6 7 rfl) e743 ?_
  refine WQ_iconst (1) (1) dX7_tellSort_41 rfl rfl (fun v745 hv745 => ?_)
  refine WQ_iadd dX7_tellSort_42 (by omega) (by omega) (fun v746 hv746 => ?_)
  refine WQ_puti dX7_tellSort_43 fX7_65 rfl rfl (lyx_is hy 6 7 rfl) (fun I747 eI747 => ?_)
  have e748 : I747 (ad g 4) 1 = w717 := by rw [eI747, pp_ne _ _ (Or.inl (lyx_ne hy (by decide) (by decide) (by decide)))]; exact e740
  have e749 : I747 (ad g 4) 2 = w718 := by rw [eI747, pp_ne _ _ (Or.inl (lyx_ne hy (by decide) (by decide) (by decide)))]; exact e741
  have e750 : I747 (ad g 4) 3 = w719 := by rw [eI747, pp_ne _ _ (Or.inl (lyx_ne hy (by decide) (by decide) (by decide)))]; exact e742
  have e751 : I747 (ad g 6) 1 = v746 := by rw [eI747, pp_self]
  have fI752 : FC g [6, 8, 9, 10] I I747 := by rw [eI747]; exact FC_pp fI744 (by decide)
  exact WP_vret dX7_tellSort_46 rfl ⟨rfl, fI752, fJ0, rfl, by
    try simp only [e748, e749, e750, e751, ew717, ew718, ew719, ew720]
    rw [eI747, eI739, eI731, eI723, show w720.toInt.toNat = (S.1 0 1).toNat by omega]
    exact RTX_sort hy (by decide) hR _ _ _ _ _ _ _ _ (by omega) q1 q2 q3 (by omega)⟩
set_option maxHeartbeats 4000000 in
set_option maxRecDepth 100000 in
theorem ex_namedb {g : GG} {I : pI} {J : pJ} {R : pR} (hy : LyX g) (hr : RfX g R) {nm : Nat → Int} {b k : Nat} (wd : Int64) (fr : Int32) (mn : Int32) (hf : fr.toInt = (b : Int)) (hk : mn.toInt = (k : Int)) (hbk : b + k ≤ 7) (hN : ∀ q, q < k → (J (ad g 41) (b + q)).toInt = nm (b + q)) : SP g mX7_named [.ref (ad g 27), .long wd, .int fr, .int mn] I J R (fun r I' J' R' => (I' = I ∧ J' = J ∧ R' = R) ∧ ∃ v : Int32, r = some (.int v) ∧ (v.toInt = fnd nm b wd.toInt k 0)) := by
  refine SP_of ⟨by decide, rfl⟩ (Nat.le_of_ble_eq_true rfl) ?_
  refine WQ_iconst (0) (0) dX7_named_0 rfl rfl (fun v753 hv753 => ?_)
  refine WP_istore (ls' := [(0, _), (1, _), (3, _), (4, _), (5, _)]) dX7_named_1 (by decide) rfl ?_
  have lp755 : ∀ (mz : Nat) (i754 : Int32), (∃ j : Nat, i754.toInt = (j : Int) ∧ j ≤ k ∧ fnd nm b wd.toInt (k - j) j = fnd nm b wd.toInt k 0) → (k - i754.toInt.toNat) < mz → WP g mX7_named 3 [(0, .ref (ad g 27)), (1, .long wd), (3, .int fr), (4, .int mn), (5, .int i754)] [] I J R (fun r I' J' R' => (I' = I ∧ J' = J ∧ R' = R) ∧ ∃ v : Int32, r = some (.int v) ∧ (v.toInt = fnd nm b wd.toInt k 0)) := by
    intro mz
    induction mz with
    | zero =>
      intro i754  hvlp755 hmlp755
      exact absurd hmlp755 (Nat.not_lt_zero _)
    | succ mz ihlp755 =>
      intro i754  hvlp755 hmlp755
      obtain ⟨j, ij, ijk, ifn⟩ := hvlp755
      refine WP_iload dX7_named_3 rfl ?_
      refine WP_iload dX7_named_5 rfl ?_
      refine WQ_icmp_ge 33 dX7_named_7 rfl (fun c755 => ?_) (fun c755 => ?_)
      · refine WQ_iconst (-1) (-1) dX7_named_33 rfl rfl (fun v757 hv757 => ?_)
        exact WP_iret dX7_named_34 rfl ⟨⟨rfl, rfl, rfl⟩, v757, rfl, by
          rw [← ifn, fnd_end (by omega)]; omega⟩
      · refine WP_aload_n dX7_named_10 rfl ?_
        refine WP_getr dX7_named_11 fX7_51 rfl (lyx_is hy 27 7 rfl) (rfx hr 27 18 41 (by decide)) ?_
        refine WP_iload_n dX7_named_14 rfl ?_
        refine WP_iload dX7_named_15 rfl ?_
        refine WQ_iadd dX7_named_17 (by omega) (by omega) (fun v758 hv758 => ?_)
        refine WE_la dX7_named_18 (lyx_is hy 41 14 rfl) (lyx_n hy 41 7 rfl) (by omega) (by omega) (fun l759 el759 => ?_)
        refine WP_lload_n dX7_named_19 rfl ?_
        have hn20 : l759.toInt = nm (b + j) := by rw [← el759, ← hN j (by omega)]; congr 2; omega
        refine WP_lcmp dX7_named_20 ?_
        obtain ⟨v760, xv760⟩ : ∃ v : Int32, v = lg_cmp l759 wd := ⟨_, rfl⟩
        rw [← xv760]
        have hv760 := cmp_z l759 wd v760 xv760
        refine WQ_if_ne 27 dX7_named_21 rfl (fun c760 => ?_) (fun c760 => ?_)
        · have hne : nm (b + j) ≠ wd.toInt := by intro e; omega
          refine WP_iinc (ls' := [(0, _), (1, _), (3, _), (4, _), (5, _)]) dX7_named_27 rfl (by decide) rfl ?_
          have hv762 : (i754 + Int32.ofInt (1)).toInt = i754.toInt + (1) := ia_n rfl (by omega) (by omega)
          generalize i754 + Int32.ofInt (1) = v762 at hv762 ⊢
          refine WP_goto 3 dX7_named_30 rfl ?_
          refine WP_sub (fc rfl (fc rfl (fc rfl (fc rfl (fc rfl fn))))) (ihlp755 v762  ?_ ?_)
          · refine ⟨j + 1, by omega, by omega, ?_⟩
            rw [← fnd_go (by omega) hne]; exact ifn
          · omega
        · refine WP_iload dX7_named_24 rfl ?_
          exact WP_iret dX7_named_26 rfl ⟨⟨rfl, rfl, rfl⟩, i754, rfl, by
            rw [← ifn, fnd_at (by omega) (by omega)]; omega⟩
  refine WP_sub (fc rfl (fc rfl (fc rfl (fc rfl (fc rfl fn))))) (lp755 _ v753  ?_ (Nat.lt_succ_self _))
  · exact ⟨0, by omega, by omega, rfl⟩
set_option maxHeartbeats 4000000 in
set_option maxRecDepth 100000 in
theorem ex_sortNamedb {g : GG} {I : pI} {J : pJ} {R : pR} (hy : LyX g) (hr : RfX g R) {a b : Nat} {S : TS} (wd : Int64) (hR : RTX g 27 a b S I J) (hB : SB S) (ha : S.1 0 1 ≤ a) : SP g mX7_sortNamed [.ref (ad g 27), .long wd] I J R (fun r I' J' R' => (I' = I ∧ J' = J ∧ R' = R) ∧ ∃ v : Int32, r = some (.int v) ∧ (v.toInt = fnS S wd.toInt)) := by
  refine SP_of ⟨by decide, rfl⟩ (Nat.le_of_ble_eq_true rfl) ?_
  have hs := hR.1 1 (by decide)
  obtain ⟨b1, b2, b3, b4⟩ := hB
  obtain ⟨w763, ew763⟩ : ∃ w : Int32, I (ad g 27) 1 = w := ⟨_, rfl⟩
  try simp only [ew763] at hs
  refine WP_aload_n dX7_sortNamed_0 rfl ?_
  refine WP_lload_n dX7_sortNamed_1 rfl ?_
  refine WQ_iconst (0) (0) dX7_sortNamed_2 rfl rfl (fun v764 hv764 => ?_)
  refine WP_aload_n dX7_sortNamed_3 rfl ?_
  refine WQ_getim dX7_sortNamed_4 fX7_65 rfl (lyx_is hy 27 7 rfl) ew763 ?_
  refine WP_callV3 dX7_sortNamed_7 ⟨⟨⟨by decide, by decide⟩, zX7_named⟩, lX7_83, tX7_named⟩ (lyx_is hy 27 7 rfl) (ex_namedb hy hr _ _ _  (nm := S.1 14) (b := 0) (k := (S.1 0 1).toNat) (by omega) (by omega) (by omega) (fun q hq => hR.2.2.2.2.1 (0 + q) (by omega))) (Nat.le_of_ble_eq_true rfl) ?_
  intro r Ia Ja Ra hq
  obtain ⟨⟨ea, eb, ec⟩, v766, er, p765⟩ := hq
  rw [ea, eb, ec, er]
  clear ea eb ec er Ia Ja Ra r
  exact WP_iret dX7_sortNamed_10 rfl ⟨⟨rfl, rfl, rfl⟩, v766, rfl, by
    try simp only [ew763]
    exact p765⟩
set_option maxHeartbeats 4000000 in
set_option maxRecDepth 100000 in
theorem ex_thingNamedb {g : GG} {I : pI} {J : pJ} {R : pR} (hy : LyX g) (hr : RfX g R) {a b : Nat} {S : TS} (wd : Int64) (hR : RTX g 27 a b S I J) (hB : SB S) (ha : S.1 0 2 ≤ b) : SP g mX7_thingNamed [.ref (ad g 27), .long wd] I J R (fun r I' J' R' => (I' = I ∧ J' = J ∧ R' = R) ∧ ∃ v : Int32, r = some (.int v) ∧ (v.toInt = fnT S wd.toInt)) := by
  refine SP_of ⟨by decide, rfl⟩ (Nat.le_of_ble_eq_true rfl) ?_
  have hs := hR.1 2 (by decide)
  obtain ⟨b1, b2, b3, b4⟩ := hB
  obtain ⟨w767, ew767⟩ : ∃ w : Int32, I (ad g 27) 2 = w := ⟨_, rfl⟩
  try simp only [ew767] at hs
  refine WP_aload_n dX7_thingNamed_0 rfl ?_
  refine WP_lload_n dX7_thingNamed_1 rfl ?_
  refine WQ_iconst (4) (4) dX7_thingNamed_2 rfl rfl (fun v768 hv768 => ?_)
  refine WP_aload_n dX7_thingNamed_3 rfl ?_
  refine WQ_getim dX7_thingNamed_4 fX7_68 rfl (lyx_is hy 27 7 rfl) ew767 ?_
  refine WP_callV3 dX7_thingNamed_7 ⟨⟨⟨by decide, by decide⟩, zX7_named⟩, lX7_83, tX7_named⟩ (lyx_is hy 27 7 rfl) (ex_namedb hy hr _ _ _  (nm := S.1 14) (b := 4) (k := (S.1 0 2).toNat) (by omega) (by omega) (by omega) (fun q hq => hR.2.2.2.2.1 (4 + q) (by omega))) (Nat.le_of_ble_eq_true rfl) ?_
  intro r Ia Ja Ra hq
  obtain ⟨⟨ea, eb, ec⟩, v770, er, p769⟩ := hq
  rw [ea, eb, ec, er]
  clear ea eb ec er Ia Ja Ra r
  exact WP_iret dX7_thingNamed_10 rfl ⟨⟨rfl, rfl, rfl⟩, v770, rfl, by
    try simp only [ew767]
    exact p769⟩
set_option maxHeartbeats 4000000 in
set_option maxRecDepth 100000 in
theorem ex_nameb {g : GG} {I : pI} {J : pJ} {R : pR} (hy : LyX g) (hr : RfX g R) {a b : Nat} {S : TS} (os : Int32) (wd : Int64) (hR : RTX g 27 a b S I J) (hB : SB S) (ha : S.1 0 1 = a) (hb : S.1 0 2 = b) (h4 : os.toInt ≠ 0 → a < 4) (h3 : os.toInt = 0 → b < 3) : SP g mX7_name [.ref (ad g 27), .int os, .long wd] I J R (fun r I' J' R' => R' = R ∧ FC g [] I I' ∧ FC g [41] J J' ∧ r = none ∧ ((os.toInt ≠ 0 → RTX g 27 (a + 1) b (pp S.1 14 (S.1 0 1).toNat wd.toInt, S.2) I' J') ∧ (os.toInt = 0 → RTX g 27 a (b + 1) (pp S.1 14 (4 + (S.1 0 2).toNat) wd.toInt, S.2) I' J'))) := by
  refine SP_of ⟨by decide, rfl⟩ (Nat.le_of_ble_eq_true rfl) ?_
  have fI0 : FC g [] I I := FC_rf
  have fJ0 : FC g [41] J J := FC_rf
  have hs := hR.1 1 (by decide)
  have ht := hR.1 2 (by decide)
  obtain ⟨b1, b2, b3, b4⟩ := hB
  obtain ⟨w771, ew771⟩ : ∃ w : Int32, I (ad g 27) 1 = w := ⟨_, rfl⟩
  obtain ⟨w772, ew772⟩ : ∃ w : Int32, I (ad g 27) 2 = w := ⟨_, rfl⟩
  try simp only [ew771, ew772] at hs ht
  refine WP_aload_n dX7_name_0 rfl ?_
  refine WP_getr dX7_name_1 fX7_51 rfl (lyx_is hy 27 7 rfl) (rfx hr 27 18 41 (by decide)) ?_
  refine WP_iload_n dX7_name_4 rfl ?_
  refine WQ_if_eq 15 dX7_name_5 rfl (fun c772 => ?_) (fun c772 => ?_)
  · refine WQ_iconst (4) (4) dX7_name_15 rfl rfl (fun v774 hv774 => ?_)
    refine WP_aload_n dX7_name_16 rfl ?_
    refine WQ_getim dX7_name_17 fX7_68 rfl (lyx_is hy 27 7 rfl) ew772 ?_
    refine WQ_iadd dX7_name_20 (by omega) (by omega) (fun v775 hv775 => ?_)
    refine WP_lload_n dX7_name_21 rfl ?_
    refine WE_ls dX7_name_22 (lyx_is hy 41 14 rfl) (lyx_n hy 41 7 rfl) (by omega) (by omega) (fun J776 eJ776 => ?_)
    have fJ777 : FC g [41] J J776 := by rw [eJ776]; exact FC_pp fJ0 (by decide)
    exact WP_vret dX7_name_23 rfl ⟨rfl, fI0, fJ777, rfl, by
      try simp only [ew771, ew772]
      refine ⟨fun h => absurd h (by omega), fun _ => ?_⟩
      refine ⟨fun q hq => ?_, fun c hc q hq => ?_, fun c hc q hq => ?_, fun c hc q hq => ?_, fun q hq => ?_, hR.2.2.2.2.2⟩
      · rw [pp_off _ _ (by decide)]; exact hR.1 q hq
      · rw [pp_off _ _ (by intro e; subst e; revert hc; decide)]; exact hR.2.1 c hc q hq
      · rw [pp_off _ _ (by decide)] at hq; rw [pp_off _ _ (by intro e; subst e; revert hc; decide)]; exact hR.2.2.1 c hc q hq
      · rw [pp_off _ _ (by decide)] at hq; rw [pp_off _ _ (by intro e; subst e; revert hc; decide)]; exact hR.2.2.2.1 c hc q hq
      · rw [eJ776]
        show (pp J (ad g 41) _ wd (ad g 41) q).toInt = _
        rw [pp_at, pp_at]
        by_cases e : q = 4 + (S.1 0 2).toNat
        · rw [if_pos (by omega), if_pos e]
        · rw [if_neg (by omega), if_neg e]; exact hR.2.2.2.2.1 q (by omega)⟩
  · refine WP_aload_n dX7_name_8 rfl ?_
    refine WQ_getim dX7_name_9 fX7_65 rfl (lyx_is hy 27 7 rfl) ew771 ?_
    refine WP_goto 21 dX7_name_12 rfl ?_
    refine WP_lload_n dX7_name_21 rfl ?_
    refine WE_ls dX7_name_22 (lyx_is hy 41 14 rfl) (lyx_n hy 41 7 rfl) (by omega) (by omega) (fun J778 eJ778 => ?_)
    have fJ779 : FC g [41] J J778 := by rw [eJ778]; exact FC_pp fJ0 (by decide)
    exact WP_vret dX7_name_23 rfl ⟨rfl, fI0, fJ779, rfl, by
      try simp only [ew771, ew772]
      refine ⟨fun _ => ?_, fun h => absurd h (by omega)⟩
      refine ⟨fun q hq => ?_, fun c hc q hq => ?_, fun c hc q hq => ?_, fun c hc q hq => ?_, fun q hq => ?_, hR.2.2.2.2.2⟩
      · rw [pp_off _ _ (by decide)]; exact hR.1 q hq
      · rw [pp_off _ _ (by intro e; subst e; revert hc; decide)]; exact hR.2.1 c hc q hq
      · rw [pp_off _ _ (by decide)] at hq; rw [pp_off _ _ (by intro e; subst e; revert hc; decide)]; exact hR.2.2.1 c hc q hq
      · rw [pp_off _ _ (by decide)] at hq; rw [pp_off _ _ (by intro e; subst e; revert hc; decide)]; exact hR.2.2.2.1 c hc q hq
      · rw [eJ778]
        show (pp J (ad g 41) _ wd (ad g 41) q).toInt = _
        rw [pp_at, pp_at]
        by_cases e : q = (S.1 0 1).toNat
        · rw [if_pos (by omega), if_pos e]
        · rw [if_neg (by omega), if_neg e]; exact hR.2.2.2.2.1 q (by omega)⟩
set_option maxHeartbeats 4000000 in
set_option maxRecDepth 100000 in
theorem ex_isToldb {g : GG} {I : pI} {J : pJ} {R : pR} (hy : LyX g) (hr : RfX g R) {a b : Nat} {S : TS} {r d : Nat} (cl : Int32) (of : Int32) (da : Int32) (hR : RTX g 27 a b S I J) (hr1 : cl.toInt * 4 + of.toInt = (r : Int)) (hr2 : r < 48) (hc1 : -100 ≤ cl.toInt) (hc2 : cl.toInt ≤ 100) (hd : da.toInt = (d : Int)) (hd7 : d < 7) : SP g mX7_isTold [.ref (ad g 27), .int cl, .int of, .int da] I J R (fun r I' J' R' => (I' = I ∧ J' = J ∧ R' = R) ∧ ∃ v : Int32, r = some (.int v) ∧ ((v.toInt = 1 ∧ S.2 r d = true) ∨ (v.toInt = 0 ∧ S.2 r d = false))) := by
  refine SP_of ⟨by decide, rfl⟩ (Nat.le_of_ble_eq_true rfl) ?_
  refine WP_aload_n dX7_isTold_0 rfl ?_
  refine WP_getr dX7_isTold_1 fX7_55 rfl (lyx_is hy 27 7 rfl) (rfx hr 27 19 42 (by decide)) ?_
  refine WP_iload_n dX7_isTold_4 rfl ?_
  refine WQ_iconst (4) (4) dX7_isTold_5 rfl rfl (fun v780 hv780 => ?_)
  refine WQ_imulk (4) dX7_isTold_6 hv780 (by omega) (by omega) (fun v781 hv781 => ?_)
  refine WP_iload_n dX7_isTold_7 rfl ?_
  refine WQ_iadd dX7_isTold_8 (by omega) (by omega) (fun v782 hv782 => ?_)
  refine WE_ia dX7_isTold_9 (lyx_is hy 42 13 rfl) (lyx_n hy 42 48 rfl) (by omega) (by omega) (fun v783 ev783 => ?_)
  refine WP_iload_n dX7_isTold_10 rfl ?_
  refine WP_ishr dX7_isTold_11 ?_
  obtain ⟨v784, xv784⟩ : ∃ v : Int32, v = v783 >>> (da &&& 31) := ⟨_, rfl⟩
  rw [← xv784]
  refine WQ_iconst (1) (1) dX7_isTold_12 rfl rfl (fun v785 hv785 => ?_)
  refine WP_iand dX7_isTold_13 ?_
  obtain ⟨v786, xv786⟩ : ∃ v : Int32, v = v784 &&& v785 := ⟨_, rfl⟩
  rw [← xv786]
  have hq := tb_get hd7 hd xv784 hv785 xv786
  have hq2 : tb (I (ad g 42) r) d = S.2 r d := hR.2.2.2.2.2 r hr2 d hd7
  have hq3 : I (ad g 42) r = v783 := by rw [← show v782.toInt.toNat = r by omega]; exact ev783
  rw [hq3] at hq2
  rw [hq2] at hq
  refine WQ_if_eq 21 dX7_isTold_14 rfl (fun c786 => ?_) (fun c786 => ?_)
  · refine WQ_iconst (0) (0) dX7_isTold_21 rfl rfl (fun v788 hv788 => ?_)
    exact WP_iret dX7_isTold_22 rfl ⟨⟨rfl, rfl, rfl⟩, v788, rfl, by
      first
      | exact Or.inl ⟨by omega, hq.elim (fun z => z.1) (fun z => absurd z.2 (by omega))⟩
      | exact Or.inr ⟨by omega, hq.elim (fun z => absurd z.2 (by omega)) (fun z => z.1)⟩⟩
  · refine WQ_iconst (1) (1) dX7_isTold_17 rfl rfl (fun v789 hv789 => ?_)
    refine WP_goto 22 dX7_isTold_18 rfl ?_
    exact WP_iret dX7_isTold_22 rfl ⟨⟨rfl, rfl, rfl⟩, v789, rfl, by
      first
      | exact Or.inl ⟨by omega, hq.elim (fun z => z.1) (fun z => absurd z.2 (by omega))⟩
      | exact Or.inr ⟨by omega, hq.elim (fun z => absurd z.2 (by omega)) (fun z => z.1)⟩⟩
set_option maxHeartbeats 4000000 in
set_option maxRecDepth 100000 in
theorem ex_holdb {g : GG} {I : pI} {J : pJ} {R : pR} (hy : LyX g) (hr : RfX g R) {a b : Nat} {S : TS} {r d : Nat} (cl : Int32) (of : Int32) (da : Int32) (hR : RTX g 27 a b S I J) (hr1 : cl.toInt * 4 + of.toInt = (r : Int)) (hr2 : r < 48) (hc1 : -100 ≤ cl.toInt) (hc2 : cl.toInt ≤ 100) (hd : da.toInt = (d : Int)) (hd7 : d < 7) : SP g mX7_hold [.ref (ad g 27), .int cl, .int of, .int da] I J R (fun r I' J' R' => R' = R ∧ FC g [42] I I' ∧ FC g [] J J' ∧ r = none ∧ (RTX g 27 a b (S.1, pp S.2 r d true) I' J')) := by
  refine SP_of ⟨by decide, rfl⟩ (Nat.le_of_ble_eq_true rfl) ?_
  have fI0 : FC g [42] I I := FC_rf
  have fJ0 : FC g [] J J := FC_rf
  refine WP_aload_n dX7_hold_0 rfl ?_
  refine WP_getr dX7_hold_1 fX7_55 rfl (lyx_is hy 27 7 rfl) (rfx hr 27 19 42 (by decide)) ?_
  refine WP_iload_n dX7_hold_4 rfl ?_
  refine WQ_iconst (4) (4) dX7_hold_5 rfl rfl (fun v790 hv790 => ?_)
  refine WQ_imulk (4) dX7_hold_6 hv790 (by omega) (by omega) (fun v791 hv791 => ?_)
  refine WP_iload_n dX7_hold_7 rfl ?_
  refine WQ_iadd dX7_hold_8 (by omega) (by omega) (fun v792 hv792 => ?_)
  refine WP_dup2 dX7_hold_9 rfl rfl ?_
  refine WE_ia dX7_hold_10 (lyx_is hy 42 13 rfl) (lyx_n hy 42 48 rfl) (by omega) (by omega) (fun v793 ev793 => ?_)
  refine WQ_iconst (1) (1) dX7_hold_11 rfl rfl (fun v794 hv794 => ?_)
  refine WP_iload_n dX7_hold_12 rfl ?_
  refine WP_ishl dX7_hold_13 ?_
  obtain ⟨v795, xv795⟩ : ∃ v : Int32, v = v794 <<< (da &&& 31) := ⟨_, rfl⟩
  rw [← xv795]
  refine WP_ior dX7_hold_14 ?_
  obtain ⟨v796, xv796⟩ : ∃ v : Int32, v = v793 ||| v795 := ⟨_, rfl⟩
  rw [← xv796]
  refine WE_is dX7_hold_15 (lyx_is hy 42 13 rfl) (lyx_n hy 42 48 rfl) (by omega) (by omega) (fun I797 eI797 => ?_)
  have fI798 : FC g [42] I I797 := by rw [eI797]; exact FC_pp fI0 (by decide)
  exact WP_vret dX7_hold_16 rfl ⟨rfl, fI798, fJ0, rfl, by
    rw [eI797, show v792.toInt.toNat = r by omega]
    refine RTX_hold hy (by decide) hR r d _ hr2 hd7 (fun e he => ?_)
    have hq3 : I (ad g 42) r = v793 := by rw [← show v792.toInt.toNat = r by omega]; exact ev793
    show tb _ e = (tb (I (ad g 42) r) e || _)
    rw [hq3]
    exact tb_set hd7 he hd hv794 xv795 xv796⟩
set_option maxHeartbeats 4000000 in
set_option maxRecDepth 100000 in
theorem ex_faultAheadb {g : GG} {I : pI} {J : pJ} {R : pR} (hy : LyX g) (hr : RfX g R) {a b : Nat} {S : TS} {c : Nat} (cl : Int32) (hR : RTX g 27 a b S I J) (hc : cl.toInt = (c : Int)) (hc9 : c < 10) : SP g mX7_faultAhead [.ref (ad g 27), .int cl] I J R (fun r I' J' R' => (I' = I ∧ J' = J ∧ R' = R) ∧ ∃ v : Int32, r = some (.int v) ∧ (v.toInt = (ahd c S : Nat))) := by
  refine SP_of ⟨by decide, rfl⟩ (Nat.le_of_ble_eq_true rfl) ?_
  have hs := hR.1 1 (by decide)
  have ht := hR.1 2 (by decide)
  obtain ⟨w799, ew799⟩ : ∃ w : Int32, I (ad g 27) 1 = w := ⟨_, rfl⟩
  obtain ⟨w800, ew800⟩ : ∃ w : Int32, I (ad g 27) 2 = w := ⟨_, rfl⟩
  try simp only [ew799, ew800] at hs ht
  refine WP_iload_n dX7_faultAhead_0 rfl ?_
  refine WQ_iconst (1) (1) dX7_faultAhead_1 rfl rfl (fun v801 hv801 => ?_)
  refine WQ_icmp_ne 13 dX7_faultAhead_2 rfl (fun c801 => ?_) (fun c801 => ?_)
  · refine WP_iload_n dX7_faultAhead_13 rfl ?_
    refine WQ_iconst (2) (2) dX7_faultAhead_14 rfl rfl (fun v803 hv803 => ?_)
    refine WQ_icmp_ne 28 dX7_faultAhead_15 rfl (fun c803 => ?_) (fun c803 => ?_)
    · refine WP_iload_n dX7_faultAhead_28 rfl ?_
      refine WQ_bipush (8) (8) dX7_faultAhead_29 rfl rfl (fun v805 hv805 => ?_)
      refine WQ_icmp_eq 40 dX7_faultAhead_31 rfl (fun c805 => ?_) (fun c805 => ?_)
      · refine WP_aload_n dX7_faultAhead_40 rfl ?_
        refine WP_iload_n dX7_faultAhead_41 rfl ?_
        refine WQ_iconst (0) (0) dX7_faultAhead_42 rfl rfl (fun v807 hv807 => ?_)
        refine WQ_iconst (0) (0) dX7_faultAhead_43 rfl rfl (fun v808 hv808 => ?_)
        refine WP_callV3 dX7_faultAhead_44 ⟨⟨⟨by decide, by decide⟩, zX7_isTold⟩, lX7_87, tX7_isTold⟩ (lyx_is hy 27 7 rfl) (ex_isToldb hy hr _ _ _  (r := c * 4) (d := 0) hR (by omega) (by omega) (by omega) (by omega) (by omega) (by decide)) (Nat.le_of_ble_eq_true rfl) ?_
        intro r Ia Ja Ra hq
        obtain ⟨⟨ea, eb, ec⟩, v810, er, p809⟩ := hq
        rw [ea, eb, ec, er]
        clear ea eb ec er Ia Ja Ra r
        refine WQ_if_eq 54 dX7_faultAhead_47 rfl (fun c810 => ?_) (fun c810 => ?_)
        · refine WQ_iconst (0) (0) dX7_faultAhead_54 rfl rfl (fun v812 hv812 => ?_)
          exact WP_iret dX7_faultAhead_55 rfl ⟨⟨rfl, rfl, rfl⟩, v812, rfl, by
            try simp only [ew799, ew800]
            unfold ahd
            rw [if_neg (by omega)]
            rcases p809 with ⟨h1, h2⟩ | ⟨h1, h2⟩
            · first
              | (rw [if_pos ⟨by omega, h2⟩]; omega)
              | exact absurd h1 (by omega)
            · first
              | (rw [if_neg (by rintro ⟨-, h3⟩; rw [h2] at h3; exact absurd h3 (by decide))]; omega)
              | exact absurd h1 (by omega)⟩
        · refine WQ_iconst (3) (3) dX7_faultAhead_50 rfl rfl (fun v813 hv813 => ?_)
          refine WP_goto 55 dX7_faultAhead_51 rfl ?_
          exact WP_iret dX7_faultAhead_55 rfl ⟨⟨rfl, rfl, rfl⟩, v813, rfl, by
            try simp only [ew799, ew800]
            unfold ahd
            rw [if_neg (by omega)]
            rcases p809 with ⟨h1, h2⟩ | ⟨h1, h2⟩
            · first
              | (rw [if_pos ⟨by omega, h2⟩]; omega)
              | exact absurd h1 (by omega)
            · first
              | (rw [if_neg (by rintro ⟨-, h3⟩; rw [h2] at h3; exact absurd h3 (by decide))]; omega)
              | exact absurd h1 (by omega)⟩
      · refine WP_iload_n dX7_faultAhead_34 rfl ?_
        refine WQ_bipush (9) (9) dX7_faultAhead_35 rfl rfl (fun v814 hv814 => ?_)
        refine WQ_icmp_ne 54 dX7_faultAhead_37 rfl (fun c814 => ?_) (fun c814 => ?_)
        · refine WQ_iconst (0) (0) dX7_faultAhead_54 rfl rfl (fun v816 hv816 => ?_)
          exact WP_iret dX7_faultAhead_55 rfl ⟨⟨rfl, rfl, rfl⟩, v816, rfl, by
            try simp only [ew799, ew800]
            unfold ahd
            rw [if_neg (by omega)]
            rw [if_neg (by rintro ⟨h3, -⟩; omega)]; omega⟩
        · refine WP_aload_n dX7_faultAhead_40 rfl ?_
          refine WP_iload_n dX7_faultAhead_41 rfl ?_
          refine WQ_iconst (0) (0) dX7_faultAhead_42 rfl rfl (fun v817 hv817 => ?_)
          refine WQ_iconst (0) (0) dX7_faultAhead_43 rfl rfl (fun v818 hv818 => ?_)
          refine WP_callV3 dX7_faultAhead_44 ⟨⟨⟨by decide, by decide⟩, zX7_isTold⟩, lX7_87, tX7_isTold⟩ (lyx_is hy 27 7 rfl) (ex_isToldb hy hr _ _ _  (r := c * 4) (d := 0) hR (by omega) (by omega) (by omega) (by omega) (by omega) (by decide)) (Nat.le_of_ble_eq_true rfl) ?_
          intro r Ia Ja Ra hq
          obtain ⟨⟨ea, eb, ec⟩, v820, er, p819⟩ := hq
          rw [ea, eb, ec, er]
          clear ea eb ec er Ia Ja Ra r
          refine WQ_if_eq 54 dX7_faultAhead_47 rfl (fun c820 => ?_) (fun c820 => ?_)
          · refine WQ_iconst (0) (0) dX7_faultAhead_54 rfl rfl (fun v822 hv822 => ?_)
            exact WP_iret dX7_faultAhead_55 rfl ⟨⟨rfl, rfl, rfl⟩, v822, rfl, by
              try simp only [ew799, ew800]
              unfold ahd
              rw [if_neg (by omega)]
              rcases p819 with ⟨h1, h2⟩ | ⟨h1, h2⟩
              · first
                | (rw [if_pos ⟨by omega, h2⟩]; omega)
                | exact absurd h1 (by omega)
              · first
                | (rw [if_neg (by rintro ⟨-, h3⟩; rw [h2] at h3; exact absurd h3 (by decide))]; omega)
                | exact absurd h1 (by omega)⟩
          · refine WQ_iconst (3) (3) dX7_faultAhead_50 rfl rfl (fun v823 hv823 => ?_)
            refine WP_goto 55 dX7_faultAhead_51 rfl ?_
            exact WP_iret dX7_faultAhead_55 rfl ⟨⟨rfl, rfl, rfl⟩, v823, rfl, by
              try simp only [ew799, ew800]
              unfold ahd
              rw [if_neg (by omega)]
              rcases p819 with ⟨h1, h2⟩ | ⟨h1, h2⟩
              · first
                | (rw [if_pos ⟨by omega, h2⟩]; omega)
                | exact absurd h1 (by omega)
              · first
                | (rw [if_neg (by rintro ⟨-, h3⟩; rw [h2] at h3; exact absurd h3 (by decide))]; omega)
                | exact absurd h1 (by omega)⟩
    · refine WP_aload_n dX7_faultAhead_18 rfl ?_
      refine WQ_getim dX7_faultAhead_19 fX7_68 rfl (lyx_is hy 27 7 rfl) ew800 ?_
      refine WQ_iconst (3) (3) dX7_faultAhead_22 rfl rfl (fun v824 hv824 => ?_)
      refine WQ_icmp_ne 28 dX7_faultAhead_23 rfl (fun c824 => ?_) (fun c824 => ?_)
      · refine WP_iload_n dX7_faultAhead_28 rfl ?_
        refine WQ_bipush (8) (8) dX7_faultAhead_29 rfl rfl (fun v826 hv826 => ?_)
        refine WQ_icmp_eq 40 dX7_faultAhead_31 rfl (fun c826 => ?_) (fun c826 => ?_)
        · refine WP_aload_n dX7_faultAhead_40 rfl ?_
          refine WP_iload_n dX7_faultAhead_41 rfl ?_
          refine WQ_iconst (0) (0) dX7_faultAhead_42 rfl rfl (fun v828 hv828 => ?_)
          refine WQ_iconst (0) (0) dX7_faultAhead_43 rfl rfl (fun v829 hv829 => ?_)
          refine WP_callV3 dX7_faultAhead_44 ⟨⟨⟨by decide, by decide⟩, zX7_isTold⟩, lX7_87, tX7_isTold⟩ (lyx_is hy 27 7 rfl) (ex_isToldb hy hr _ _ _  (r := c * 4) (d := 0) hR (by omega) (by omega) (by omega) (by omega) (by omega) (by decide)) (Nat.le_of_ble_eq_true rfl) ?_
          intro r Ia Ja Ra hq
          obtain ⟨⟨ea, eb, ec⟩, v831, er, p830⟩ := hq
          rw [ea, eb, ec, er]
          clear ea eb ec er Ia Ja Ra r
          refine WQ_if_eq 54 dX7_faultAhead_47 rfl (fun c831 => ?_) (fun c831 => ?_)
          · refine WQ_iconst (0) (0) dX7_faultAhead_54 rfl rfl (fun v833 hv833 => ?_)
            exact WP_iret dX7_faultAhead_55 rfl ⟨⟨rfl, rfl, rfl⟩, v833, rfl, by
              try simp only [ew799, ew800]
              unfold ahd
              rw [if_neg (by omega)]
              rcases p830 with ⟨h1, h2⟩ | ⟨h1, h2⟩
              · first
                | (rw [if_pos ⟨by omega, h2⟩]; omega)
                | exact absurd h1 (by omega)
              · first
                | (rw [if_neg (by rintro ⟨-, h3⟩; rw [h2] at h3; exact absurd h3 (by decide))]; omega)
                | exact absurd h1 (by omega)⟩
          · refine WQ_iconst (3) (3) dX7_faultAhead_50 rfl rfl (fun v834 hv834 => ?_)
            refine WP_goto 55 dX7_faultAhead_51 rfl ?_
            exact WP_iret dX7_faultAhead_55 rfl ⟨⟨rfl, rfl, rfl⟩, v834, rfl, by
              try simp only [ew799, ew800]
              unfold ahd
              rw [if_neg (by omega)]
              rcases p830 with ⟨h1, h2⟩ | ⟨h1, h2⟩
              · first
                | (rw [if_pos ⟨by omega, h2⟩]; omega)
                | exact absurd h1 (by omega)
              · first
                | (rw [if_neg (by rintro ⟨-, h3⟩; rw [h2] at h3; exact absurd h3 (by decide))]; omega)
                | exact absurd h1 (by omega)⟩
        · refine WP_iload_n dX7_faultAhead_34 rfl ?_
          refine WQ_bipush (9) (9) dX7_faultAhead_35 rfl rfl (fun v835 hv835 => ?_)
          refine WQ_icmp_ne 54 dX7_faultAhead_37 rfl (fun c835 => ?_) (fun c835 => ?_)
          · refine WQ_iconst (0) (0) dX7_faultAhead_54 rfl rfl (fun v837 hv837 => ?_)
            exact WP_iret dX7_faultAhead_55 rfl ⟨⟨rfl, rfl, rfl⟩, v837, rfl, by
              try simp only [ew799, ew800]
              unfold ahd
              rw [if_neg (by omega)]
              rw [if_neg (by rintro ⟨h3, -⟩; omega)]; omega⟩
          · refine WP_aload_n dX7_faultAhead_40 rfl ?_
            refine WP_iload_n dX7_faultAhead_41 rfl ?_
            refine WQ_iconst (0) (0) dX7_faultAhead_42 rfl rfl (fun v838 hv838 => ?_)
            refine WQ_iconst (0) (0) dX7_faultAhead_43 rfl rfl (fun v839 hv839 => ?_)
            refine WP_callV3 dX7_faultAhead_44 ⟨⟨⟨by decide, by decide⟩, zX7_isTold⟩, lX7_87, tX7_isTold⟩ (lyx_is hy 27 7 rfl) (ex_isToldb hy hr _ _ _  (r := c * 4) (d := 0) hR (by omega) (by omega) (by omega) (by omega) (by omega) (by decide)) (Nat.le_of_ble_eq_true rfl) ?_
            intro r Ia Ja Ra hq
            obtain ⟨⟨ea, eb, ec⟩, v841, er, p840⟩ := hq
            rw [ea, eb, ec, er]
            clear ea eb ec er Ia Ja Ra r
            refine WQ_if_eq 54 dX7_faultAhead_47 rfl (fun c841 => ?_) (fun c841 => ?_)
            · refine WQ_iconst (0) (0) dX7_faultAhead_54 rfl rfl (fun v843 hv843 => ?_)
              exact WP_iret dX7_faultAhead_55 rfl ⟨⟨rfl, rfl, rfl⟩, v843, rfl, by
                try simp only [ew799, ew800]
                unfold ahd
                rw [if_neg (by omega)]
                rcases p840 with ⟨h1, h2⟩ | ⟨h1, h2⟩
                · first
                  | (rw [if_pos ⟨by omega, h2⟩]; omega)
                  | exact absurd h1 (by omega)
                · first
                  | (rw [if_neg (by rintro ⟨-, h3⟩; rw [h2] at h3; exact absurd h3 (by decide))]; omega)
                  | exact absurd h1 (by omega)⟩
            · refine WQ_iconst (3) (3) dX7_faultAhead_50 rfl rfl (fun v844 hv844 => ?_)
              refine WP_goto 55 dX7_faultAhead_51 rfl ?_
              exact WP_iret dX7_faultAhead_55 rfl ⟨⟨rfl, rfl, rfl⟩, v844, rfl, by
                try simp only [ew799, ew800]
                unfold ahd
                rw [if_neg (by omega)]
                rcases p840 with ⟨h1, h2⟩ | ⟨h1, h2⟩
                · first
                  | (rw [if_pos ⟨by omega, h2⟩]; omega)
                  | exact absurd h1 (by omega)
                · first
                  | (rw [if_neg (by rintro ⟨-, h3⟩; rw [h2] at h3; exact absurd h3 (by decide))]; omega)
                  | exact absurd h1 (by omega)⟩
      · refine WQ_iconst (4) (4) dX7_faultAhead_26 rfl rfl (fun v845 hv845 => ?_)
        exact WP_iret dX7_faultAhead_27 rfl ⟨⟨rfl, rfl, rfl⟩, v845, rfl, by
          try simp only [ew799, ew800]
          unfold ahd
          rw [if_pos (by omega)]; omega⟩
  · refine WP_aload_n dX7_faultAhead_5 rfl ?_
    refine WQ_getim dX7_faultAhead_6 fX7_65 rfl (lyx_is hy 27 7 rfl) ew799 ?_
    refine WQ_iconst (4) (4) dX7_faultAhead_9 rfl rfl (fun v846 hv846 => ?_)
    refine WQ_icmp_eq 26 dX7_faultAhead_10 rfl (fun c846 => ?_) (fun c846 => ?_)
    · refine WQ_iconst (4) (4) dX7_faultAhead_26 rfl rfl (fun v848 hv848 => ?_)
      exact WP_iret dX7_faultAhead_27 rfl ⟨⟨rfl, rfl, rfl⟩, v848, rfl, by
        try simp only [ew799, ew800]
        unfold ahd
        rw [if_pos (by omega)]; omega⟩
    · refine WP_iload_n dX7_faultAhead_13 rfl ?_
      refine WQ_iconst (2) (2) dX7_faultAhead_14 rfl rfl (fun v849 hv849 => ?_)
      refine WQ_icmp_ne 28 dX7_faultAhead_15 rfl (fun c849 => ?_) (fun c849 => ?_)
      · refine WP_iload_n dX7_faultAhead_28 rfl ?_
        refine WQ_bipush (8) (8) dX7_faultAhead_29 rfl rfl (fun v851 hv851 => ?_)
        refine WQ_icmp_eq 40 dX7_faultAhead_31 rfl (fun c851 => ?_) (fun c851 => ?_)
        · refine WP_aload_n dX7_faultAhead_40 rfl ?_
          refine WP_iload_n dX7_faultAhead_41 rfl ?_
          refine WQ_iconst (0) (0) dX7_faultAhead_42 rfl rfl (fun v853 hv853 => ?_)
          refine WQ_iconst (0) (0) dX7_faultAhead_43 rfl rfl (fun v854 hv854 => ?_)
          refine WP_callV3 dX7_faultAhead_44 ⟨⟨⟨by decide, by decide⟩, zX7_isTold⟩, lX7_87, tX7_isTold⟩ (lyx_is hy 27 7 rfl) (ex_isToldb hy hr _ _ _  (r := c * 4) (d := 0) hR (by omega) (by omega) (by omega) (by omega) (by omega) (by decide)) (Nat.le_of_ble_eq_true rfl) ?_
          intro r Ia Ja Ra hq
          obtain ⟨⟨ea, eb, ec⟩, v856, er, p855⟩ := hq
          rw [ea, eb, ec, er]
          clear ea eb ec er Ia Ja Ra r
          refine WQ_if_eq 54 dX7_faultAhead_47 rfl (fun c856 => ?_) (fun c856 => ?_)
          · refine WQ_iconst (0) (0) dX7_faultAhead_54 rfl rfl (fun v858 hv858 => ?_)
            exact WP_iret dX7_faultAhead_55 rfl ⟨⟨rfl, rfl, rfl⟩, v858, rfl, by
              try simp only [ew799, ew800]
              unfold ahd
              rw [if_neg (by omega)]
              rcases p855 with ⟨h1, h2⟩ | ⟨h1, h2⟩
              · first
                | (rw [if_pos ⟨by omega, h2⟩]; omega)
                | exact absurd h1 (by omega)
              · first
                | (rw [if_neg (by rintro ⟨-, h3⟩; rw [h2] at h3; exact absurd h3 (by decide))]; omega)
                | exact absurd h1 (by omega)⟩
          · refine WQ_iconst (3) (3) dX7_faultAhead_50 rfl rfl (fun v859 hv859 => ?_)
            refine WP_goto 55 dX7_faultAhead_51 rfl ?_
            exact WP_iret dX7_faultAhead_55 rfl ⟨⟨rfl, rfl, rfl⟩, v859, rfl, by
              try simp only [ew799, ew800]
              unfold ahd
              rw [if_neg (by omega)]
              rcases p855 with ⟨h1, h2⟩ | ⟨h1, h2⟩
              · first
                | (rw [if_pos ⟨by omega, h2⟩]; omega)
                | exact absurd h1 (by omega)
              · first
                | (rw [if_neg (by rintro ⟨-, h3⟩; rw [h2] at h3; exact absurd h3 (by decide))]; omega)
                | exact absurd h1 (by omega)⟩
        · refine WP_iload_n dX7_faultAhead_34 rfl ?_
          refine WQ_bipush (9) (9) dX7_faultAhead_35 rfl rfl (fun v860 hv860 => ?_)
          refine WQ_icmp_ne 54 dX7_faultAhead_37 rfl (fun c860 => ?_) (fun c860 => ?_)
          · refine WQ_iconst (0) (0) dX7_faultAhead_54 rfl rfl (fun v862 hv862 => ?_)
            exact WP_iret dX7_faultAhead_55 rfl ⟨⟨rfl, rfl, rfl⟩, v862, rfl, by
              try simp only [ew799, ew800]
              unfold ahd
              rw [if_neg (by omega)]
              rw [if_neg (by rintro ⟨h3, -⟩; omega)]; omega⟩
          · refine WP_aload_n dX7_faultAhead_40 rfl ?_
            refine WP_iload_n dX7_faultAhead_41 rfl ?_
            refine WQ_iconst (0) (0) dX7_faultAhead_42 rfl rfl (fun v863 hv863 => ?_)
            refine WQ_iconst (0) (0) dX7_faultAhead_43 rfl rfl (fun v864 hv864 => ?_)
            refine WP_callV3 dX7_faultAhead_44 ⟨⟨⟨by decide, by decide⟩, zX7_isTold⟩, lX7_87, tX7_isTold⟩ (lyx_is hy 27 7 rfl) (ex_isToldb hy hr _ _ _  (r := c * 4) (d := 0) hR (by omega) (by omega) (by omega) (by omega) (by omega) (by decide)) (Nat.le_of_ble_eq_true rfl) ?_
            intro r Ia Ja Ra hq
            obtain ⟨⟨ea, eb, ec⟩, v866, er, p865⟩ := hq
            rw [ea, eb, ec, er]
            clear ea eb ec er Ia Ja Ra r
            refine WQ_if_eq 54 dX7_faultAhead_47 rfl (fun c866 => ?_) (fun c866 => ?_)
            · refine WQ_iconst (0) (0) dX7_faultAhead_54 rfl rfl (fun v868 hv868 => ?_)
              exact WP_iret dX7_faultAhead_55 rfl ⟨⟨rfl, rfl, rfl⟩, v868, rfl, by
                try simp only [ew799, ew800]
                unfold ahd
                rw [if_neg (by omega)]
                rcases p865 with ⟨h1, h2⟩ | ⟨h1, h2⟩
                · first
                  | (rw [if_pos ⟨by omega, h2⟩]; omega)
                  | exact absurd h1 (by omega)
                · first
                  | (rw [if_neg (by rintro ⟨-, h3⟩; rw [h2] at h3; exact absurd h3 (by decide))]; omega)
                  | exact absurd h1 (by omega)⟩
            · refine WQ_iconst (3) (3) dX7_faultAhead_50 rfl rfl (fun v869 hv869 => ?_)
              refine WP_goto 55 dX7_faultAhead_51 rfl ?_
              exact WP_iret dX7_faultAhead_55 rfl ⟨⟨rfl, rfl, rfl⟩, v869, rfl, by
                try simp only [ew799, ew800]
                unfold ahd
                rw [if_neg (by omega)]
                rcases p865 with ⟨h1, h2⟩ | ⟨h1, h2⟩
                · first
                  | (rw [if_pos ⟨by omega, h2⟩]; omega)
                  | exact absurd h1 (by omega)
                · first
                  | (rw [if_neg (by rintro ⟨-, h3⟩; rw [h2] at h3; exact absurd h3 (by decide))]; omega)
                  | exact absurd h1 (by omega)⟩
      · refine WP_aload_n dX7_faultAhead_18 rfl ?_
        refine WQ_getim dX7_faultAhead_19 fX7_68 rfl (lyx_is hy 27 7 rfl) ew800 ?_
        refine WQ_iconst (3) (3) dX7_faultAhead_22 rfl rfl (fun v870 hv870 => ?_)
        refine WQ_icmp_ne 28 dX7_faultAhead_23 rfl (fun c870 => ?_) (fun c870 => ?_)
        · refine WP_iload_n dX7_faultAhead_28 rfl ?_
          refine WQ_bipush (8) (8) dX7_faultAhead_29 rfl rfl (fun v872 hv872 => ?_)
          refine WQ_icmp_eq 40 dX7_faultAhead_31 rfl (fun c872 => ?_) (fun c872 => ?_)
          · refine WP_aload_n dX7_faultAhead_40 rfl ?_
            refine WP_iload_n dX7_faultAhead_41 rfl ?_
            refine WQ_iconst (0) (0) dX7_faultAhead_42 rfl rfl (fun v874 hv874 => ?_)
            refine WQ_iconst (0) (0) dX7_faultAhead_43 rfl rfl (fun v875 hv875 => ?_)
            refine WP_callV3 dX7_faultAhead_44 ⟨⟨⟨by decide, by decide⟩, zX7_isTold⟩, lX7_87, tX7_isTold⟩ (lyx_is hy 27 7 rfl) (ex_isToldb hy hr _ _ _  (r := c * 4) (d := 0) hR (by omega) (by omega) (by omega) (by omega) (by omega) (by decide)) (Nat.le_of_ble_eq_true rfl) ?_
            intro r Ia Ja Ra hq
            obtain ⟨⟨ea, eb, ec⟩, v877, er, p876⟩ := hq
            rw [ea, eb, ec, er]
            clear ea eb ec er Ia Ja Ra r
            refine WQ_if_eq 54 dX7_faultAhead_47 rfl (fun c877 => ?_) (fun c877 => ?_)
            · refine WQ_iconst (0) (0) dX7_faultAhead_54 rfl rfl (fun v879 hv879 => ?_)
              exact WP_iret dX7_faultAhead_55 rfl ⟨⟨rfl, rfl, rfl⟩, v879, rfl, by
                try simp only [ew799, ew800]
                unfold ahd
                rw [if_neg (by omega)]
                rcases p876 with ⟨h1, h2⟩ | ⟨h1, h2⟩
                · first
                  | (rw [if_pos ⟨by omega, h2⟩]; omega)
                  | exact absurd h1 (by omega)
                · first
                  | (rw [if_neg (by rintro ⟨-, h3⟩; rw [h2] at h3; exact absurd h3 (by decide))]; omega)
                  | exact absurd h1 (by omega)⟩
            · refine WQ_iconst (3) (3) dX7_faultAhead_50 rfl rfl (fun v880 hv880 => ?_)
              refine WP_goto 55 dX7_faultAhead_51 rfl ?_
              exact WP_iret dX7_faultAhead_55 rfl ⟨⟨rfl, rfl, rfl⟩, v880, rfl, by
                try simp only [ew799, ew800]
                unfold ahd
                rw [if_neg (by omega)]
                rcases p876 with ⟨h1, h2⟩ | ⟨h1, h2⟩
                · first
                  | (rw [if_pos ⟨by omega, h2⟩]; omega)
                  | exact absurd h1 (by omega)
                · first
                  | (rw [if_neg (by rintro ⟨-, h3⟩; rw [h2] at h3; exact absurd h3 (by decide))]; omega)
                  | exact absurd h1 (by omega)⟩
          · refine WP_iload_n dX7_faultAhead_34 rfl ?_
            refine WQ_bipush (9) (9) dX7_faultAhead_35 rfl rfl (fun v881 hv881 => ?_)
            refine WQ_icmp_ne 54 dX7_faultAhead_37 rfl (fun c881 => ?_) (fun c881 => ?_)
            · refine WQ_iconst (0) (0) dX7_faultAhead_54 rfl rfl (fun v883 hv883 => ?_)
              exact WP_iret dX7_faultAhead_55 rfl ⟨⟨rfl, rfl, rfl⟩, v883, rfl, by
                try simp only [ew799, ew800]
                unfold ahd
                rw [if_neg (by omega)]
                rw [if_neg (by rintro ⟨h3, -⟩; omega)]; omega⟩
            · refine WP_aload_n dX7_faultAhead_40 rfl ?_
              refine WP_iload_n dX7_faultAhead_41 rfl ?_
              refine WQ_iconst (0) (0) dX7_faultAhead_42 rfl rfl (fun v884 hv884 => ?_)
              refine WQ_iconst (0) (0) dX7_faultAhead_43 rfl rfl (fun v885 hv885 => ?_)
              refine WP_callV3 dX7_faultAhead_44 ⟨⟨⟨by decide, by decide⟩, zX7_isTold⟩, lX7_87, tX7_isTold⟩ (lyx_is hy 27 7 rfl) (ex_isToldb hy hr _ _ _  (r := c * 4) (d := 0) hR (by omega) (by omega) (by omega) (by omega) (by omega) (by decide)) (Nat.le_of_ble_eq_true rfl) ?_
              intro r Ia Ja Ra hq
              obtain ⟨⟨ea, eb, ec⟩, v887, er, p886⟩ := hq
              rw [ea, eb, ec, er]
              clear ea eb ec er Ia Ja Ra r
              refine WQ_if_eq 54 dX7_faultAhead_47 rfl (fun c887 => ?_) (fun c887 => ?_)
              · refine WQ_iconst (0) (0) dX7_faultAhead_54 rfl rfl (fun v889 hv889 => ?_)
                exact WP_iret dX7_faultAhead_55 rfl ⟨⟨rfl, rfl, rfl⟩, v889, rfl, by
                  try simp only [ew799, ew800]
                  unfold ahd
                  rw [if_neg (by omega)]
                  rcases p886 with ⟨h1, h2⟩ | ⟨h1, h2⟩
                  · first
                    | (rw [if_pos ⟨by omega, h2⟩]; omega)
                    | exact absurd h1 (by omega)
                  · first
                    | (rw [if_neg (by rintro ⟨-, h3⟩; rw [h2] at h3; exact absurd h3 (by decide))]; omega)
                    | exact absurd h1 (by omega)⟩
              · refine WQ_iconst (3) (3) dX7_faultAhead_50 rfl rfl (fun v890 hv890 => ?_)
                refine WP_goto 55 dX7_faultAhead_51 rfl ?_
                exact WP_iret dX7_faultAhead_55 rfl ⟨⟨rfl, rfl, rfl⟩, v890, rfl, by
                  try simp only [ew799, ew800]
                  unfold ahd
                  rw [if_neg (by omega)]
                  rcases p886 with ⟨h1, h2⟩ | ⟨h1, h2⟩
                  · first
                    | (rw [if_pos ⟨by omega, h2⟩]; omega)
                    | exact absurd h1 (by omega)
                  · first
                    | (rw [if_neg (by rintro ⟨-, h3⟩; rw [h2] at h3; exact absurd h3 (by decide))]; omega)
                    | exact absurd h1 (by omega)⟩
        · refine WQ_iconst (4) (4) dX7_faultAhead_26 rfl rfl (fun v891 hv891 => ?_)
          exact WP_iret dX7_faultAhead_27 rfl ⟨⟨rfl, rfl, rfl⟩, v891, rfl, by
            try simp only [ew799, ew800]
            unfold ahd
            rw [if_pos (by omega)]; omega⟩
set_option maxHeartbeats 4000000 in
set_option maxRecDepth 100000 in
theorem ex_tellLossb {g : GG} {I : pI} {J : pJ} {R : pR} (hy : LyX g) (hr : RfX g R) {a b : Nat} {S : TS} {d : Nat} (da : Int32) (lo : Int32) (hR : RTX g 27 a b S I J) (hd : da.toInt = (d : Int)) (hd7 : d < 7) : SP g mX7_tellLoss [.ref (ad g 27), .int da, .int lo] I J R (fun r I' J' R' => R' = R ∧ FC g [28, 42] I I' ∧ FC g [] J J' ∧ r = none ∧ (RTX g 27 a b (pp S.1 1 d lo.toInt, pp S.2 0 d true) I' J')) := by
  refine SP_of ⟨by decide, rfl⟩ (Nat.le_of_ble_eq_true rfl) ?_
  have fI0 : FC g [28, 42] I I := FC_rf
  have fJ0 : FC g [] J J := FC_rf
  refine WP_aload_n dX7_tellLoss_0 rfl ?_
  refine WP_getr dX7_tellLoss_1 fX7_9 rfl (lyx_is hy 27 7 rfl) (rfx hr 27 5 28 (by decide)) ?_
  refine WP_iload_n dX7_tellLoss_4 rfl ?_
  refine WP_iload_n dX7_tellLoss_5 rfl ?_
  refine WE_is dX7_tellLoss_6 (lyx_is hy 28 13 rfl) (lyx_n hy 28 7 rfl) (by omega) (by omega) (fun I892 eI892 => ?_)
  have fI893 : FC g [28, 42] I I892 := by rw [eI892]; exact FC_pp fI0 (by decide)
  have hR2 : RTX g 27 a b (pp S.1 1 d lo.toInt, S.2) I892 J := by rw [eI892, show da.toInt.toNat = d by omega]; exact RTX_row hy (by decide) hR 1 d lo _ (by decide) rfl
  refine WP_aload_n dX7_tellLoss_7 rfl ?_
  refine WQ_iconst (0) (0) dX7_tellLoss_8 rfl rfl (fun v894 hv894 => ?_)
  refine WQ_iconst (0) (0) dX7_tellLoss_9 rfl rfl (fun v895 hv895 => ?_)
  refine WP_iload_n dX7_tellLoss_10 rfl ?_
  refine WP_callV3 dX7_tellLoss_11 ⟨⟨⟨by decide, by decide⟩, zX7_hold⟩, lX7_109, tX7_hold⟩ (lyx_is hy 27 7 rfl) (ex_holdb hy hr _ _ _  (r := 0) (d := d) hR2 (by omega) (by decide) (by omega) (by omega) hd hd7) (Nat.le_of_ble_eq_true rfl) ?_
  intro r I897 J898 Ra hq
  obtain ⟨ec, g899, g900, er, p896⟩ := hq
  rw [ec, er]
  clear ec er Ra r
  have fI902 : FC g [28, 42] I I897 := FC_tr fI893 (FC_mono g899 (by decide))
  have fJ903 : FC g [] J J898 := FC_tr fJ0 (FC_mono g900 (by decide))
  exact WP_vret dX7_tellLoss_14 rfl ⟨rfl, fI902, fJ903, rfl, by
    exact p896⟩
set_option maxHeartbeats 4000000 in
set_option maxRecDepth 100000 in
theorem ex_tellOn3b {g : GG} {I : pI} {J : pJ} {R : pR} (hy : LyX g) (hr : RfX g R) {a b : Nat} {S : TS} {P : Nat → Int} (cl : Int32) (hR : RTX g 27 a b S I J) (hcl : cl.toInt = 3) (hP : ∀ j, j < 3 → (I (ad g 4) j).toInt = P j) (h0 : 0 ≤ P 0 ∧ P 0 < 4) (h1 : 0 ≤ P 1 ∧ P 1 < 7) : SP g mX7_tellOn [.ref (ad g 27), .ref (ad g 33), .int cl, .ref (ad g 4)] I J R (fun r I' J' R' => R' = R ∧ FC g [33, 42] I I' ∧ FC g [] J J' ∧ r = none ∧ (RTX g 27 a b (pp S.1 6 ((P 0).toNat * 7 + (P 1).toNat) (P 2), pp S.2 (12 + (P 0).toNat) (P 1).toNat true) I' J')) := by
  refine SP_of ⟨by decide, rfl⟩ (Nat.le_of_ble_eq_true rfl) ?_
  have fI0 : FC g [33, 42] I I := FC_rf
  have fJ0 : FC g [] J J := FC_rf
  have q0 := hP 0 (by decide)
  have q1 := hP 1 (by decide)
  have q2 := hP 2 (by decide)
  obtain ⟨w904, ew904⟩ : ∃ w : Int32, I (ad g 4) 0 = w := ⟨_, rfl⟩
  obtain ⟨w905, ew905⟩ : ∃ w : Int32, I (ad g 4) 1 = w := ⟨_, rfl⟩
  obtain ⟨w906, ew906⟩ : ∃ w : Int32, I (ad g 4) 2 = w := ⟨_, rfl⟩
  try simp only [ew904, ew905, ew906] at q0 q1 q2
  refine WP_aload_n dX7_tellOn_0 rfl ?_
  refine WP_aload_n dX7_tellOn_1 rfl ?_
  refine WQ_iconst (0) (0) dX7_tellOn_2 rfl rfl (fun v907 hv907 => ?_)
  refine WE_iak (z := 0) dX7_tellOn_3 (lyx_is hy 4 13 rfl) (lyx_n hy 4 5 rfl) hv907 (by decide) ew904 ?_
  refine WQ_bipush (7) (7) dX7_tellOn_4 rfl rfl (fun v909 hv909 => ?_)
  refine WQ_imulk (7) dX7_tellOn_6 hv909 (by omega) (by omega) (fun v910 hv910 => ?_)
  refine WP_aload_n dX7_tellOn_7 rfl ?_
  refine WQ_iconst (1) (1) dX7_tellOn_8 rfl rfl (fun v911 hv911 => ?_)
  refine WE_iak (z := 1) dX7_tellOn_9 (lyx_is hy 4 13 rfl) (lyx_n hy 4 5 rfl) hv911 (by decide) ew905 ?_
  refine WQ_iadd dX7_tellOn_10 (by omega) (by omega) (fun v913 hv913 => ?_)
  refine WP_aload_n dX7_tellOn_11 rfl ?_
  refine WQ_iconst (2) (2) dX7_tellOn_12 rfl rfl (fun v914 hv914 => ?_)
  refine WE_iak (z := 2) dX7_tellOn_13 (lyx_is hy 4 13 rfl) (lyx_n hy 4 5 rfl) hv914 (by decide) ew906 ?_
  refine WE_is dX7_tellOn_14 (lyx_is hy 33 13 rfl) (lyx_n hy 33 28 rfl) (by omega) (by omega) (fun I916 eI916 => ?_)
  have e917 : I916 (ad g 4) 0 = w904 := by rw [eI916, pp_ne _ _ (Or.inl (lyx_ne hy (by decide) (by decide) (by decide)))]; exact ew904
  have e918 : I916 (ad g 4) 1 = w905 := by rw [eI916, pp_ne _ _ (Or.inl (lyx_ne hy (by decide) (by decide) (by decide)))]; exact ew905
  have e919 : I916 (ad g 4) 2 = w906 := by rw [eI916, pp_ne _ _ (Or.inl (lyx_ne hy (by decide) (by decide) (by decide)))]; exact ew906
  have fI920 : FC g [33, 42] I I916 := by rw [eI916]; exact FC_pp fI0 (by decide)
  have hR2 : RTX g 27 a b (pp S.1 6 ((P 0).toNat * 7 + (P 1).toNat) (P 2), S.2) I916 J := by rw [eI916, show v913.toInt.toNat = (P 0).toNat * 7 + (P 1).toNat by omega]; exact RTX_row hy (by decide) hR 6 _ _ _ (by decide) q2
  refine WP_aload_n dX7_tellOn_15 rfl ?_
  refine WP_iload_n dX7_tellOn_16 rfl ?_
  refine WP_aload_n dX7_tellOn_17 rfl ?_
  refine WQ_iconst (0) (0) dX7_tellOn_18 rfl rfl (fun v921 hv921 => ?_)
  refine WE_iak (z := 0) dX7_tellOn_19 (lyx_is hy 4 13 rfl) (lyx_n hy 4 5 rfl) hv921 (by decide) e917 ?_
  refine WP_aload_n dX7_tellOn_20 rfl ?_
  refine WQ_iconst (1) (1) dX7_tellOn_21 rfl rfl (fun v923 hv923 => ?_)
  refine WE_iak (z := 1) dX7_tellOn_22 (lyx_is hy 4 13 rfl) (lyx_n hy 4 5 rfl) hv923 (by decide) e918 ?_
  refine WP_callV3 dX7_tellOn_23 ⟨⟨⟨by decide, by decide⟩, zX7_hold⟩, lX7_109, tX7_hold⟩ (lyx_is hy 27 7 rfl) (ex_holdb hy hr _ _ _  (r := 12 + (P 0).toNat) (d := (P 1).toNat) hR2 (by omega) (by omega) (by omega) (by omega) (by omega) (by omega)) (Nat.le_of_ble_eq_true rfl) ?_
  intro r I926 J927 Ra hq
  obtain ⟨ec, g928, g929, er, p925⟩ := hq
  rw [ec, er]
  clear ec er Ra r
  have e931 : I926 (ad g 4) 0 = w904 := by rw [FCx_at hy g928 4 (by decide) (by decide)]; exact e917
  have e932 : I926 (ad g 4) 1 = w905 := by rw [FCx_at hy g928 4 (by decide) (by decide)]; exact e918
  have e933 : I926 (ad g 4) 2 = w906 := by rw [FCx_at hy g928 4 (by decide) (by decide)]; exact e919
  have fI934 : FC g [33, 42] I I926 := FC_tr fI920 (FC_mono g928 (by decide))
  have fJ935 : FC g [] J J927 := FC_tr fJ0 (FC_mono g929 (by decide))
  try simp only [e931, e932, e933, ew904, ew905, ew906] at p925
  exact WP_vret dX7_tellOn_26 rfl ⟨rfl, fI934, fJ935, rfl, by
    try simp only [e931, e932, e933, ew904, ew905, ew906]
    exact p925⟩
set_option maxHeartbeats 4000000 in
set_option maxRecDepth 100000 in
theorem ex_tellOn4b {g : GG} {I : pI} {J : pJ} {R : pR} (hy : LyX g) (hr : RfX g R) {a b : Nat} {S : TS} {P : Nat → Int} (cl : Int32) (hR : RTX g 27 a b S I J) (hcl : cl.toInt = 4) (hP : ∀ j, j < 3 → (I (ad g 4) j).toInt = P j) (h0 : 0 ≤ P 0 ∧ P 0 < 3) (h1 : 0 ≤ P 1 ∧ P 1 < 7) : SP g mX7_tellOn [.ref (ad g 27), .ref (ad g 39), .int cl, .ref (ad g 4)] I J R (fun r I' J' R' => R' = R ∧ FC g [39, 42] I I' ∧ FC g [] J J' ∧ r = none ∧ (RTX g 27 a b (pp S.1 12 ((P 0).toNat * 7 + (P 1).toNat) (P 2), pp S.2 (16 + (P 0).toNat) (P 1).toNat true) I' J')) := by
  refine SP_of ⟨by decide, rfl⟩ (Nat.le_of_ble_eq_true rfl) ?_
  have fI0 : FC g [39, 42] I I := FC_rf
  have fJ0 : FC g [] J J := FC_rf
  have q0 := hP 0 (by decide)
  have q1 := hP 1 (by decide)
  have q2 := hP 2 (by decide)
  obtain ⟨w936, ew936⟩ : ∃ w : Int32, I (ad g 4) 0 = w := ⟨_, rfl⟩
  obtain ⟨w937, ew937⟩ : ∃ w : Int32, I (ad g 4) 1 = w := ⟨_, rfl⟩
  obtain ⟨w938, ew938⟩ : ∃ w : Int32, I (ad g 4) 2 = w := ⟨_, rfl⟩
  try simp only [ew936, ew937, ew938] at q0 q1 q2
  refine WP_aload_n dX7_tellOn_0 rfl ?_
  refine WP_aload_n dX7_tellOn_1 rfl ?_
  refine WQ_iconst (0) (0) dX7_tellOn_2 rfl rfl (fun v939 hv939 => ?_)
  refine WE_iak (z := 0) dX7_tellOn_3 (lyx_is hy 4 13 rfl) (lyx_n hy 4 5 rfl) hv939 (by decide) ew936 ?_
  refine WQ_bipush (7) (7) dX7_tellOn_4 rfl rfl (fun v941 hv941 => ?_)
  refine WQ_imulk (7) dX7_tellOn_6 hv941 (by omega) (by omega) (fun v942 hv942 => ?_)
  refine WP_aload_n dX7_tellOn_7 rfl ?_
  refine WQ_iconst (1) (1) dX7_tellOn_8 rfl rfl (fun v943 hv943 => ?_)
  refine WE_iak (z := 1) dX7_tellOn_9 (lyx_is hy 4 13 rfl) (lyx_n hy 4 5 rfl) hv943 (by decide) ew937 ?_
  refine WQ_iadd dX7_tellOn_10 (by omega) (by omega) (fun v945 hv945 => ?_)
  refine WP_aload_n dX7_tellOn_11 rfl ?_
  refine WQ_iconst (2) (2) dX7_tellOn_12 rfl rfl (fun v946 hv946 => ?_)
  refine WE_iak (z := 2) dX7_tellOn_13 (lyx_is hy 4 13 rfl) (lyx_n hy 4 5 rfl) hv946 (by decide) ew938 ?_
  refine WE_is dX7_tellOn_14 (lyx_is hy 39 13 rfl) (lyx_n hy 39 21 rfl) (by omega) (by omega) (fun I948 eI948 => ?_)
  have e949 : I948 (ad g 4) 0 = w936 := by rw [eI948, pp_ne _ _ (Or.inl (lyx_ne hy (by decide) (by decide) (by decide)))]; exact ew936
  have e950 : I948 (ad g 4) 1 = w937 := by rw [eI948, pp_ne _ _ (Or.inl (lyx_ne hy (by decide) (by decide) (by decide)))]; exact ew937
  have e951 : I948 (ad g 4) 2 = w938 := by rw [eI948, pp_ne _ _ (Or.inl (lyx_ne hy (by decide) (by decide) (by decide)))]; exact ew938
  have fI952 : FC g [39, 42] I I948 := by rw [eI948]; exact FC_pp fI0 (by decide)
  have hR2 : RTX g 27 a b (pp S.1 12 ((P 0).toNat * 7 + (P 1).toNat) (P 2), S.2) I948 J := by rw [eI948, show v945.toInt.toNat = (P 0).toNat * 7 + (P 1).toNat by omega]; exact RTX_row hy (by decide) hR 12 _ _ _ (by decide) q2
  refine WP_aload_n dX7_tellOn_15 rfl ?_
  refine WP_iload_n dX7_tellOn_16 rfl ?_
  refine WP_aload_n dX7_tellOn_17 rfl ?_
  refine WQ_iconst (0) (0) dX7_tellOn_18 rfl rfl (fun v953 hv953 => ?_)
  refine WE_iak (z := 0) dX7_tellOn_19 (lyx_is hy 4 13 rfl) (lyx_n hy 4 5 rfl) hv953 (by decide) e949 ?_
  refine WP_aload_n dX7_tellOn_20 rfl ?_
  refine WQ_iconst (1) (1) dX7_tellOn_21 rfl rfl (fun v955 hv955 => ?_)
  refine WE_iak (z := 1) dX7_tellOn_22 (lyx_is hy 4 13 rfl) (lyx_n hy 4 5 rfl) hv955 (by decide) e950 ?_
  refine WP_callV3 dX7_tellOn_23 ⟨⟨⟨by decide, by decide⟩, zX7_hold⟩, lX7_109, tX7_hold⟩ (lyx_is hy 27 7 rfl) (ex_holdb hy hr _ _ _  (r := 16 + (P 0).toNat) (d := (P 1).toNat) hR2 (by omega) (by omega) (by omega) (by omega) (by omega) (by omega)) (Nat.le_of_ble_eq_true rfl) ?_
  intro r I958 J959 Ra hq
  obtain ⟨ec, g960, g961, er, p957⟩ := hq
  rw [ec, er]
  clear ec er Ra r
  have e963 : I958 (ad g 4) 0 = w936 := by rw [FCx_at hy g960 4 (by decide) (by decide)]; exact e949
  have e964 : I958 (ad g 4) 1 = w937 := by rw [FCx_at hy g960 4 (by decide) (by decide)]; exact e950
  have e965 : I958 (ad g 4) 2 = w938 := by rw [FCx_at hy g960 4 (by decide) (by decide)]; exact e951
  have fI966 : FC g [39, 42] I I958 := FC_tr fI952 (FC_mono g960 (by decide))
  have fJ967 : FC g [] J J959 := FC_tr fJ0 (FC_mono g961 (by decide))
  try simp only [e963, e964, e965, ew936, ew937, ew938] at p957
  exact WP_vret dX7_tellOn_26 rfl ⟨rfl, fI966, fJ967, rfl, by
    try simp only [e963, e964, e965, ew936, ew937, ew938]
    exact p957⟩
set_option maxHeartbeats 4000000 in
set_option maxRecDepth 100000 in
theorem ex_tellOn5b {g : GG} {I : pI} {J : pJ} {R : pR} (hy : LyX g) (hr : RfX g R) {a b : Nat} {S : TS} {P : Nat → Int} (cl : Int32) (hR : RTX g 27 a b S I J) (hcl : cl.toInt = 5) (hP : ∀ j, j < 3 → (I (ad g 4) j).toInt = P j) (h0 : 0 ≤ P 0 ∧ P 0 < 3) (h1 : 0 ≤ P 1 ∧ P 1 < 7) : SP g mX7_tellOn [.ref (ad g 27), .ref (ad g 40), .int cl, .ref (ad g 4)] I J R (fun r I' J' R' => R' = R ∧ FC g [40, 42] I I' ∧ FC g [] J J' ∧ r = none ∧ (RTX g 27 a b (pp S.1 13 ((P 0).toNat * 7 + (P 1).toNat) (P 2), pp S.2 (20 + (P 0).toNat) (P 1).toNat true) I' J')) := by
  refine SP_of ⟨by decide, rfl⟩ (Nat.le_of_ble_eq_true rfl) ?_
  have fI0 : FC g [40, 42] I I := FC_rf
  have fJ0 : FC g [] J J := FC_rf
  have q0 := hP 0 (by decide)
  have q1 := hP 1 (by decide)
  have q2 := hP 2 (by decide)
  obtain ⟨w968, ew968⟩ : ∃ w : Int32, I (ad g 4) 0 = w := ⟨_, rfl⟩
  obtain ⟨w969, ew969⟩ : ∃ w : Int32, I (ad g 4) 1 = w := ⟨_, rfl⟩
  obtain ⟨w970, ew970⟩ : ∃ w : Int32, I (ad g 4) 2 = w := ⟨_, rfl⟩
  try simp only [ew968, ew969, ew970] at q0 q1 q2
  refine WP_aload_n dX7_tellOn_0 rfl ?_
  refine WP_aload_n dX7_tellOn_1 rfl ?_
  refine WQ_iconst (0) (0) dX7_tellOn_2 rfl rfl (fun v971 hv971 => ?_)
  refine WE_iak (z := 0) dX7_tellOn_3 (lyx_is hy 4 13 rfl) (lyx_n hy 4 5 rfl) hv971 (by decide) ew968 ?_
  refine WQ_bipush (7) (7) dX7_tellOn_4 rfl rfl (fun v973 hv973 => ?_)
  refine WQ_imulk (7) dX7_tellOn_6 hv973 (by omega) (by omega) (fun v974 hv974 => ?_)
  refine WP_aload_n dX7_tellOn_7 rfl ?_
  refine WQ_iconst (1) (1) dX7_tellOn_8 rfl rfl (fun v975 hv975 => ?_)
  refine WE_iak (z := 1) dX7_tellOn_9 (lyx_is hy 4 13 rfl) (lyx_n hy 4 5 rfl) hv975 (by decide) ew969 ?_
  refine WQ_iadd dX7_tellOn_10 (by omega) (by omega) (fun v977 hv977 => ?_)
  refine WP_aload_n dX7_tellOn_11 rfl ?_
  refine WQ_iconst (2) (2) dX7_tellOn_12 rfl rfl (fun v978 hv978 => ?_)
  refine WE_iak (z := 2) dX7_tellOn_13 (lyx_is hy 4 13 rfl) (lyx_n hy 4 5 rfl) hv978 (by decide) ew970 ?_
  refine WE_is dX7_tellOn_14 (lyx_is hy 40 13 rfl) (lyx_n hy 40 21 rfl) (by omega) (by omega) (fun I980 eI980 => ?_)
  have e981 : I980 (ad g 4) 0 = w968 := by rw [eI980, pp_ne _ _ (Or.inl (lyx_ne hy (by decide) (by decide) (by decide)))]; exact ew968
  have e982 : I980 (ad g 4) 1 = w969 := by rw [eI980, pp_ne _ _ (Or.inl (lyx_ne hy (by decide) (by decide) (by decide)))]; exact ew969
  have e983 : I980 (ad g 4) 2 = w970 := by rw [eI980, pp_ne _ _ (Or.inl (lyx_ne hy (by decide) (by decide) (by decide)))]; exact ew970
  have fI984 : FC g [40, 42] I I980 := by rw [eI980]; exact FC_pp fI0 (by decide)
  have hR2 : RTX g 27 a b (pp S.1 13 ((P 0).toNat * 7 + (P 1).toNat) (P 2), S.2) I980 J := by rw [eI980, show v977.toInt.toNat = (P 0).toNat * 7 + (P 1).toNat by omega]; exact RTX_row hy (by decide) hR 13 _ _ _ (by decide) q2
  refine WP_aload_n dX7_tellOn_15 rfl ?_
  refine WP_iload_n dX7_tellOn_16 rfl ?_
  refine WP_aload_n dX7_tellOn_17 rfl ?_
  refine WQ_iconst (0) (0) dX7_tellOn_18 rfl rfl (fun v985 hv985 => ?_)
  refine WE_iak (z := 0) dX7_tellOn_19 (lyx_is hy 4 13 rfl) (lyx_n hy 4 5 rfl) hv985 (by decide) e981 ?_
  refine WP_aload_n dX7_tellOn_20 rfl ?_
  refine WQ_iconst (1) (1) dX7_tellOn_21 rfl rfl (fun v987 hv987 => ?_)
  refine WE_iak (z := 1) dX7_tellOn_22 (lyx_is hy 4 13 rfl) (lyx_n hy 4 5 rfl) hv987 (by decide) e982 ?_
  refine WP_callV3 dX7_tellOn_23 ⟨⟨⟨by decide, by decide⟩, zX7_hold⟩, lX7_109, tX7_hold⟩ (lyx_is hy 27 7 rfl) (ex_holdb hy hr _ _ _  (r := 20 + (P 0).toNat) (d := (P 1).toNat) hR2 (by omega) (by omega) (by omega) (by omega) (by omega) (by omega)) (Nat.le_of_ble_eq_true rfl) ?_
  intro r I990 J991 Ra hq
  obtain ⟨ec, g992, g993, er, p989⟩ := hq
  rw [ec, er]
  clear ec er Ra r
  have e995 : I990 (ad g 4) 0 = w968 := by rw [FCx_at hy g992 4 (by decide) (by decide)]; exact e981
  have e996 : I990 (ad g 4) 1 = w969 := by rw [FCx_at hy g992 4 (by decide) (by decide)]; exact e982
  have e997 : I990 (ad g 4) 2 = w970 := by rw [FCx_at hy g992 4 (by decide) (by decide)]; exact e983
  have fI998 : FC g [40, 42] I I990 := FC_tr fI984 (FC_mono g992 (by decide))
  have fJ999 : FC g [] J J991 := FC_tr fJ0 (FC_mono g993 (by decide))
  try simp only [e995, e996, e997, ew968, ew969, ew970] at p989
  exact WP_vret dX7_tellOn_26 rfl ⟨rfl, fI998, fJ999, rfl, by
    try simp only [e995, e996, e997, ew968, ew969, ew970]
    exact p989⟩
set_option maxHeartbeats 4000000 in
set_option maxRecDepth 100000 in
theorem ex_tellWantb {g : GG} {I : pI} {J : pJ} {R : pR} (hy : LyX g) (hr : RfX g R) {a b : Nat} {S : TS} {P : Nat → Int}  (hR : RTX g 27 a b S I J) (hP : ∀ j, j < 5 → (I (ad g 4) j).toInt = P j) (h0 : 0 ≤ P 0 ∧ P 0 < 4) (h1 : 0 ≤ P 2 ∧ P 2 < 7) : SP g mX7_tellWant [.ref (ad g 27), .ref (ad g 4)] I J R (fun r I' J' R' => R' = R ∧ FC g [34, 35, 36, 42] I I' ∧ FC g [] J J' ∧ r = none ∧ (RTX g 27 a b (pp (pp (pp S.1 7 ((P 0).toNat * 7 + (P 2).toNat) (P 1)) 8 ((P 0).toNat * 7 + (P 2).toNat) (P 3)) 9 ((P 0).toNat * 7 + (P 2).toNat) (P 4), pp S.2 (24 + (P 0).toNat) (P 2).toNat true) I' J')) := by
  refine SP_of ⟨by decide, rfl⟩ (Nat.le_of_ble_eq_true rfl) ?_
  have fI0 : FC g [34, 35, 36, 42] I I := FC_rf
  have fJ0 : FC g [] J J := FC_rf
  have q0 := hP 0 (by decide)
  have q1 := hP 1 (by decide)
  have q2 := hP 2 (by decide)
  have q3 := hP 3 (by decide)
  have q4 := hP 4 (by decide)
  obtain ⟨w1000, ew1000⟩ : ∃ w : Int32, I (ad g 4) 0 = w := ⟨_, rfl⟩
  obtain ⟨w1001, ew1001⟩ : ∃ w : Int32, I (ad g 4) 1 = w := ⟨_, rfl⟩
  obtain ⟨w1002, ew1002⟩ : ∃ w : Int32, I (ad g 4) 2 = w := ⟨_, rfl⟩
  obtain ⟨w1003, ew1003⟩ : ∃ w : Int32, I (ad g 4) 3 = w := ⟨_, rfl⟩
  obtain ⟨w1004, ew1004⟩ : ∃ w : Int32, I (ad g 4) 4 = w := ⟨_, rfl⟩
  try simp only [ew1000, ew1001, ew1002, ew1003, ew1004] at q0 q1 q2 q3 q4
  refine WP_aload_n dX7_tellWant_0 rfl ?_
  refine WQ_iconst (0) (0) dX7_tellWant_1 rfl rfl (fun v1005 hv1005 => ?_)
  refine WE_iak (z := 0) dX7_tellWant_2 (lyx_is hy 4 13 rfl) (lyx_n hy 4 5 rfl) hv1005 (by decide) ew1000 ?_
  refine WQ_bipush (7) (7) dX7_tellWant_3 rfl rfl (fun v1007 hv1007 => ?_)
  refine WQ_imulk (7) dX7_tellWant_5 hv1007 (by omega) (by omega) (fun v1008 hv1008 => ?_)
  refine WP_aload_n dX7_tellWant_6 rfl ?_
  refine WQ_iconst (2) (2) dX7_tellWant_7 rfl rfl (fun v1009 hv1009 => ?_)
  refine WE_iak (z := 2) dX7_tellWant_8 (lyx_is hy 4 13 rfl) (lyx_n hy 4 5 rfl) hv1009 (by decide) ew1002 ?_
  refine WQ_iadd dX7_tellWant_9 (by omega) (by omega) (fun v1011 hv1011 => ?_)
  refine WP_istore_n (ls' := [(0, _), (1, _), (2, _)]) dX7_tellWant_10 (by decide) rfl ?_
  refine WP_aload_n dX7_tellWant_11 rfl ?_
  refine WP_getr dX7_tellWant_12 fX7_30 rfl (lyx_is hy 27 7 rfl) (rfx hr 27 11 34 (by decide)) ?_
  refine WP_iload_n dX7_tellWant_15 rfl ?_
  refine WP_aload_n dX7_tellWant_16 rfl ?_
  refine WQ_iconst (1) (1) dX7_tellWant_17 rfl rfl (fun v1012 hv1012 => ?_)
  refine WE_iak (z := 1) dX7_tellWant_18 (lyx_is hy 4 13 rfl) (lyx_n hy 4 5 rfl) hv1012 (by decide) ew1001 ?_
  refine WE_is dX7_tellWant_19 (lyx_is hy 34 13 rfl) (lyx_n hy 34 28 rfl) (by omega) (by omega) (fun I1014 eI1014 => ?_)
  have e1015 : I1014 (ad g 4) 0 = w1000 := by rw [eI1014, pp_ne _ _ (Or.inl (lyx_ne hy (by decide) (by decide) (by decide)))]; exact ew1000
  have e1016 : I1014 (ad g 4) 1 = w1001 := by rw [eI1014, pp_ne _ _ (Or.inl (lyx_ne hy (by decide) (by decide) (by decide)))]; exact ew1001
  have e1017 : I1014 (ad g 4) 2 = w1002 := by rw [eI1014, pp_ne _ _ (Or.inl (lyx_ne hy (by decide) (by decide) (by decide)))]; exact ew1002
  have e1018 : I1014 (ad g 4) 3 = w1003 := by rw [eI1014, pp_ne _ _ (Or.inl (lyx_ne hy (by decide) (by decide) (by decide)))]; exact ew1003
  have e1019 : I1014 (ad g 4) 4 = w1004 := by rw [eI1014, pp_ne _ _ (Or.inl (lyx_ne hy (by decide) (by decide) (by decide)))]; exact ew1004
  have fI1020 : FC g [34, 35, 36, 42] I I1014 := by rw [eI1014]; exact FC_pp fI0 (by decide)
  have hR2 : RTX g 27 a b (pp S.1 7 ((P 0).toNat * 7 + (P 2).toNat) (P 1), S.2) I1014 J := by rw [eI1014, show v1011.toInt.toNat = ((P 0).toNat * 7 + (P 2).toNat) by omega]; exact RTX_row hy (by decide) hR 7 _ _ _ (by decide) q1
  refine WP_aload_n dX7_tellWant_20 rfl ?_
  refine WP_getr dX7_tellWant_21 fX7_33 rfl (lyx_is hy 27 7 rfl) (rfx hr 27 12 35 (by decide)) ?_
  refine WP_iload_n dX7_tellWant_24 rfl ?_
  refine WP_aload_n dX7_tellWant_25 rfl ?_
  refine WQ_iconst (3) (3) dX7_tellWant_26 rfl rfl (fun v1021 hv1021 => ?_)
  refine WE_iak (z := 3) dX7_tellWant_27 (lyx_is hy 4 13 rfl) (lyx_n hy 4 5 rfl) hv1021 (by decide) e1018 ?_
  refine WE_is dX7_tellWant_28 (lyx_is hy 35 13 rfl) (lyx_n hy 35 28 rfl) (by omega) (by omega) (fun I1023 eI1023 => ?_)
  have e1024 : I1023 (ad g 4) 0 = w1000 := by rw [eI1023, pp_ne _ _ (Or.inl (lyx_ne hy (by decide) (by decide) (by decide)))]; exact e1015
  have e1025 : I1023 (ad g 4) 1 = w1001 := by rw [eI1023, pp_ne _ _ (Or.inl (lyx_ne hy (by decide) (by decide) (by decide)))]; exact e1016
  have e1026 : I1023 (ad g 4) 2 = w1002 := by rw [eI1023, pp_ne _ _ (Or.inl (lyx_ne hy (by decide) (by decide) (by decide)))]; exact e1017
  have e1027 : I1023 (ad g 4) 3 = w1003 := by rw [eI1023, pp_ne _ _ (Or.inl (lyx_ne hy (by decide) (by decide) (by decide)))]; exact e1018
  have e1028 : I1023 (ad g 4) 4 = w1004 := by rw [eI1023, pp_ne _ _ (Or.inl (lyx_ne hy (by decide) (by decide) (by decide)))]; exact e1019
  have fI1029 : FC g [34, 35, 36, 42] I I1023 := by rw [eI1023]; exact FC_pp fI1020 (by decide)
  have hR3 : RTX g 27 a b (pp (pp S.1 7 ((P 0).toNat * 7 + (P 2).toNat) (P 1)) 8 ((P 0).toNat * 7 + (P 2).toNat) (P 3), S.2) I1023 J := by rw [eI1023, show v1011.toInt.toNat = ((P 0).toNat * 7 + (P 2).toNat) by omega]; exact RTX_row hy (by decide) hR2 8 _ _ _ (by decide) q3
  refine WP_aload_n dX7_tellWant_29 rfl ?_
  refine WP_getr dX7_tellWant_30 fX7_36 rfl (lyx_is hy 27 7 rfl) (rfx hr 27 13 36 (by decide)) ?_
  refine WP_iload_n dX7_tellWant_33 rfl ?_
  refine WP_aload_n dX7_tellWant_34 rfl ?_
  refine WQ_iconst (4) (4) dX7_tellWant_35 rfl rfl (fun v1030 hv1030 => ?_)
  refine WE_iak (z := 4) dX7_tellWant_36 (lyx_is hy 4 13 rfl) (lyx_n hy 4 5 rfl) hv1030 (by decide) e1028 ?_
  refine WE_is dX7_tellWant_37 (lyx_is hy 36 13 rfl) (lyx_n hy 36 28 rfl) (by omega) (by omega) (fun I1032 eI1032 => ?_)
  have e1033 : I1032 (ad g 4) 0 = w1000 := by rw [eI1032, pp_ne _ _ (Or.inl (lyx_ne hy (by decide) (by decide) (by decide)))]; exact e1024
  have e1034 : I1032 (ad g 4) 1 = w1001 := by rw [eI1032, pp_ne _ _ (Or.inl (lyx_ne hy (by decide) (by decide) (by decide)))]; exact e1025
  have e1035 : I1032 (ad g 4) 2 = w1002 := by rw [eI1032, pp_ne _ _ (Or.inl (lyx_ne hy (by decide) (by decide) (by decide)))]; exact e1026
  have e1036 : I1032 (ad g 4) 3 = w1003 := by rw [eI1032, pp_ne _ _ (Or.inl (lyx_ne hy (by decide) (by decide) (by decide)))]; exact e1027
  have e1037 : I1032 (ad g 4) 4 = w1004 := by rw [eI1032, pp_ne _ _ (Or.inl (lyx_ne hy (by decide) (by decide) (by decide)))]; exact e1028
  have fI1038 : FC g [34, 35, 36, 42] I I1032 := by rw [eI1032]; exact FC_pp fI1029 (by decide)
  have hR4 : RTX g 27 a b (pp (pp (pp S.1 7 ((P 0).toNat * 7 + (P 2).toNat) (P 1)) 8 ((P 0).toNat * 7 + (P 2).toNat) (P 3)) 9 ((P 0).toNat * 7 + (P 2).toNat) (P 4), S.2) I1032 J := by rw [eI1032, show v1011.toInt.toNat = ((P 0).toNat * 7 + (P 2).toNat) by omega]; exact RTX_row hy (by decide) hR3 9 _ _ _ (by decide) q4
  refine WP_aload_n dX7_tellWant_38 rfl ?_
  refine WQ_bipush (6) (6) dX7_tellWant_39 rfl rfl (fun v1039 hv1039 => ?_)
  refine WP_aload_n dX7_tellWant_41 rfl ?_
  refine WQ_iconst (0) (0) dX7_tellWant_42 rfl rfl (fun v1040 hv1040 => ?_)
  refine WE_iak (z := 0) dX7_tellWant_43 (lyx_is hy 4 13 rfl) (lyx_n hy 4 5 rfl) hv1040 (by decide) e1033 ?_
  refine WP_aload_n dX7_tellWant_44 rfl ?_
  refine WQ_iconst (2) (2) dX7_tellWant_45 rfl rfl (fun v1042 hv1042 => ?_)
  refine WE_iak (z := 2) dX7_tellWant_46 (lyx_is hy 4 13 rfl) (lyx_n hy 4 5 rfl) hv1042 (by decide) e1035 ?_
  refine WP_callV3 dX7_tellWant_47 ⟨⟨⟨by decide, by decide⟩, zX7_hold⟩, lX7_109, tX7_hold⟩ (lyx_is hy 27 7 rfl) (ex_holdb hy hr _ _ _  (r := 24 + (P 0).toNat) (d := (P 2).toNat) hR4 (by omega) (by omega) (by omega) (by omega) (by omega) (by omega)) (Nat.le_of_ble_eq_true rfl) ?_
  intro r I1045 J1046 Ra hq
  obtain ⟨ec, g1047, g1048, er, p1044⟩ := hq
  rw [ec, er]
  clear ec er Ra r
  have e1050 : I1045 (ad g 4) 0 = w1000 := by rw [FCx_at hy g1047 4 (by decide) (by decide)]; exact e1033
  have e1051 : I1045 (ad g 4) 1 = w1001 := by rw [FCx_at hy g1047 4 (by decide) (by decide)]; exact e1034
  have e1052 : I1045 (ad g 4) 2 = w1002 := by rw [FCx_at hy g1047 4 (by decide) (by decide)]; exact e1035
  have e1053 : I1045 (ad g 4) 3 = w1003 := by rw [FCx_at hy g1047 4 (by decide) (by decide)]; exact e1036
  have e1054 : I1045 (ad g 4) 4 = w1004 := by rw [FCx_at hy g1047 4 (by decide) (by decide)]; exact e1037
  have fI1055 : FC g [34, 35, 36, 42] I I1045 := FC_tr fI1038 (FC_mono g1047 (by decide))
  have fJ1056 : FC g [] J J1046 := FC_tr fJ0 (FC_mono g1048 (by decide))
  try simp only [e1050, e1051, e1052, e1053, e1054, ew1000, ew1001, ew1002, ew1003, ew1004] at p1044
  exact WP_vret dX7_tellWant_50 rfl ⟨rfl, fI1055, fJ1056, rfl, by
    try simp only [e1050, e1051, e1052, e1053, e1054, ew1000, ew1001, ew1002, ew1003, ew1004]
    exact p1044⟩
set_option maxHeartbeats 4000000 in
set_option maxRecDepth 100000 in
theorem ex_tellSortb {g : GG} {I : pI} {J : pJ} {R : pR} (hy : LyX g) (hr : RfX g R) {a b : Nat} {S : TS} {P : Nat → Int}  (hR : RTX g 27 a b S I J) (hP : ∀ j, 1 ≤ j → j < 4 → (I (ad g 4) j).toInt = P j) (h0 : 0 ≤ S.1 0 1 ∧ S.1 0 1 < 4) : SP g mX7_tellSort [.ref (ad g 27), .ref (ad g 4)] I J R (fun r I' J' R' => R' = R ∧ FC g [27, 29, 30, 31] I I' ∧ FC g [] J J' ∧ r = none ∧ (RTX g 27 a b (pp (pp (pp (pp S.1 2 (S.1 0 1).toNat (P 1)) 3 (S.1 0 1).toNat (P 2)) 4 (S.1 0 1).toNat (P 3)) 0 1 (S.1 0 1 + 1), S.2) I' J')) := by
  refine SP_of ⟨by decide, rfl⟩ (Nat.le_of_ble_eq_true rfl) ?_
  have fI0 : FC g [27, 29, 30, 31] I I := FC_rf
  have fJ0 : FC g [] J J := FC_rf
  have hs := hR.1 1 (by decide)
  have q1 := hP 1 (by decide) (by decide)
  have q2 := hP 2 (by decide) (by decide)
  have q3 := hP 3 (by decide) (by decide)
  obtain ⟨w1057, ew1057⟩ : ∃ w : Int32, I (ad g 4) 1 = w := ⟨_, rfl⟩
  obtain ⟨w1058, ew1058⟩ : ∃ w : Int32, I (ad g 4) 2 = w := ⟨_, rfl⟩
  obtain ⟨w1059, ew1059⟩ : ∃ w : Int32, I (ad g 4) 3 = w := ⟨_, rfl⟩
  obtain ⟨w1060, ew1060⟩ : ∃ w : Int32, I (ad g 27) 1 = w := ⟨_, rfl⟩
  try simp only [ew1057, ew1058, ew1059, ew1060] at q1 q2 q3 hs
  refine WP_aload_n dX7_tellSort_0 rfl ?_
  refine WP_getr dX7_tellSort_1 fX7_15 rfl (lyx_is hy 27 7 rfl) (rfx hr 27 6 29 (by decide)) ?_
  refine WP_aload_n dX7_tellSort_4 rfl ?_
  refine WQ_getim dX7_tellSort_5 fX7_65 rfl (lyx_is hy 27 7 rfl) ew1060 ?_
  refine WP_aload_n dX7_tellSort_8 rfl ?_
  refine WQ_iconst (1) (1) dX7_tellSort_9 rfl rfl (fun v1061 hv1061 => ?_)
  refine WE_iak (z := 1) dX7_tellSort_10 (lyx_is hy 4 13 rfl) (lyx_n hy 4 5 rfl) hv1061 (by decide) ew1057 ?_
  refine WE_is dX7_tellSort_11 (lyx_is hy 29 13 rfl) (lyx_n hy 29 4 rfl) (by omega) (by omega) (fun I1063 eI1063 => ?_)
  have e1064 : I1063 (ad g 4) 1 = w1057 := by rw [eI1063, pp_ne _ _ (Or.inl (lyx_ne hy (by decide) (by decide) (by decide)))]; exact ew1057
  have e1065 : I1063 (ad g 4) 2 = w1058 := by rw [eI1063, pp_ne _ _ (Or.inl (lyx_ne hy (by decide) (by decide) (by decide)))]; exact ew1058
  have e1066 : I1063 (ad g 4) 3 = w1059 := by rw [eI1063, pp_ne _ _ (Or.inl (lyx_ne hy (by decide) (by decide) (by decide)))]; exact ew1059
  have e1067 : I1063 (ad g 27) 1 = w1060 := by rw [eI1063, pp_ne _ _ (Or.inl (lyx_ne hy (by decide) (by decide) (by decide)))]; exact ew1060
  have fI1068 : FC g [27, 29, 30, 31] I I1063 := by rw [eI1063]; exact FC_pp fI0 (by decide)
  refine WP_aload_n dX7_tellSort_12 rfl ?_
  refine WP_getr dX7_tellSort_13 fX7_18 rfl (lyx_is hy 27 7 rfl) (rfx hr 27 7 30 (by decide)) ?_
  refine WP_aload_n dX7_tellSort_16 rfl ?_
  refine WQ_getim dX7_tellSort_17 fX7_65 rfl (lyx_is hy 27 7 rfl) e1067 ?_
  refine WP_aload_n dX7_tellSort_20 rfl ?_
  refine WQ_iconst (2) (2) dX7_tellSort_21 rfl rfl (fun v1069 hv1069 => ?_)
  refine WE_iak (z := 2) dX7_tellSort_22 (lyx_is hy 4 13 rfl) (lyx_n hy 4 5 rfl) hv1069 (by decide) e1065 ?_
  refine WE_is dX7_tellSort_23 (lyx_is hy 30 13 rfl) (lyx_n hy 30 4 rfl) (by omega) (by omega) (fun I1071 eI1071 => ?_)
  have e1072 : I1071 (ad g 4) 1 = w1057 := by rw [eI1071, pp_ne _ _ (Or.inl (lyx_ne hy (by decide) (by decide) (by decide)))]; exact e1064
  have e1073 : I1071 (ad g 4) 2 = w1058 := by rw [eI1071, pp_ne _ _ (Or.inl (lyx_ne hy (by decide) (by decide) (by decide)))]; exact e1065
  have e1074 : I1071 (ad g 4) 3 = w1059 := by rw [eI1071, pp_ne _ _ (Or.inl (lyx_ne hy (by decide) (by decide) (by decide)))]; exact e1066
  have e1075 : I1071 (ad g 27) 1 = w1060 := by rw [eI1071, pp_ne _ _ (Or.inl (lyx_ne hy (by decide) (by decide) (by decide)))]; exact e1067
  have fI1076 : FC g [27, 29, 30, 31] I I1071 := by rw [eI1071]; exact FC_pp fI1068 (by decide)
  refine WP_aload_n dX7_tellSort_24 rfl ?_
  refine WP_getr dX7_tellSort_25 fX7_21 rfl (lyx_is hy 27 7 rfl) (rfx hr 27 8 31 (by decide)) ?_
  refine WP_aload_n dX7_tellSort_28 rfl ?_
  refine WQ_getim dX7_tellSort_29 fX7_65 rfl (lyx_is hy 27 7 rfl) e1075 ?_
  refine WP_aload_n dX7_tellSort_32 rfl ?_
  refine WQ_iconst (3) (3) dX7_tellSort_33 rfl rfl (fun v1077 hv1077 => ?_)
  refine WE_iak (z := 3) dX7_tellSort_34 (lyx_is hy 4 13 rfl) (lyx_n hy 4 5 rfl) hv1077 (by decide) e1074 ?_
  refine WE_is dX7_tellSort_35 (lyx_is hy 31 13 rfl) (lyx_n hy 31 4 rfl) (by omega) (by omega) (fun I1079 eI1079 => ?_)
  have e1080 : I1079 (ad g 4) 1 = w1057 := by rw [eI1079, pp_ne _ _ (Or.inl (lyx_ne hy (by decide) (by decide) (by decide)))]; exact e1072
  have e1081 : I1079 (ad g 4) 2 = w1058 := by rw [eI1079, pp_ne _ _ (Or.inl (lyx_ne hy (by decide) (by decide) (by decide)))]; exact e1073
  have e1082 : I1079 (ad g 4) 3 = w1059 := by rw [eI1079, pp_ne _ _ (Or.inl (lyx_ne hy (by decide) (by decide) (by decide)))]; exact e1074
  have e1083 : I1079 (ad g 27) 1 = w1060 := by rw [eI1079, pp_ne _ _ (Or.inl (lyx_ne hy (by decide) (by decide) (by decide)))]; exact e1075
  have fI1084 : FC g [27, 29, 30, 31] I I1079 := by rw [eI1079]; exact FC_pp fI1076 (by decide)
  refine WP_aload_n dX7_tellSort_36 rfl ?_
  refine WP_dup dX7_tellSort_37 rfl ?_
  refine WQ_getim dX7_tellSort_38 fX7_65 rfl (lyx_is hy 27 7 rfl) e1083 ?_
  refine WQ_iconst (1) (1) dX7_tellSort_41 rfl rfl (fun v1085 hv1085 => ?_)
  refine WQ_iadd dX7_tellSort_42 (by omega) (by omega) (fun v1086 hv1086 => ?_)
  refine WQ_puti dX7_tellSort_43 fX7_65 rfl rfl (lyx_is hy 27 7 rfl) (fun I1087 eI1087 => ?_)
  have e1088 : I1087 (ad g 4) 1 = w1057 := by rw [eI1087, pp_ne _ _ (Or.inl (lyx_ne hy (by decide) (by decide) (by decide)))]; exact e1080
  have e1089 : I1087 (ad g 4) 2 = w1058 := by rw [eI1087, pp_ne _ _ (Or.inl (lyx_ne hy (by decide) (by decide) (by decide)))]; exact e1081
  have e1090 : I1087 (ad g 4) 3 = w1059 := by rw [eI1087, pp_ne _ _ (Or.inl (lyx_ne hy (by decide) (by decide) (by decide)))]; exact e1082
  have e1091 : I1087 (ad g 27) 1 = v1086 := by rw [eI1087, pp_self]
  have fI1092 : FC g [27, 29, 30, 31] I I1087 := by rw [eI1087]; exact FC_pp fI1084 (by decide)
  exact WP_vret dX7_tellSort_46 rfl ⟨rfl, fI1092, fJ0, rfl, by
    try simp only [e1088, e1089, e1090, e1091, ew1057, ew1058, ew1059, ew1060]
    rw [eI1087, eI1079, eI1071, eI1063, show w1060.toInt.toNat = (S.1 0 1).toNat by omega]
    exact RTX_sort hy (by decide) hR _ _ _ _ _ _ _ _ (by omega) q1 q2 q3 (by omega)⟩
