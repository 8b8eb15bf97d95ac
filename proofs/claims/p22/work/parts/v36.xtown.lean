/-- the parts of a clause that are read: places lo .. k - 1 -/
def PRX (g : GG) (P : Nat → Int) (lo k : Nat) (I : pI) : Prop := ∀ j, lo ≤ j → j < k → (I (ad g 4) j).toInt = P j
theorem PRX_fr {g : GG} (hy : LyX g) {P : Nat → Int} {lo k : Nat} {I I' : pI} {C : List Nat} (h : PRX g P lo k I) (hf : FC g C I I') (hc : ∀ i ∈ C, 4 ≠ i ∧ i < 74) : PRX g P lo k I' := fun j h1 h2 => by
  rw [FCx_at hy hf 4 (by decide) hc]; exact h j h1 h2
theorem PRX_pp {g : GG} (hy : LyX g) {P : Nat → Int} {lo k : Nat} {I : pI} {c q : Nat} {v : Int32} (h : PRX g P lo k I) (hc : 4 ≠ c) (hc2 : c < 74) : PRX g P lo k (pp I (ad g c) q v) := fun j h1 h2 => by
  rw [pp_off _ _ (lyx_ne hy hc (by decide) hc2)]; exact h j h1 h2
set_option maxHeartbeats 4000000 in
set_option maxRecDepth 100000 in
theorem ex_nameda {g : GG} {I : pI} {J : pJ} {R : pR} (hy : LyX g) (hr : RfX g R) {nm : Nat → Int} {b k : Nat} (wd : Int64) (fr : Int32) (mn : Int32) (hf : fr.toInt = (b : Int)) (hk : mn.toInt = (k : Int)) (hbk : b + k ≤ 7) (hN : ∀ q, q < k → (J (ad g 20) (b + q)).toInt = nm (b + q)) : SP g mX7_named [.ref (ad g 6), .long wd, .int fr, .int mn] I J R (fun r I' J' R' => (I' = I ∧ J' = J ∧ R' = R) ∧ ∃ v : Int32, r = some (.int v) ∧ (v.toInt = fnd nm b wd.toInt k 0)) := by
  refine SP_of ⟨by decide, rfl⟩ (Nat.le_of_ble_eq_true rfl) ?_
  refine WQ_iconst (0) (0) dX7_named_0 rfl rfl (fun v413 hv413 => ?_)
  refine WP_istore (ls' := [(0, _), (1, _), (3, _), (4, _), (5, _)]) dX7_named_1 (by decide) rfl ?_
  have lp415 : ∀ (mz : Nat) (i414 : Int32), (∃ j : Nat, i414.toInt = (j : Int) ∧ j ≤ k ∧ fnd nm b wd.toInt (k - j) j = fnd nm b wd.toInt k 0) → (k - i414.toInt.toNat) < mz → WP g mX7_named 3 [(0, .ref (ad g 6)), (1, .long wd), (3, .int fr), (4, .int mn), (5, .int i414)] [] I J R (fun r I' J' R' => (I' = I ∧ J' = J ∧ R' = R) ∧ ∃ v : Int32, r = some (.int v) ∧ (v.toInt = fnd nm b wd.toInt k 0)) := by
    intro mz
    induction mz with
    | zero =>
      intro i414  hvlp415 hmlp415
      exact absurd hmlp415 (Nat.not_lt_zero _)
    | succ mz ihlp415 =>
      intro i414  hvlp415 hmlp415
      obtain ⟨j, ij, ijk, ifn⟩ := hvlp415
      refine WP_iload dX7_named_3 rfl ?_
      refine WP_iload dX7_named_5 rfl ?_
      refine WQ_icmp_ge 33 dX7_named_7 rfl (fun c415 => ?_) (fun c415 => ?_)
      · refine WQ_iconst (-1) (-1) dX7_named_33 rfl rfl (fun v417 hv417 => ?_)
        exact WP_iret dX7_named_34 rfl ⟨⟨rfl, rfl, rfl⟩, v417, rfl, by
          rw [← ifn, fnd_end (by omega)]; omega⟩
      · refine WP_aload_n dX7_named_10 rfl ?_
        refine WP_getr dX7_named_11 fX7_51 rfl (lyx_is hy 6 7 rfl) (rfx hr 6 18 20 (by decide)) ?_
        refine WP_iload_n dX7_named_14 rfl ?_
        refine WP_iload dX7_named_15 rfl ?_
        refine WQ_iadd dX7_named_17 (by omega) (by omega) (fun v418 hv418 => ?_)
        refine WE_la dX7_named_18 (lyx_is hy 20 14 rfl) (lyx_n hy 20 7 rfl) (by omega) (by omega) (fun l419 el419 => ?_)
        refine WP_lload_n dX7_named_19 rfl ?_
        have hn20 : l419.toInt = nm (b + j) := by
          rw [← el419, show v418.toInt.toNat = b + j by omega]
          exact hN j (by omega)
        refine WP_lcmp dX7_named_20 ?_
        obtain ⟨v420, xv420⟩ : ∃ v : Int32, v = lg_cmp l419 wd := ⟨_, rfl⟩
        rw [← xv420]
        have hv420 := cmp_z l419 wd v420 xv420
        refine WQ_if_ne 27 dX7_named_21 rfl (fun c420 => ?_) (fun c420 => ?_)
        · have hne : nm (b + j) ≠ wd.toInt := by intro e; omega
          refine WP_iinc (ls' := [(0, _), (1, _), (3, _), (4, _), (5, _)]) dX7_named_27 rfl (by decide) rfl ?_
          have hv422 : (i414 + Int32.ofInt (1)).toInt = i414.toInt + (1) := ia_n rfl (by omega) (by omega)
          generalize i414 + Int32.ofInt (1) = v422 at hv422 ⊢
          refine WP_goto 3 dX7_named_30 rfl ?_
          refine WP_sub (fc rfl (fc rfl (fc rfl (fc rfl (fc rfl fn))))) (ihlp415 v422  ?_ ?_)
          · refine ⟨j + 1, by omega, by omega, ?_⟩
            rw [← fnd_go (by omega) hne]; exact ifn
          · omega
        · refine WP_iload dX7_named_24 rfl ?_
          exact WP_iret dX7_named_26 rfl ⟨⟨rfl, rfl, rfl⟩, i414, rfl, by
            rw [← ifn, fnd_at (by omega) (by omega)]; omega⟩
  refine WP_sub (fc rfl (fc rfl (fc rfl (fc rfl (fc rfl fn))))) (lp415 _ v413  ?_ (Nat.lt_succ_self _))
  · exact ⟨0, by omega, by omega, rfl⟩
set_option maxHeartbeats 4000000 in
set_option maxRecDepth 100000 in
theorem ex_sortNameda {g : GG} {I : pI} {J : pJ} {R : pR} (hy : LyX g) (hr : RfX g R) {S : TwS} (wd : Int64) (hR : RTX g 6 S I J) (hB : SBn S) : SP g mX7_sortNamed [.ref (ad g 6), .long wd] I J R (fun r I' J' R' => (I' = I ∧ J' = J ∧ R' = R) ∧ ∃ v : Int32, r = some (.int v) ∧ (v.toInt = fnS S wd.toInt)) := by
  refine SP_of ⟨by decide, rfl⟩ (Nat.le_of_ble_eq_true rfl) ?_
  have hs1 : (I (ad g 6) 1).toInt = S.1 0 1 := hR.1 0 1 (by decide) (by decide)
  obtain ⟨b1, b2, b3, b4⟩ := hB
  obtain ⟨w423, ew423⟩ : ∃ w : Int32, I (ad g 6) 1 = w := ⟨_, rfl⟩
  try simp only [ew423] at hs1
  refine WP_aload_n dX7_sortNamed_0 rfl ?_
  refine WP_lload_n dX7_sortNamed_1 rfl ?_
  refine WQ_iconst (0) (0) dX7_sortNamed_2 rfl rfl (fun v424 hv424 => ?_)
  refine WP_aload_n dX7_sortNamed_3 rfl ?_
  refine WQ_getim dX7_sortNamed_4 fX7_65 rfl (lyx_is hy 6 7 rfl) ew423 ?_
  refine WP_callV3 (k := 7) dX7_sortNamed_7 ⟨⟨⟨by decide, by decide⟩, zX7_named⟩, lX7_83, by decide, rfl, vX7_named.1, vX7_named.2⟩ (lyx_is hy 6 7 rfl) (ex_nameda hy hr _ _ _  (nm := S.1 14) (b := 0) (k := (S.1 0 1).toNat) (by omega) (by omega) (by omega) (fun q hq => hR.2.1 (0 + q) (by omega))) (Nat.le_of_ble_eq_true rfl) ?_
  intro r Ia Ja Ra hq
  obtain ⟨⟨ea, eb, ec⟩, v426, er, p425⟩ := hq
  rw [ea, eb, ec, er]
  clear ea eb ec er Ia Ja Ra r
  exact WP_iret dX7_sortNamed_10 rfl ⟨⟨rfl, rfl, rfl⟩, v426, rfl, by
    try simp only [ew423]
    exact p425⟩
set_option maxHeartbeats 4000000 in
set_option maxRecDepth 100000 in
theorem ex_thingNameda {g : GG} {I : pI} {J : pJ} {R : pR} (hy : LyX g) (hr : RfX g R) {S : TwS} (wd : Int64) (hR : RTX g 6 S I J) (hB : SBn S) : SP g mX7_thingNamed [.ref (ad g 6), .long wd] I J R (fun r I' J' R' => (I' = I ∧ J' = J ∧ R' = R) ∧ ∃ v : Int32, r = some (.int v) ∧ (v.toInt = fnT S wd.toInt)) := by
  refine SP_of ⟨by decide, rfl⟩ (Nat.le_of_ble_eq_true rfl) ?_
  have hs2 : (I (ad g 6) 2).toInt = S.1 0 2 := hR.1 0 2 (by decide) (by decide)
  obtain ⟨b1, b2, b3, b4⟩ := hB
  obtain ⟨w427, ew427⟩ : ∃ w : Int32, I (ad g 6) 2 = w := ⟨_, rfl⟩
  try simp only [ew427] at hs2
  refine WP_aload_n dX7_thingNamed_0 rfl ?_
  refine WP_lload_n dX7_thingNamed_1 rfl ?_
  refine WQ_iconst (4) (4) dX7_thingNamed_2 rfl rfl (fun v428 hv428 => ?_)
  refine WP_aload_n dX7_thingNamed_3 rfl ?_
  refine WQ_getim dX7_thingNamed_4 fX7_68 rfl (lyx_is hy 6 7 rfl) ew427 ?_
  refine WP_callV3 (k := 7) dX7_thingNamed_7 ⟨⟨⟨by decide, by decide⟩, zX7_named⟩, lX7_83, by decide, rfl, vX7_named.1, vX7_named.2⟩ (lyx_is hy 6 7 rfl) (ex_nameda hy hr _ _ _  (nm := S.1 14) (b := 4) (k := (S.1 0 2).toNat) (by omega) (by omega) (by omega) (fun q hq => hR.2.1 (4 + q) (by omega))) (Nat.le_of_ble_eq_true rfl) ?_
  intro r Ia Ja Ra hq
  obtain ⟨⟨ea, eb, ec⟩, v430, er, p429⟩ := hq
  rw [ea, eb, ec, er]
  clear ea eb ec er Ia Ja Ra r
  exact WP_iret dX7_thingNamed_10 rfl ⟨⟨rfl, rfl, rfl⟩, v430, rfl, by
    try simp only [ew427]
    exact p429⟩
set_option maxHeartbeats 4000000 in
set_option maxRecDepth 100000 in
theorem ex_namea {g : GG} {I : pI} {J : pJ} {R : pR} (hy : LyX g) (hr : RfX g R) {S : TwS} (os : Int32) (wd : Int64) (hR : RTX g 6 S I J) (hB : SBn S) (h4 : os.toInt ≠ 0 → S.1 0 1 < 4) (h3 : os.toInt = 0 → S.1 0 2 < 3) : SP g mX7_name [.ref (ad g 6), .int os, .long wd] I J R (fun r I' J' R' => R' = R ∧ FC g [] I I' ∧ FC g [20] J J' ∧ r = none ∧ ((os.toInt ≠ 0 → RTX g 6 (pp S.1 14 (S.1 0 1).toNat wd.toInt, S.2) I' J') ∧ (os.toInt = 0 → RTX g 6 (pp S.1 14 (4 + (S.1 0 2).toNat) wd.toInt, S.2) I' J'))) := by
  refine SP_of ⟨by decide, rfl⟩ (Nat.le_of_ble_eq_true rfl) ?_
  have fI0 : FC g [] I I := FC_rf
  have fJ0 : FC g [20] J J := FC_rf
  have hs1 : (I (ad g 6) 1).toInt = S.1 0 1 := hR.1 0 1 (by decide) (by decide)
  have hs2 : (I (ad g 6) 2).toInt = S.1 0 2 := hR.1 0 2 (by decide) (by decide)
  obtain ⟨b1, b2, b3, b4⟩ := hB
  obtain ⟨w431, ew431⟩ : ∃ w : Int32, I (ad g 6) 1 = w := ⟨_, rfl⟩
  obtain ⟨w432, ew432⟩ : ∃ w : Int32, I (ad g 6) 2 = w := ⟨_, rfl⟩
  try simp only [ew431, ew432] at hs1 hs2
  refine WP_aload_n dX7_name_0 rfl ?_
  refine WP_getr dX7_name_1 fX7_51 rfl (lyx_is hy 6 7 rfl) (rfx hr 6 18 20 (by decide)) ?_
  refine WP_iload_n dX7_name_4 rfl ?_
  refine WQ_if_eq 15 dX7_name_5 rfl (fun c432 => ?_) (fun c432 => ?_)
  · refine WQ_iconst (4) (4) dX7_name_15 rfl rfl (fun v434 hv434 => ?_)
    refine WP_aload_n dX7_name_16 rfl ?_
    refine WQ_getim dX7_name_17 fX7_68 rfl (lyx_is hy 6 7 rfl) ew432 ?_
    refine WQ_iadd dX7_name_20 (by omega) (by omega) (fun v435 hv435 => ?_)
    refine WP_lload_n dX7_name_21 rfl ?_
    refine WE_ls dX7_name_22 (lyx_is hy 20 14 rfl) (lyx_n hy 20 7 rfl) (by omega) (by omega) (fun J436 eJ436 => ?_)
    have fJ437 : FC g [20] J J436 := by rw [eJ436]; exact FC_pp fJ0 (by decide)
    exact WP_vret dX7_name_23 rfl ⟨rfl, fI0, fJ437, rfl, by
      try simp only [ew431, ew432]
      refine ⟨fun h => absurd h (by omega), fun _ => ?_⟩
      rw [eJ436, show v435.toInt.toNat = 4 + (S.1 0 2).toNat by omega]
      exact RTX_nm hR _ _ _ rfl⟩
  · refine WP_aload_n dX7_name_8 rfl ?_
    refine WQ_getim dX7_name_9 fX7_65 rfl (lyx_is hy 6 7 rfl) ew431 ?_
    refine WP_goto 21 dX7_name_12 rfl ?_
    refine WP_lload_n dX7_name_21 rfl ?_
    refine WE_ls dX7_name_22 (lyx_is hy 20 14 rfl) (lyx_n hy 20 7 rfl) (by omega) (by omega) (fun J438 eJ438 => ?_)
    have fJ439 : FC g [20] J J438 := by rw [eJ438]; exact FC_pp fJ0 (by decide)
    exact WP_vret dX7_name_23 rfl ⟨rfl, fI0, fJ439, rfl, by
      try simp only [ew431, ew432]
      refine ⟨fun _ => ?_, fun h => absurd h (by omega)⟩
      rw [eJ438, show w431.toInt.toNat = (S.1 0 1).toNat by omega]
      exact RTX_nm hR _ _ _ rfl⟩
set_option maxHeartbeats 4000000 in
set_option maxRecDepth 100000 in
theorem ex_isTolda {g : GG} {I : pI} {J : pJ} {R : pR} (hy : LyX g) (hr : RfX g R) {S : TwS} {ro d : Nat} (cl : Int32) (of : Int32) (da : Int32) (hR : RTX g 6 S I J) (hr1 : cl.toInt * 4 + of.toInt = (ro : Int)) (hr2 : ro < 48) (hc1 : -100 ≤ cl.toInt) (hc2 : cl.toInt ≤ 100) (hd : da.toInt = (d : Int)) (hd7 : d < 7) : SP g mX7_isTold [.ref (ad g 6), .int cl, .int of, .int da] I J R (fun r I' J' R' => (I' = I ∧ J' = J ∧ R' = R) ∧ ∃ v : Int32, r = some (.int v) ∧ ((v.toInt = 1 ∧ S.2 ro d = true) ∨ (v.toInt = 0 ∧ S.2 ro d = false))) := by
  refine SP_of ⟨by decide, rfl⟩ (Nat.le_of_ble_eq_true rfl) ?_
  refine WP_aload_n dX7_isTold_0 rfl ?_
  refine WP_getr dX7_isTold_1 fX7_55 rfl (lyx_is hy 6 7 rfl) (rfx hr 6 19 21 (by decide)) ?_
  refine WP_iload_n dX7_isTold_4 rfl ?_
  refine WQ_iconst (4) (4) dX7_isTold_5 rfl rfl (fun v440 hv440 => ?_)
  refine WQ_imulk (4) dX7_isTold_6 hv440 (by omega) (by omega) (fun v441 hv441 => ?_)
  refine WP_iload_n dX7_isTold_7 rfl ?_
  refine WQ_iadd dX7_isTold_8 (by omega) (by omega) (fun v442 hv442 => ?_)
  refine WE_ia dX7_isTold_9 (lyx_is hy 21 13 rfl) (lyx_n hy 21 48 rfl) (by omega) (by omega) (fun v443 ev443 => ?_)
  refine WP_iload_n dX7_isTold_10 rfl ?_
  refine WP_ishr dX7_isTold_11 ?_
  obtain ⟨v444, xv444⟩ : ∃ v : Int32, v = v443 >>> (da &&& 31) := ⟨_, rfl⟩
  rw [← xv444]
  refine WQ_iconst (1) (1) dX7_isTold_12 rfl rfl (fun v445 hv445 => ?_)
  refine WP_iand dX7_isTold_13 ?_
  obtain ⟨v446, xv446⟩ : ∃ v : Int32, v = v444 &&& v445 := ⟨_, rfl⟩
  rw [← xv446]
  have hq := tb_get hd7 hd xv444 hv445 xv446
  have hq2 : tb (I (ad g 21) ro) d = S.2 ro d := hR.2.2 ro hr2 d hd7
  have hq3 : I (ad g 21) ro = v443 := by rw [← show v442.toInt.toNat = ro by omega]; exact ev443
  rw [hq3] at hq2
  rw [hq2] at hq
  refine WQ_if_eq 21 dX7_isTold_14 rfl (fun c446 => ?_) (fun c446 => ?_)
  · refine WQ_iconst (0) (0) dX7_isTold_21 rfl rfl (fun v448 hv448 => ?_)
    exact WP_zret dX7_isTold_22 rfl (nar_z (by omega)) ⟨⟨rfl, rfl, rfl⟩, v448, rfl, by
      first
      | exact Or.inl ⟨by omega, hq.elim (fun z => z.1) (fun z => absurd z.2 (by omega))⟩
      | exact Or.inr ⟨by omega, hq.elim (fun z => absurd z.2 (by omega)) (fun z => z.1)⟩⟩
  · refine WQ_iconst (1) (1) dX7_isTold_17 rfl rfl (fun v449 hv449 => ?_)
    refine WP_goto 22 dX7_isTold_18 rfl ?_
    exact WP_zret dX7_isTold_22 rfl (nar_z (by omega)) ⟨⟨rfl, rfl, rfl⟩, v449, rfl, by
      first
      | exact Or.inl ⟨by omega, hq.elim (fun z => z.1) (fun z => absurd z.2 (by omega))⟩
      | exact Or.inr ⟨by omega, hq.elim (fun z => absurd z.2 (by omega)) (fun z => z.1)⟩⟩
set_option maxHeartbeats 4000000 in
set_option maxRecDepth 100000 in
theorem ex_holda {g : GG} {I : pI} {J : pJ} {R : pR} (hy : LyX g) (hr : RfX g R) {S : TwS} {ro d : Nat} (cl : Int32) (of : Int32) (da : Int32) (hR : RTX g 6 S I J) (hr1 : cl.toInt * 4 + of.toInt = (ro : Int)) (hr2 : ro < 48) (hc1 : -100 ≤ cl.toInt) (hc2 : cl.toInt ≤ 100) (hd : da.toInt = (d : Int)) (hd7 : d < 7) : SP g mX7_hold [.ref (ad g 6), .int cl, .int of, .int da] I J R (fun r I' J' R' => R' = R ∧ FC g [21] I I' ∧ FC g [] J J' ∧ r = none ∧ (RTX g 6 (S.1, pp S.2 ro d true) I' J')) := by
  refine SP_of ⟨by decide, rfl⟩ (Nat.le_of_ble_eq_true rfl) ?_
  have fI0 : FC g [21] I I := FC_rf
  have fJ0 : FC g [] J J := FC_rf
  refine WP_aload_n dX7_hold_0 rfl ?_
  refine WP_getr dX7_hold_1 fX7_55 rfl (lyx_is hy 6 7 rfl) (rfx hr 6 19 21 (by decide)) ?_
  refine WP_iload_n dX7_hold_4 rfl ?_
  refine WQ_iconst (4) (4) dX7_hold_5 rfl rfl (fun v450 hv450 => ?_)
  refine WQ_imulk (4) dX7_hold_6 hv450 (by omega) (by omega) (fun v451 hv451 => ?_)
  refine WP_iload_n dX7_hold_7 rfl ?_
  refine WQ_iadd dX7_hold_8 (by omega) (by omega) (fun v452 hv452 => ?_)
  refine WP_dup2 dX7_hold_9 rfl rfl ?_
  refine WE_ia dX7_hold_10 (lyx_is hy 21 13 rfl) (lyx_n hy 21 48 rfl) (by omega) (by omega) (fun v453 ev453 => ?_)
  refine WQ_iconst (1) (1) dX7_hold_11 rfl rfl (fun v454 hv454 => ?_)
  refine WP_iload_n dX7_hold_12 rfl ?_
  refine WP_ishl dX7_hold_13 ?_
  obtain ⟨v455, xv455⟩ : ∃ v : Int32, v = v454 <<< (da &&& 31) := ⟨_, rfl⟩
  rw [← xv455]
  refine WP_ior dX7_hold_14 ?_
  obtain ⟨v456, xv456⟩ : ∃ v : Int32, v = v453 ||| v455 := ⟨_, rfl⟩
  rw [← xv456]
  refine WE_is dX7_hold_15 (lyx_is hy 21 13 rfl) (lyx_n hy 21 48 rfl) (by omega) (by omega) (fun I457 eI457 => ?_)
  have fI458 : FC g [21] I I457 := by rw [eI457]; exact FC_pp fI0 (by decide)
  exact WP_vret dX7_hold_16 rfl ⟨rfl, fI458, fJ0, rfl, by
    rw [eI457, show v452.toInt.toNat = ro by omega]
    refine RTX_hold hy (by decide) hR ro d _ (fun e he => ?_) hr2
    have hq3 : I (ad g 21) ro = v453 := by rw [← show v452.toInt.toNat = ro by omega]; exact ev453
    show tb _ e = (tb (I (ad g 21) ro) e || _)
    rw [hq3]
    exact tb_set hd7 he hd hv454 xv455 xv456⟩
set_option maxHeartbeats 4000000 in
set_option maxRecDepth 100000 in
theorem ex_faultAheada {g : GG} {I : pI} {J : pJ} {R : pR} (hy : LyX g) (hr : RfX g R) {S : TwS} {c : Nat} (cl : Int32) (hR : RTX g 6 S I J) (hc : cl.toInt = (c : Int)) (hc9 : c < 10) : SP g mX7_faultAhead [.ref (ad g 6), .int cl] I J R (fun r I' J' R' => (I' = I ∧ J' = J ∧ R' = R) ∧ ∃ v : Int32, r = some (.int v) ∧ (v.toInt = (ahd c S : Nat))) := by
  refine SP_of ⟨by decide, rfl⟩ (Nat.le_of_ble_eq_true rfl) ?_
  have hs1 : (I (ad g 6) 1).toInt = S.1 0 1 := hR.1 0 1 (by decide) (by decide)
  have hs2 : (I (ad g 6) 2).toInt = S.1 0 2 := hR.1 0 2 (by decide) (by decide)
  obtain ⟨w459, ew459⟩ : ∃ w : Int32, I (ad g 6) 1 = w := ⟨_, rfl⟩
  obtain ⟨w460, ew460⟩ : ∃ w : Int32, I (ad g 6) 2 = w := ⟨_, rfl⟩
  try simp only [ew459, ew460] at hs1 hs2
  refine WP_iload_n dX7_faultAhead_0 rfl ?_
  refine WQ_iconst (1) (1) dX7_faultAhead_1 rfl rfl (fun v461 hv461 => ?_)
  refine WQ_icmp_ne 13 dX7_faultAhead_2 rfl (fun c461 => ?_) (fun c461 => ?_)
  · refine WP_iload_n dX7_faultAhead_13 rfl ?_
    refine WQ_iconst (2) (2) dX7_faultAhead_14 rfl rfl (fun v463 hv463 => ?_)
    refine WQ_icmp_ne 28 dX7_faultAhead_15 rfl (fun c463 => ?_) (fun c463 => ?_)
    · refine WP_iload_n dX7_faultAhead_28 rfl ?_
      refine WQ_bipush (8) (8) dX7_faultAhead_29 rfl rfl (fun v465 hv465 => ?_)
      refine WQ_icmp_eq 40 dX7_faultAhead_31 rfl (fun c465 => ?_) (fun c465 => ?_)
      · refine WP_aload_n dX7_faultAhead_40 rfl ?_
        refine WP_iload_n dX7_faultAhead_41 rfl ?_
        refine WQ_iconst (0) (0) dX7_faultAhead_42 rfl rfl (fun v467 hv467 => ?_)
        refine WQ_iconst (0) (0) dX7_faultAhead_43 rfl rfl (fun v468 hv468 => ?_)
        refine WP_callV3 (k := 7) dX7_faultAhead_44 ⟨⟨⟨by decide, by decide⟩, zX7_isTold⟩, lX7_87, by decide, rfl, vX7_isTold.1, vX7_isTold.2⟩ (lyx_is hy 6 7 rfl) (ex_isTolda hy hr _ _ _  (ro := c * 4) (d := 0) hR (by omega) (by omega) (by omega) (by omega) (by omega) (by decide)) (Nat.le_of_ble_eq_true rfl) ?_
        intro r Ia Ja Ra hq
        obtain ⟨⟨ea, eb, ec⟩, v470, er, p469⟩ := hq
        rw [ea, eb, ec, er]
        clear ea eb ec er Ia Ja Ra r
        refine WQ_if_eq 54 dX7_faultAhead_47 rfl (fun c470 => ?_) (fun c470 => ?_)
        · refine WQ_iconst (0) (0) dX7_faultAhead_54 rfl rfl (fun v472 hv472 => ?_)
          exact WP_iret dX7_faultAhead_55 rfl ⟨⟨rfl, rfl, rfl⟩, v472, rfl, by
            try simp only [ew459, ew460]
            unfold ahd
            rw [if_neg (by omega)]
            rcases p469 with ⟨h1, h2⟩ | ⟨h1, h2⟩
            · first
              | (rw [if_pos ⟨by omega, h2⟩]; omega)
              | exact absurd h1 (by omega)
            · first
              | (rw [if_neg (by rintro ⟨-, h3⟩; rw [h2] at h3; exact absurd h3 (by decide))]; omega)
              | exact absurd h1 (by omega)⟩
        · refine WQ_iconst (3) (3) dX7_faultAhead_50 rfl rfl (fun v473 hv473 => ?_)
          refine WP_goto 55 dX7_faultAhead_51 rfl ?_
          exact WP_iret dX7_faultAhead_55 rfl ⟨⟨rfl, rfl, rfl⟩, v473, rfl, by
            try simp only [ew459, ew460]
            unfold ahd
            rw [if_neg (by omega)]
            rcases p469 with ⟨h1, h2⟩ | ⟨h1, h2⟩
            · first
              | (rw [if_pos ⟨by omega, h2⟩]; omega)
              | exact absurd h1 (by omega)
            · first
              | (rw [if_neg (by rintro ⟨-, h3⟩; rw [h2] at h3; exact absurd h3 (by decide))]; omega)
              | exact absurd h1 (by omega)⟩
      · refine WP_iload_n dX7_faultAhead_34 rfl ?_
        refine WQ_bipush (9) (9) dX7_faultAhead_35 rfl rfl (fun v474 hv474 => ?_)
        refine WQ_icmp_ne 54 dX7_faultAhead_37 rfl (fun c474 => ?_) (fun c474 => ?_)
        · refine WQ_iconst (0) (0) dX7_faultAhead_54 rfl rfl (fun v476 hv476 => ?_)
          exact WP_iret dX7_faultAhead_55 rfl ⟨⟨rfl, rfl, rfl⟩, v476, rfl, by
            try simp only [ew459, ew460]
            unfold ahd
            rw [if_neg (by omega)]
            rw [if_neg (by rintro ⟨h3, -⟩; omega)]; omega⟩
        · refine WP_aload_n dX7_faultAhead_40 rfl ?_
          refine WP_iload_n dX7_faultAhead_41 rfl ?_
          refine WQ_iconst (0) (0) dX7_faultAhead_42 rfl rfl (fun v477 hv477 => ?_)
          refine WQ_iconst (0) (0) dX7_faultAhead_43 rfl rfl (fun v478 hv478 => ?_)
          refine WP_callV3 (k := 7) dX7_faultAhead_44 ⟨⟨⟨by decide, by decide⟩, zX7_isTold⟩, lX7_87, by decide, rfl, vX7_isTold.1, vX7_isTold.2⟩ (lyx_is hy 6 7 rfl) (ex_isTolda hy hr _ _ _  (ro := c * 4) (d := 0) hR (by omega) (by omega) (by omega) (by omega) (by omega) (by decide)) (Nat.le_of_ble_eq_true rfl) ?_
          intro r Ia Ja Ra hq
          obtain ⟨⟨ea, eb, ec⟩, v480, er, p479⟩ := hq
          rw [ea, eb, ec, er]
          clear ea eb ec er Ia Ja Ra r
          refine WQ_if_eq 54 dX7_faultAhead_47 rfl (fun c480 => ?_) (fun c480 => ?_)
          · refine WQ_iconst (0) (0) dX7_faultAhead_54 rfl rfl (fun v482 hv482 => ?_)
            exact WP_iret dX7_faultAhead_55 rfl ⟨⟨rfl, rfl, rfl⟩, v482, rfl, by
              try simp only [ew459, ew460]
              unfold ahd
              rw [if_neg (by omega)]
              rcases p479 with ⟨h1, h2⟩ | ⟨h1, h2⟩
              · first
                | (rw [if_pos ⟨by omega, h2⟩]; omega)
                | exact absurd h1 (by omega)
              · first
                | (rw [if_neg (by rintro ⟨-, h3⟩; rw [h2] at h3; exact absurd h3 (by decide))]; omega)
                | exact absurd h1 (by omega)⟩
          · refine WQ_iconst (3) (3) dX7_faultAhead_50 rfl rfl (fun v483 hv483 => ?_)
            refine WP_goto 55 dX7_faultAhead_51 rfl ?_
            exact WP_iret dX7_faultAhead_55 rfl ⟨⟨rfl, rfl, rfl⟩, v483, rfl, by
              try simp only [ew459, ew460]
              unfold ahd
              rw [if_neg (by omega)]
              rcases p479 with ⟨h1, h2⟩ | ⟨h1, h2⟩
              · first
                | (rw [if_pos ⟨by omega, h2⟩]; omega)
                | exact absurd h1 (by omega)
              · first
                | (rw [if_neg (by rintro ⟨-, h3⟩; rw [h2] at h3; exact absurd h3 (by decide))]; omega)
                | exact absurd h1 (by omega)⟩
    · refine WP_aload_n dX7_faultAhead_18 rfl ?_
      refine WQ_getim dX7_faultAhead_19 fX7_68 rfl (lyx_is hy 6 7 rfl) ew460 ?_
      refine WQ_iconst (3) (3) dX7_faultAhead_22 rfl rfl (fun v484 hv484 => ?_)
      refine WQ_icmp_ne 28 dX7_faultAhead_23 rfl (fun c484 => ?_) (fun c484 => ?_)
      · refine WP_iload_n dX7_faultAhead_28 rfl ?_
        refine WQ_bipush (8) (8) dX7_faultAhead_29 rfl rfl (fun v486 hv486 => ?_)
        refine WQ_icmp_eq 40 dX7_faultAhead_31 rfl (fun c486 => ?_) (fun c486 => ?_)
        · refine WP_aload_n dX7_faultAhead_40 rfl ?_
          refine WP_iload_n dX7_faultAhead_41 rfl ?_
          refine WQ_iconst (0) (0) dX7_faultAhead_42 rfl rfl (fun v488 hv488 => ?_)
          refine WQ_iconst (0) (0) dX7_faultAhead_43 rfl rfl (fun v489 hv489 => ?_)
          refine WP_callV3 (k := 7) dX7_faultAhead_44 ⟨⟨⟨by decide, by decide⟩, zX7_isTold⟩, lX7_87, by decide, rfl, vX7_isTold.1, vX7_isTold.2⟩ (lyx_is hy 6 7 rfl) (ex_isTolda hy hr _ _ _  (ro := c * 4) (d := 0) hR (by omega) (by omega) (by omega) (by omega) (by omega) (by decide)) (Nat.le_of_ble_eq_true rfl) ?_
          intro r Ia Ja Ra hq
          obtain ⟨⟨ea, eb, ec⟩, v491, er, p490⟩ := hq
          rw [ea, eb, ec, er]
          clear ea eb ec er Ia Ja Ra r
          refine WQ_if_eq 54 dX7_faultAhead_47 rfl (fun c491 => ?_) (fun c491 => ?_)
          · refine WQ_iconst (0) (0) dX7_faultAhead_54 rfl rfl (fun v493 hv493 => ?_)
            exact WP_iret dX7_faultAhead_55 rfl ⟨⟨rfl, rfl, rfl⟩, v493, rfl, by
              try simp only [ew459, ew460]
              unfold ahd
              rw [if_neg (by omega)]
              rcases p490 with ⟨h1, h2⟩ | ⟨h1, h2⟩
              · first
                | (rw [if_pos ⟨by omega, h2⟩]; omega)
                | exact absurd h1 (by omega)
              · first
                | (rw [if_neg (by rintro ⟨-, h3⟩; rw [h2] at h3; exact absurd h3 (by decide))]; omega)
                | exact absurd h1 (by omega)⟩
          · refine WQ_iconst (3) (3) dX7_faultAhead_50 rfl rfl (fun v494 hv494 => ?_)
            refine WP_goto 55 dX7_faultAhead_51 rfl ?_
            exact WP_iret dX7_faultAhead_55 rfl ⟨⟨rfl, rfl, rfl⟩, v494, rfl, by
              try simp only [ew459, ew460]
              unfold ahd
              rw [if_neg (by omega)]
              rcases p490 with ⟨h1, h2⟩ | ⟨h1, h2⟩
              · first
                | (rw [if_pos ⟨by omega, h2⟩]; omega)
                | exact absurd h1 (by omega)
              · first
                | (rw [if_neg (by rintro ⟨-, h3⟩; rw [h2] at h3; exact absurd h3 (by decide))]; omega)
                | exact absurd h1 (by omega)⟩
        · refine WP_iload_n dX7_faultAhead_34 rfl ?_
          refine WQ_bipush (9) (9) dX7_faultAhead_35 rfl rfl (fun v495 hv495 => ?_)
          refine WQ_icmp_ne 54 dX7_faultAhead_37 rfl (fun c495 => ?_) (fun c495 => ?_)
          · refine WQ_iconst (0) (0) dX7_faultAhead_54 rfl rfl (fun v497 hv497 => ?_)
            exact WP_iret dX7_faultAhead_55 rfl ⟨⟨rfl, rfl, rfl⟩, v497, rfl, by
              try simp only [ew459, ew460]
              unfold ahd
              rw [if_neg (by omega)]
              rw [if_neg (by rintro ⟨h3, -⟩; omega)]; omega⟩
          · refine WP_aload_n dX7_faultAhead_40 rfl ?_
            refine WP_iload_n dX7_faultAhead_41 rfl ?_
            refine WQ_iconst (0) (0) dX7_faultAhead_42 rfl rfl (fun v498 hv498 => ?_)
            refine WQ_iconst (0) (0) dX7_faultAhead_43 rfl rfl (fun v499 hv499 => ?_)
            refine WP_callV3 (k := 7) dX7_faultAhead_44 ⟨⟨⟨by decide, by decide⟩, zX7_isTold⟩, lX7_87, by decide, rfl, vX7_isTold.1, vX7_isTold.2⟩ (lyx_is hy 6 7 rfl) (ex_isTolda hy hr _ _ _  (ro := c * 4) (d := 0) hR (by omega) (by omega) (by omega) (by omega) (by omega) (by decide)) (Nat.le_of_ble_eq_true rfl) ?_
            intro r Ia Ja Ra hq
            obtain ⟨⟨ea, eb, ec⟩, v501, er, p500⟩ := hq
            rw [ea, eb, ec, er]
            clear ea eb ec er Ia Ja Ra r
            refine WQ_if_eq 54 dX7_faultAhead_47 rfl (fun c501 => ?_) (fun c501 => ?_)
            · refine WQ_iconst (0) (0) dX7_faultAhead_54 rfl rfl (fun v503 hv503 => ?_)
              exact WP_iret dX7_faultAhead_55 rfl ⟨⟨rfl, rfl, rfl⟩, v503, rfl, by
                try simp only [ew459, ew460]
                unfold ahd
                rw [if_neg (by omega)]
                rcases p500 with ⟨h1, h2⟩ | ⟨h1, h2⟩
                · first
                  | (rw [if_pos ⟨by omega, h2⟩]; omega)
                  | exact absurd h1 (by omega)
                · first
                  | (rw [if_neg (by rintro ⟨-, h3⟩; rw [h2] at h3; exact absurd h3 (by decide))]; omega)
                  | exact absurd h1 (by omega)⟩
            · refine WQ_iconst (3) (3) dX7_faultAhead_50 rfl rfl (fun v504 hv504 => ?_)
              refine WP_goto 55 dX7_faultAhead_51 rfl ?_
              exact WP_iret dX7_faultAhead_55 rfl ⟨⟨rfl, rfl, rfl⟩, v504, rfl, by
                try simp only [ew459, ew460]
                unfold ahd
                rw [if_neg (by omega)]
                rcases p500 with ⟨h1, h2⟩ | ⟨h1, h2⟩
                · first
                  | (rw [if_pos ⟨by omega, h2⟩]; omega)
                  | exact absurd h1 (by omega)
                · first
                  | (rw [if_neg (by rintro ⟨-, h3⟩; rw [h2] at h3; exact absurd h3 (by decide))]; omega)
                  | exact absurd h1 (by omega)⟩
      · refine WQ_iconst (4) (4) dX7_faultAhead_26 rfl rfl (fun v505 hv505 => ?_)
        exact WP_iret dX7_faultAhead_27 rfl ⟨⟨rfl, rfl, rfl⟩, v505, rfl, by
          try simp only [ew459, ew460]
          unfold ahd
          rw [if_pos (by omega)]; omega⟩
  · refine WP_aload_n dX7_faultAhead_5 rfl ?_
    refine WQ_getim dX7_faultAhead_6 fX7_65 rfl (lyx_is hy 6 7 rfl) ew459 ?_
    refine WQ_iconst (4) (4) dX7_faultAhead_9 rfl rfl (fun v506 hv506 => ?_)
    refine WQ_icmp_eq 26 dX7_faultAhead_10 rfl (fun c506 => ?_) (fun c506 => ?_)
    · refine WQ_iconst (4) (4) dX7_faultAhead_26 rfl rfl (fun v508 hv508 => ?_)
      exact WP_iret dX7_faultAhead_27 rfl ⟨⟨rfl, rfl, rfl⟩, v508, rfl, by
        try simp only [ew459, ew460]
        unfold ahd
        rw [if_pos (by omega)]; omega⟩
    · refine WP_iload_n dX7_faultAhead_13 rfl ?_
      refine WQ_iconst (2) (2) dX7_faultAhead_14 rfl rfl (fun v509 hv509 => ?_)
      refine WQ_icmp_ne 28 dX7_faultAhead_15 rfl (fun c509 => ?_) (fun c509 => ?_)
      · refine WP_iload_n dX7_faultAhead_28 rfl ?_
        refine WQ_bipush (8) (8) dX7_faultAhead_29 rfl rfl (fun v511 hv511 => ?_)
        refine WQ_icmp_eq 40 dX7_faultAhead_31 rfl (fun c511 => ?_) (fun c511 => ?_)
        · refine WP_aload_n dX7_faultAhead_40 rfl ?_
          refine WP_iload_n dX7_faultAhead_41 rfl ?_
          refine WQ_iconst (0) (0) dX7_faultAhead_42 rfl rfl (fun v513 hv513 => ?_)
          refine WQ_iconst (0) (0) dX7_faultAhead_43 rfl rfl (fun v514 hv514 => ?_)
          refine WP_callV3 (k := 7) dX7_faultAhead_44 ⟨⟨⟨by decide, by decide⟩, zX7_isTold⟩, lX7_87, by decide, rfl, vX7_isTold.1, vX7_isTold.2⟩ (lyx_is hy 6 7 rfl) (ex_isTolda hy hr _ _ _  (ro := c * 4) (d := 0) hR (by omega) (by omega) (by omega) (by omega) (by omega) (by decide)) (Nat.le_of_ble_eq_true rfl) ?_
          intro r Ia Ja Ra hq
          obtain ⟨⟨ea, eb, ec⟩, v516, er, p515⟩ := hq
          rw [ea, eb, ec, er]
          clear ea eb ec er Ia Ja Ra r
          refine WQ_if_eq 54 dX7_faultAhead_47 rfl (fun c516 => ?_) (fun c516 => ?_)
          · refine WQ_iconst (0) (0) dX7_faultAhead_54 rfl rfl (fun v518 hv518 => ?_)
            exact WP_iret dX7_faultAhead_55 rfl ⟨⟨rfl, rfl, rfl⟩, v518, rfl, by
              try simp only [ew459, ew460]
              unfold ahd
              rw [if_neg (by omega)]
              rcases p515 with ⟨h1, h2⟩ | ⟨h1, h2⟩
              · first
                | (rw [if_pos ⟨by omega, h2⟩]; omega)
                | exact absurd h1 (by omega)
              · first
                | (rw [if_neg (by rintro ⟨-, h3⟩; rw [h2] at h3; exact absurd h3 (by decide))]; omega)
                | exact absurd h1 (by omega)⟩
          · refine WQ_iconst (3) (3) dX7_faultAhead_50 rfl rfl (fun v519 hv519 => ?_)
            refine WP_goto 55 dX7_faultAhead_51 rfl ?_
            exact WP_iret dX7_faultAhead_55 rfl ⟨⟨rfl, rfl, rfl⟩, v519, rfl, by
              try simp only [ew459, ew460]
              unfold ahd
              rw [if_neg (by omega)]
              rcases p515 with ⟨h1, h2⟩ | ⟨h1, h2⟩
              · first
                | (rw [if_pos ⟨by omega, h2⟩]; omega)
                | exact absurd h1 (by omega)
              · first
                | (rw [if_neg (by rintro ⟨-, h3⟩; rw [h2] at h3; exact absurd h3 (by decide))]; omega)
                | exact absurd h1 (by omega)⟩
        · refine WP_iload_n dX7_faultAhead_34 rfl ?_
          refine WQ_bipush (9) (9) dX7_faultAhead_35 rfl rfl (fun v520 hv520 => ?_)
          refine WQ_icmp_ne 54 dX7_faultAhead_37 rfl (fun c520 => ?_) (fun c520 => ?_)
          · refine WQ_iconst (0) (0) dX7_faultAhead_54 rfl rfl (fun v522 hv522 => ?_)
            exact WP_iret dX7_faultAhead_55 rfl ⟨⟨rfl, rfl, rfl⟩, v522, rfl, by
              try simp only [ew459, ew460]
              unfold ahd
              rw [if_neg (by omega)]
              rw [if_neg (by rintro ⟨h3, -⟩; omega)]; omega⟩
          · refine WP_aload_n dX7_faultAhead_40 rfl ?_
            refine WP_iload_n dX7_faultAhead_41 rfl ?_
            refine WQ_iconst (0) (0) dX7_faultAhead_42 rfl rfl (fun v523 hv523 => ?_)
            refine WQ_iconst (0) (0) dX7_faultAhead_43 rfl rfl (fun v524 hv524 => ?_)
            refine WP_callV3 (k := 7) dX7_faultAhead_44 ⟨⟨⟨by decide, by decide⟩, zX7_isTold⟩, lX7_87, by decide, rfl, vX7_isTold.1, vX7_isTold.2⟩ (lyx_is hy 6 7 rfl) (ex_isTolda hy hr _ _ _  (ro := c * 4) (d := 0) hR (by omega) (by omega) (by omega) (by omega) (by omega) (by decide)) (Nat.le_of_ble_eq_true rfl) ?_
            intro r Ia Ja Ra hq
            obtain ⟨⟨ea, eb, ec⟩, v526, er, p525⟩ := hq
            rw [ea, eb, ec, er]
            clear ea eb ec er Ia Ja Ra r
            refine WQ_if_eq 54 dX7_faultAhead_47 rfl (fun c526 => ?_) (fun c526 => ?_)
            · refine WQ_iconst (0) (0) dX7_faultAhead_54 rfl rfl (fun v528 hv528 => ?_)
              exact WP_iret dX7_faultAhead_55 rfl ⟨⟨rfl, rfl, rfl⟩, v528, rfl, by
                try simp only [ew459, ew460]
                unfold ahd
                rw [if_neg (by omega)]
                rcases p525 with ⟨h1, h2⟩ | ⟨h1, h2⟩
                · first
                  | (rw [if_pos ⟨by omega, h2⟩]; omega)
                  | exact absurd h1 (by omega)
                · first
                  | (rw [if_neg (by rintro ⟨-, h3⟩; rw [h2] at h3; exact absurd h3 (by decide))]; omega)
                  | exact absurd h1 (by omega)⟩
            · refine WQ_iconst (3) (3) dX7_faultAhead_50 rfl rfl (fun v529 hv529 => ?_)
              refine WP_goto 55 dX7_faultAhead_51 rfl ?_
              exact WP_iret dX7_faultAhead_55 rfl ⟨⟨rfl, rfl, rfl⟩, v529, rfl, by
                try simp only [ew459, ew460]
                unfold ahd
                rw [if_neg (by omega)]
                rcases p525 with ⟨h1, h2⟩ | ⟨h1, h2⟩
                · first
                  | (rw [if_pos ⟨by omega, h2⟩]; omega)
                  | exact absurd h1 (by omega)
                · first
                  | (rw [if_neg (by rintro ⟨-, h3⟩; rw [h2] at h3; exact absurd h3 (by decide))]; omega)
                  | exact absurd h1 (by omega)⟩
      · refine WP_aload_n dX7_faultAhead_18 rfl ?_
        refine WQ_getim dX7_faultAhead_19 fX7_68 rfl (lyx_is hy 6 7 rfl) ew460 ?_
        refine WQ_iconst (3) (3) dX7_faultAhead_22 rfl rfl (fun v530 hv530 => ?_)
        refine WQ_icmp_ne 28 dX7_faultAhead_23 rfl (fun c530 => ?_) (fun c530 => ?_)
        · refine WP_iload_n dX7_faultAhead_28 rfl ?_
          refine WQ_bipush (8) (8) dX7_faultAhead_29 rfl rfl (fun v532 hv532 => ?_)
          refine WQ_icmp_eq 40 dX7_faultAhead_31 rfl (fun c532 => ?_) (fun c532 => ?_)
          · refine WP_aload_n dX7_faultAhead_40 rfl ?_
            refine WP_iload_n dX7_faultAhead_41 rfl ?_
            refine WQ_iconst (0) (0) dX7_faultAhead_42 rfl rfl (fun v534 hv534 => ?_)
            refine WQ_iconst (0) (0) dX7_faultAhead_43 rfl rfl (fun v535 hv535 => ?_)
            refine WP_callV3 (k := 7) dX7_faultAhead_44 ⟨⟨⟨by decide, by decide⟩, zX7_isTold⟩, lX7_87, by decide, rfl, vX7_isTold.1, vX7_isTold.2⟩ (lyx_is hy 6 7 rfl) (ex_isTolda hy hr _ _ _  (ro := c * 4) (d := 0) hR (by omega) (by omega) (by omega) (by omega) (by omega) (by decide)) (Nat.le_of_ble_eq_true rfl) ?_
            intro r Ia Ja Ra hq
            obtain ⟨⟨ea, eb, ec⟩, v537, er, p536⟩ := hq
            rw [ea, eb, ec, er]
            clear ea eb ec er Ia Ja Ra r
            refine WQ_if_eq 54 dX7_faultAhead_47 rfl (fun c537 => ?_) (fun c537 => ?_)
            · refine WQ_iconst (0) (0) dX7_faultAhead_54 rfl rfl (fun v539 hv539 => ?_)
              exact WP_iret dX7_faultAhead_55 rfl ⟨⟨rfl, rfl, rfl⟩, v539, rfl, by
                try simp only [ew459, ew460]
                unfold ahd
                rw [if_neg (by omega)]
                rcases p536 with ⟨h1, h2⟩ | ⟨h1, h2⟩
                · first
                  | (rw [if_pos ⟨by omega, h2⟩]; omega)
                  | exact absurd h1 (by omega)
                · first
                  | (rw [if_neg (by rintro ⟨-, h3⟩; rw [h2] at h3; exact absurd h3 (by decide))]; omega)
                  | exact absurd h1 (by omega)⟩
            · refine WQ_iconst (3) (3) dX7_faultAhead_50 rfl rfl (fun v540 hv540 => ?_)
              refine WP_goto 55 dX7_faultAhead_51 rfl ?_
              exact WP_iret dX7_faultAhead_55 rfl ⟨⟨rfl, rfl, rfl⟩, v540, rfl, by
                try simp only [ew459, ew460]
                unfold ahd
                rw [if_neg (by omega)]
                rcases p536 with ⟨h1, h2⟩ | ⟨h1, h2⟩
                · first
                  | (rw [if_pos ⟨by omega, h2⟩]; omega)
                  | exact absurd h1 (by omega)
                · first
                  | (rw [if_neg (by rintro ⟨-, h3⟩; rw [h2] at h3; exact absurd h3 (by decide))]; omega)
                  | exact absurd h1 (by omega)⟩
          · refine WP_iload_n dX7_faultAhead_34 rfl ?_
            refine WQ_bipush (9) (9) dX7_faultAhead_35 rfl rfl (fun v541 hv541 => ?_)
            refine WQ_icmp_ne 54 dX7_faultAhead_37 rfl (fun c541 => ?_) (fun c541 => ?_)
            · refine WQ_iconst (0) (0) dX7_faultAhead_54 rfl rfl (fun v543 hv543 => ?_)
              exact WP_iret dX7_faultAhead_55 rfl ⟨⟨rfl, rfl, rfl⟩, v543, rfl, by
                try simp only [ew459, ew460]
                unfold ahd
                rw [if_neg (by omega)]
                rw [if_neg (by rintro ⟨h3, -⟩; omega)]; omega⟩
            · refine WP_aload_n dX7_faultAhead_40 rfl ?_
              refine WP_iload_n dX7_faultAhead_41 rfl ?_
              refine WQ_iconst (0) (0) dX7_faultAhead_42 rfl rfl (fun v544 hv544 => ?_)
              refine WQ_iconst (0) (0) dX7_faultAhead_43 rfl rfl (fun v545 hv545 => ?_)
              refine WP_callV3 (k := 7) dX7_faultAhead_44 ⟨⟨⟨by decide, by decide⟩, zX7_isTold⟩, lX7_87, by decide, rfl, vX7_isTold.1, vX7_isTold.2⟩ (lyx_is hy 6 7 rfl) (ex_isTolda hy hr _ _ _  (ro := c * 4) (d := 0) hR (by omega) (by omega) (by omega) (by omega) (by omega) (by decide)) (Nat.le_of_ble_eq_true rfl) ?_
              intro r Ia Ja Ra hq
              obtain ⟨⟨ea, eb, ec⟩, v547, er, p546⟩ := hq
              rw [ea, eb, ec, er]
              clear ea eb ec er Ia Ja Ra r
              refine WQ_if_eq 54 dX7_faultAhead_47 rfl (fun c547 => ?_) (fun c547 => ?_)
              · refine WQ_iconst (0) (0) dX7_faultAhead_54 rfl rfl (fun v549 hv549 => ?_)
                exact WP_iret dX7_faultAhead_55 rfl ⟨⟨rfl, rfl, rfl⟩, v549, rfl, by
                  try simp only [ew459, ew460]
                  unfold ahd
                  rw [if_neg (by omega)]
                  rcases p546 with ⟨h1, h2⟩ | ⟨h1, h2⟩
                  · first
                    | (rw [if_pos ⟨by omega, h2⟩]; omega)
                    | exact absurd h1 (by omega)
                  · first
                    | (rw [if_neg (by rintro ⟨-, h3⟩; rw [h2] at h3; exact absurd h3 (by decide))]; omega)
                    | exact absurd h1 (by omega)⟩
              · refine WQ_iconst (3) (3) dX7_faultAhead_50 rfl rfl (fun v550 hv550 => ?_)
                refine WP_goto 55 dX7_faultAhead_51 rfl ?_
                exact WP_iret dX7_faultAhead_55 rfl ⟨⟨rfl, rfl, rfl⟩, v550, rfl, by
                  try simp only [ew459, ew460]
                  unfold ahd
                  rw [if_neg (by omega)]
                  rcases p546 with ⟨h1, h2⟩ | ⟨h1, h2⟩
                  · first
                    | (rw [if_pos ⟨by omega, h2⟩]; omega)
                    | exact absurd h1 (by omega)
                  · first
                    | (rw [if_neg (by rintro ⟨-, h3⟩; rw [h2] at h3; exact absurd h3 (by decide))]; omega)
                    | exact absurd h1 (by omega)⟩
        · refine WQ_iconst (4) (4) dX7_faultAhead_26 rfl rfl (fun v551 hv551 => ?_)
          exact WP_iret dX7_faultAhead_27 rfl ⟨⟨rfl, rfl, rfl⟩, v551, rfl, by
            try simp only [ew459, ew460]
            unfold ahd
            rw [if_pos (by omega)]; omega⟩
set_option maxHeartbeats 4000000 in
set_option maxRecDepth 100000 in
theorem ex_tellLossa {g : GG} {I : pI} {J : pJ} {R : pR} (hy : LyX g) (hr : RfX g R) {S : TwS} {d : Nat} (da : Int32) (lo : Int32) (hR : RTX g 6 S I J) (hd : da.toInt = (d : Int)) (hd7 : d < 7) : SP g mX7_tellLoss [.ref (ad g 6), .int da, .int lo] I J R (fun r I' J' R' => R' = R ∧ FC g [7, 21] I I' ∧ FC g [] J J' ∧ r = none ∧ (RTX g 6 (pp S.1 1 d lo.toInt, pp S.2 0 d true) I' J')) := by
  refine SP_of ⟨by decide, rfl⟩ (Nat.le_of_ble_eq_true rfl) ?_
  have fI0 : FC g [7, 21] I I := FC_rf
  have fJ0 : FC g [] J J := FC_rf
  refine WP_aload_n dX7_tellLoss_0 rfl ?_
  refine WP_getr dX7_tellLoss_1 fX7_9 rfl (lyx_is hy 6 7 rfl) (rfx hr 6 5 7 (by decide)) ?_
  refine WP_iload_n dX7_tellLoss_4 rfl ?_
  refine WP_iload_n dX7_tellLoss_5 rfl ?_
  refine WE_is dX7_tellLoss_6 (lyx_is hy 7 13 rfl) (lyx_n hy 7 7 rfl) (by omega) (by omega) (fun I552 eI552 => ?_)
  have fI553 : FC g [7, 21] I I552 := by rw [eI552]; exact FC_pp fI0 (by decide)
  have hR2 : RTX g 6 (pp S.1 1 d lo.toInt, S.2) I552 J := by
    rw [eI552, show da.toInt.toNat = d by omega]
    exact RTX_w hy (by decide) hR 1 d _ _ (by decide) (rfl)
  refine WP_aload_n dX7_tellLoss_7 rfl ?_
  refine WQ_iconst (0) (0) dX7_tellLoss_8 rfl rfl (fun v554 hv554 => ?_)
  refine WQ_iconst (0) (0) dX7_tellLoss_9 rfl rfl (fun v555 hv555 => ?_)
  refine WP_iload_n dX7_tellLoss_10 rfl ?_
  refine WP_callV3 (k := 7) dX7_tellLoss_11 ⟨⟨⟨by decide, by decide⟩, zX7_hold⟩, lX7_109, by decide, rfl, vX7_hold.1, vX7_hold.2⟩ (lyx_is hy 6 7 rfl) (ex_holda hy hr _ _ _  (ro := 0) (d := d) hR2 (by omega) (by decide) (by omega) (by omega) hd hd7) (Nat.le_of_ble_eq_true rfl) ?_
  intro r I557 J558 Ra hq
  obtain ⟨ec, g559, g560, er, p556⟩ := hq
  rw [ec, er]
  clear ec er Ra r
  have fI562 : FC g [7, 21] I I557 := FC_tr fI553 (FC_mono g559 (by decide))
  have fJ563 : FC g [] J J558 := FC_tr fJ0 (FC_mono g560 (by decide))
  exact WP_vret dX7_tellLoss_14 rfl ⟨rfl, fI562, fJ563, rfl, by
    exact p556⟩
set_option maxHeartbeats 4000000 in
set_option maxRecDepth 100000 in
theorem ex_tellOn3a {g : GG} {I : pI} {J : pJ} {R : pR} (hy : LyX g) (hr : RfX g R) {S : TwS} {P : Nat → Int} (cl : Int32) (hR : RTX g 6 S I J) (hcl : cl.toInt = 3) (hP : PRX g P 0 3 I) (h0 : 0 ≤ P 0 ∧ P 0 < 4) (h1 : 0 ≤ P 1 ∧ P 1 < 7) : SP g mX7_tellOn [.ref (ad g 6), .ref (ad g 12), .int cl, .ref (ad g 4)] I J R (fun r I' J' R' => R' = R ∧ FC g [12, 21] I I' ∧ FC g [] J J' ∧ r = none ∧ (RTX g 6 (pp S.1 6 ((P 0).toNat * 7 + (P 1).toNat) (P 2), pp S.2 (12 + (P 0).toNat) (P 1).toNat true) I' J')) := by
  refine SP_of ⟨by decide, rfl⟩ (Nat.le_of_ble_eq_true rfl) ?_
  have fI0 : FC g [12, 21] I I := FC_rf
  have fJ0 : FC g [] J J := FC_rf
  have q0 := hP 0 (by decide) (by decide)
  have q1 := hP 1 (by decide) (by decide)
  have q2 := hP 2 (by decide) (by decide)
  obtain ⟨w564, ew564⟩ : ∃ w : Int32, I (ad g 4) 0 = w := ⟨_, rfl⟩
  obtain ⟨w565, ew565⟩ : ∃ w : Int32, I (ad g 4) 1 = w := ⟨_, rfl⟩
  obtain ⟨w566, ew566⟩ : ∃ w : Int32, I (ad g 4) 2 = w := ⟨_, rfl⟩
  try simp only [ew564, ew565, ew566] at q0 q1 q2
  refine WP_aload_n dX7_tellOn_0 rfl ?_
  refine WP_aload_n dX7_tellOn_1 rfl ?_
  refine WQ_iconst (0) (0) dX7_tellOn_2 rfl rfl (fun v567 hv567 => ?_)
  refine WE_iak (z := 0) dX7_tellOn_3 (lyx_is hy 4 13 rfl) (lyx_n hy 4 5 rfl) hv567 (by decide) ew564 ?_
  refine WQ_bipush (7) (7) dX7_tellOn_4 rfl rfl (fun v569 hv569 => ?_)
  refine WQ_imulk (7) dX7_tellOn_6 hv569 (by omega) (by omega) (fun v570 hv570 => ?_)
  refine WP_aload_n dX7_tellOn_7 rfl ?_
  refine WQ_iconst (1) (1) dX7_tellOn_8 rfl rfl (fun v571 hv571 => ?_)
  refine WE_iak (z := 1) dX7_tellOn_9 (lyx_is hy 4 13 rfl) (lyx_n hy 4 5 rfl) hv571 (by decide) ew565 ?_
  refine WQ_iadd dX7_tellOn_10 (by omega) (by omega) (fun v573 hv573 => ?_)
  refine WP_aload_n dX7_tellOn_11 rfl ?_
  refine WQ_iconst (2) (2) dX7_tellOn_12 rfl rfl (fun v574 hv574 => ?_)
  refine WE_iak (z := 2) dX7_tellOn_13 (lyx_is hy 4 13 rfl) (lyx_n hy 4 5 rfl) hv574 (by decide) ew566 ?_
  refine WE_is dX7_tellOn_14 (lyx_is hy 12 13 rfl) (lyx_n hy 12 28 rfl) (by omega) (by omega) (fun I576 eI576 => ?_)
  have e577 : I576 (ad g 4) 0 = w564 := by rw [eI576, pp_ne _ _ (Or.inl (lyx_ne hy (by decide) (by decide) (by decide)))]; exact ew564
  have e578 : I576 (ad g 4) 1 = w565 := by rw [eI576, pp_ne _ _ (Or.inl (lyx_ne hy (by decide) (by decide) (by decide)))]; exact ew565
  have e579 : I576 (ad g 4) 2 = w566 := by rw [eI576, pp_ne _ _ (Or.inl (lyx_ne hy (by decide) (by decide) (by decide)))]; exact ew566
  have fI580 : FC g [12, 21] I I576 := by rw [eI576]; exact FC_pp fI0 (by decide)
  have hR2 : RTX g 6 (pp S.1 6 ((P 0).toNat * 7 + (P 1).toNat) (P 2), S.2) I576 J := by
    rw [eI576, show v573.toInt.toNat = ((P 0).toNat * 7 + (P 1).toNat) by omega]
    exact RTX_w hy (by decide) hR 6 ((P 0).toNat * 7 + (P 1).toNat) _ _ (by decide) (q2)
  refine WP_aload_n dX7_tellOn_15 rfl ?_
  refine WP_iload_n dX7_tellOn_16 rfl ?_
  refine WP_aload_n dX7_tellOn_17 rfl ?_
  refine WQ_iconst (0) (0) dX7_tellOn_18 rfl rfl (fun v581 hv581 => ?_)
  refine WE_iak (z := 0) dX7_tellOn_19 (lyx_is hy 4 13 rfl) (lyx_n hy 4 5 rfl) hv581 (by decide) e577 ?_
  refine WP_aload_n dX7_tellOn_20 rfl ?_
  refine WQ_iconst (1) (1) dX7_tellOn_21 rfl rfl (fun v583 hv583 => ?_)
  refine WE_iak (z := 1) dX7_tellOn_22 (lyx_is hy 4 13 rfl) (lyx_n hy 4 5 rfl) hv583 (by decide) e578 ?_
  refine WP_callV3 (k := 7) dX7_tellOn_23 ⟨⟨⟨by decide, by decide⟩, zX7_hold⟩, lX7_109, by decide, rfl, vX7_hold.1, vX7_hold.2⟩ (lyx_is hy 6 7 rfl) (ex_holda hy hr _ _ _  (ro := 12 + (P 0).toNat) (d := (P 1).toNat) hR2 (by omega) (by omega) (by omega) (by omega) (by omega) (by omega)) (Nat.le_of_ble_eq_true rfl) ?_
  intro r I586 J587 Ra hq
  obtain ⟨ec, g588, g589, er, p585⟩ := hq
  rw [ec, er]
  clear ec er Ra r
  have e591 : I586 (ad g 4) 0 = w564 := by rw [FCx_at hy g588 4 (by decide) (by decide)]; exact e577
  have e592 : I586 (ad g 4) 1 = w565 := by rw [FCx_at hy g588 4 (by decide) (by decide)]; exact e578
  have e593 : I586 (ad g 4) 2 = w566 := by rw [FCx_at hy g588 4 (by decide) (by decide)]; exact e579
  have fI594 : FC g [12, 21] I I586 := FC_tr fI580 (FC_mono g588 (by decide))
  have fJ595 : FC g [] J J587 := FC_tr fJ0 (FC_mono g589 (by decide))
  try simp only [e591, e592, e593, ew564, ew565, ew566] at p585
  exact WP_vret dX7_tellOn_26 rfl ⟨rfl, fI594, fJ595, rfl, by
    try simp only [e591, e592, e593, ew564, ew565, ew566]
    exact p585⟩
set_option maxHeartbeats 4000000 in
set_option maxRecDepth 100000 in
theorem ex_tellOn4a {g : GG} {I : pI} {J : pJ} {R : pR} (hy : LyX g) (hr : RfX g R) {S : TwS} {P : Nat → Int} (cl : Int32) (hR : RTX g 6 S I J) (hcl : cl.toInt = 4) (hP : PRX g P 0 3 I) (h0 : 0 ≤ P 0 ∧ P 0 < 3) (h1 : 0 ≤ P 1 ∧ P 1 < 7) : SP g mX7_tellOn [.ref (ad g 6), .ref (ad g 18), .int cl, .ref (ad g 4)] I J R (fun r I' J' R' => R' = R ∧ FC g [18, 21] I I' ∧ FC g [] J J' ∧ r = none ∧ (RTX g 6 (pp S.1 12 ((P 0).toNat * 7 + (P 1).toNat) (P 2), pp S.2 (16 + (P 0).toNat) (P 1).toNat true) I' J')) := by
  refine SP_of ⟨by decide, rfl⟩ (Nat.le_of_ble_eq_true rfl) ?_
  have fI0 : FC g [18, 21] I I := FC_rf
  have fJ0 : FC g [] J J := FC_rf
  have q0 := hP 0 (by decide) (by decide)
  have q1 := hP 1 (by decide) (by decide)
  have q2 := hP 2 (by decide) (by decide)
  obtain ⟨w596, ew596⟩ : ∃ w : Int32, I (ad g 4) 0 = w := ⟨_, rfl⟩
  obtain ⟨w597, ew597⟩ : ∃ w : Int32, I (ad g 4) 1 = w := ⟨_, rfl⟩
  obtain ⟨w598, ew598⟩ : ∃ w : Int32, I (ad g 4) 2 = w := ⟨_, rfl⟩
  try simp only [ew596, ew597, ew598] at q0 q1 q2
  refine WP_aload_n dX7_tellOn_0 rfl ?_
  refine WP_aload_n dX7_tellOn_1 rfl ?_
  refine WQ_iconst (0) (0) dX7_tellOn_2 rfl rfl (fun v599 hv599 => ?_)
  refine WE_iak (z := 0) dX7_tellOn_3 (lyx_is hy 4 13 rfl) (lyx_n hy 4 5 rfl) hv599 (by decide) ew596 ?_
  refine WQ_bipush (7) (7) dX7_tellOn_4 rfl rfl (fun v601 hv601 => ?_)
  refine WQ_imulk (7) dX7_tellOn_6 hv601 (by omega) (by omega) (fun v602 hv602 => ?_)
  refine WP_aload_n dX7_tellOn_7 rfl ?_
  refine WQ_iconst (1) (1) dX7_tellOn_8 rfl rfl (fun v603 hv603 => ?_)
  refine WE_iak (z := 1) dX7_tellOn_9 (lyx_is hy 4 13 rfl) (lyx_n hy 4 5 rfl) hv603 (by decide) ew597 ?_
  refine WQ_iadd dX7_tellOn_10 (by omega) (by omega) (fun v605 hv605 => ?_)
  refine WP_aload_n dX7_tellOn_11 rfl ?_
  refine WQ_iconst (2) (2) dX7_tellOn_12 rfl rfl (fun v606 hv606 => ?_)
  refine WE_iak (z := 2) dX7_tellOn_13 (lyx_is hy 4 13 rfl) (lyx_n hy 4 5 rfl) hv606 (by decide) ew598 ?_
  refine WE_is dX7_tellOn_14 (lyx_is hy 18 13 rfl) (lyx_n hy 18 21 rfl) (by omega) (by omega) (fun I608 eI608 => ?_)
  have e609 : I608 (ad g 4) 0 = w596 := by rw [eI608, pp_ne _ _ (Or.inl (lyx_ne hy (by decide) (by decide) (by decide)))]; exact ew596
  have e610 : I608 (ad g 4) 1 = w597 := by rw [eI608, pp_ne _ _ (Or.inl (lyx_ne hy (by decide) (by decide) (by decide)))]; exact ew597
  have e611 : I608 (ad g 4) 2 = w598 := by rw [eI608, pp_ne _ _ (Or.inl (lyx_ne hy (by decide) (by decide) (by decide)))]; exact ew598
  have fI612 : FC g [18, 21] I I608 := by rw [eI608]; exact FC_pp fI0 (by decide)
  have hR2 : RTX g 6 (pp S.1 12 ((P 0).toNat * 7 + (P 1).toNat) (P 2), S.2) I608 J := by
    rw [eI608, show v605.toInt.toNat = ((P 0).toNat * 7 + (P 1).toNat) by omega]
    exact RTX_w hy (by decide) hR 12 ((P 0).toNat * 7 + (P 1).toNat) _ _ (by decide) (q2)
  refine WP_aload_n dX7_tellOn_15 rfl ?_
  refine WP_iload_n dX7_tellOn_16 rfl ?_
  refine WP_aload_n dX7_tellOn_17 rfl ?_
  refine WQ_iconst (0) (0) dX7_tellOn_18 rfl rfl (fun v613 hv613 => ?_)
  refine WE_iak (z := 0) dX7_tellOn_19 (lyx_is hy 4 13 rfl) (lyx_n hy 4 5 rfl) hv613 (by decide) e609 ?_
  refine WP_aload_n dX7_tellOn_20 rfl ?_
  refine WQ_iconst (1) (1) dX7_tellOn_21 rfl rfl (fun v615 hv615 => ?_)
  refine WE_iak (z := 1) dX7_tellOn_22 (lyx_is hy 4 13 rfl) (lyx_n hy 4 5 rfl) hv615 (by decide) e610 ?_
  refine WP_callV3 (k := 7) dX7_tellOn_23 ⟨⟨⟨by decide, by decide⟩, zX7_hold⟩, lX7_109, by decide, rfl, vX7_hold.1, vX7_hold.2⟩ (lyx_is hy 6 7 rfl) (ex_holda hy hr _ _ _  (ro := 16 + (P 0).toNat) (d := (P 1).toNat) hR2 (by omega) (by omega) (by omega) (by omega) (by omega) (by omega)) (Nat.le_of_ble_eq_true rfl) ?_
  intro r I618 J619 Ra hq
  obtain ⟨ec, g620, g621, er, p617⟩ := hq
  rw [ec, er]
  clear ec er Ra r
  have e623 : I618 (ad g 4) 0 = w596 := by rw [FCx_at hy g620 4 (by decide) (by decide)]; exact e609
  have e624 : I618 (ad g 4) 1 = w597 := by rw [FCx_at hy g620 4 (by decide) (by decide)]; exact e610
  have e625 : I618 (ad g 4) 2 = w598 := by rw [FCx_at hy g620 4 (by decide) (by decide)]; exact e611
  have fI626 : FC g [18, 21] I I618 := FC_tr fI612 (FC_mono g620 (by decide))
  have fJ627 : FC g [] J J619 := FC_tr fJ0 (FC_mono g621 (by decide))
  try simp only [e623, e624, e625, ew596, ew597, ew598] at p617
  exact WP_vret dX7_tellOn_26 rfl ⟨rfl, fI626, fJ627, rfl, by
    try simp only [e623, e624, e625, ew596, ew597, ew598]
    exact p617⟩
set_option maxHeartbeats 4000000 in
set_option maxRecDepth 100000 in
theorem ex_tellOn5a {g : GG} {I : pI} {J : pJ} {R : pR} (hy : LyX g) (hr : RfX g R) {S : TwS} {P : Nat → Int} (cl : Int32) (hR : RTX g 6 S I J) (hcl : cl.toInt = 5) (hP : PRX g P 0 3 I) (h0 : 0 ≤ P 0 ∧ P 0 < 3) (h1 : 0 ≤ P 1 ∧ P 1 < 7) : SP g mX7_tellOn [.ref (ad g 6), .ref (ad g 19), .int cl, .ref (ad g 4)] I J R (fun r I' J' R' => R' = R ∧ FC g [19, 21] I I' ∧ FC g [] J J' ∧ r = none ∧ (RTX g 6 (pp S.1 13 ((P 0).toNat * 7 + (P 1).toNat) (P 2), pp S.2 (20 + (P 0).toNat) (P 1).toNat true) I' J')) := by
  refine SP_of ⟨by decide, rfl⟩ (Nat.le_of_ble_eq_true rfl) ?_
  have fI0 : FC g [19, 21] I I := FC_rf
  have fJ0 : FC g [] J J := FC_rf
  have q0 := hP 0 (by decide) (by decide)
  have q1 := hP 1 (by decide) (by decide)
  have q2 := hP 2 (by decide) (by decide)
  obtain ⟨w628, ew628⟩ : ∃ w : Int32, I (ad g 4) 0 = w := ⟨_, rfl⟩
  obtain ⟨w629, ew629⟩ : ∃ w : Int32, I (ad g 4) 1 = w := ⟨_, rfl⟩
  obtain ⟨w630, ew630⟩ : ∃ w : Int32, I (ad g 4) 2 = w := ⟨_, rfl⟩
  try simp only [ew628, ew629, ew630] at q0 q1 q2
  refine WP_aload_n dX7_tellOn_0 rfl ?_
  refine WP_aload_n dX7_tellOn_1 rfl ?_
  refine WQ_iconst (0) (0) dX7_tellOn_2 rfl rfl (fun v631 hv631 => ?_)
  refine WE_iak (z := 0) dX7_tellOn_3 (lyx_is hy 4 13 rfl) (lyx_n hy 4 5 rfl) hv631 (by decide) ew628 ?_
  refine WQ_bipush (7) (7) dX7_tellOn_4 rfl rfl (fun v633 hv633 => ?_)
  refine WQ_imulk (7) dX7_tellOn_6 hv633 (by omega) (by omega) (fun v634 hv634 => ?_)
  refine WP_aload_n dX7_tellOn_7 rfl ?_
  refine WQ_iconst (1) (1) dX7_tellOn_8 rfl rfl (fun v635 hv635 => ?_)
  refine WE_iak (z := 1) dX7_tellOn_9 (lyx_is hy 4 13 rfl) (lyx_n hy 4 5 rfl) hv635 (by decide) ew629 ?_
  refine WQ_iadd dX7_tellOn_10 (by omega) (by omega) (fun v637 hv637 => ?_)
  refine WP_aload_n dX7_tellOn_11 rfl ?_
  refine WQ_iconst (2) (2) dX7_tellOn_12 rfl rfl (fun v638 hv638 => ?_)
  refine WE_iak (z := 2) dX7_tellOn_13 (lyx_is hy 4 13 rfl) (lyx_n hy 4 5 rfl) hv638 (by decide) ew630 ?_
  refine WE_is dX7_tellOn_14 (lyx_is hy 19 13 rfl) (lyx_n hy 19 21 rfl) (by omega) (by omega) (fun I640 eI640 => ?_)
  have e641 : I640 (ad g 4) 0 = w628 := by rw [eI640, pp_ne _ _ (Or.inl (lyx_ne hy (by decide) (by decide) (by decide)))]; exact ew628
  have e642 : I640 (ad g 4) 1 = w629 := by rw [eI640, pp_ne _ _ (Or.inl (lyx_ne hy (by decide) (by decide) (by decide)))]; exact ew629
  have e643 : I640 (ad g 4) 2 = w630 := by rw [eI640, pp_ne _ _ (Or.inl (lyx_ne hy (by decide) (by decide) (by decide)))]; exact ew630
  have fI644 : FC g [19, 21] I I640 := by rw [eI640]; exact FC_pp fI0 (by decide)
  have hR2 : RTX g 6 (pp S.1 13 ((P 0).toNat * 7 + (P 1).toNat) (P 2), S.2) I640 J := by
    rw [eI640, show v637.toInt.toNat = ((P 0).toNat * 7 + (P 1).toNat) by omega]
    exact RTX_w hy (by decide) hR 13 ((P 0).toNat * 7 + (P 1).toNat) _ _ (by decide) (q2)
  refine WP_aload_n dX7_tellOn_15 rfl ?_
  refine WP_iload_n dX7_tellOn_16 rfl ?_
  refine WP_aload_n dX7_tellOn_17 rfl ?_
  refine WQ_iconst (0) (0) dX7_tellOn_18 rfl rfl (fun v645 hv645 => ?_)
  refine WE_iak (z := 0) dX7_tellOn_19 (lyx_is hy 4 13 rfl) (lyx_n hy 4 5 rfl) hv645 (by decide) e641 ?_
  refine WP_aload_n dX7_tellOn_20 rfl ?_
  refine WQ_iconst (1) (1) dX7_tellOn_21 rfl rfl (fun v647 hv647 => ?_)
  refine WE_iak (z := 1) dX7_tellOn_22 (lyx_is hy 4 13 rfl) (lyx_n hy 4 5 rfl) hv647 (by decide) e642 ?_
  refine WP_callV3 (k := 7) dX7_tellOn_23 ⟨⟨⟨by decide, by decide⟩, zX7_hold⟩, lX7_109, by decide, rfl, vX7_hold.1, vX7_hold.2⟩ (lyx_is hy 6 7 rfl) (ex_holda hy hr _ _ _  (ro := 20 + (P 0).toNat) (d := (P 1).toNat) hR2 (by omega) (by omega) (by omega) (by omega) (by omega) (by omega)) (Nat.le_of_ble_eq_true rfl) ?_
  intro r I650 J651 Ra hq
  obtain ⟨ec, g652, g653, er, p649⟩ := hq
  rw [ec, er]
  clear ec er Ra r
  have e655 : I650 (ad g 4) 0 = w628 := by rw [FCx_at hy g652 4 (by decide) (by decide)]; exact e641
  have e656 : I650 (ad g 4) 1 = w629 := by rw [FCx_at hy g652 4 (by decide) (by decide)]; exact e642
  have e657 : I650 (ad g 4) 2 = w630 := by rw [FCx_at hy g652 4 (by decide) (by decide)]; exact e643
  have fI658 : FC g [19, 21] I I650 := FC_tr fI644 (FC_mono g652 (by decide))
  have fJ659 : FC g [] J J651 := FC_tr fJ0 (FC_mono g653 (by decide))
  try simp only [e655, e656, e657, ew628, ew629, ew630] at p649
  exact WP_vret dX7_tellOn_26 rfl ⟨rfl, fI658, fJ659, rfl, by
    try simp only [e655, e656, e657, ew628, ew629, ew630]
    exact p649⟩
set_option maxHeartbeats 4000000 in
set_option maxRecDepth 100000 in
theorem ex_tellWanta {g : GG} {I : pI} {J : pJ} {R : pR} (hy : LyX g) (hr : RfX g R) {S : TwS} {P : Nat → Int}  (hR : RTX g 6 S I J) (hP : PRX g P 0 5 I) (h0 : 0 ≤ P 0 ∧ P 0 < 4) (h1 : 0 ≤ P 2 ∧ P 2 < 7) : SP g mX7_tellWant [.ref (ad g 6), .ref (ad g 4)] I J R (fun r I' J' R' => R' = R ∧ FC g [13, 14, 15, 21] I I' ∧ FC g [] J J' ∧ r = none ∧ (RTX g 6 (pp (pp (pp S.1 7 ((P 0).toNat * 7 + (P 2).toNat) (P 1)) 8 ((P 0).toNat * 7 + (P 2).toNat) (P 3)) 9 ((P 0).toNat * 7 + (P 2).toNat) (P 4), pp S.2 (24 + (P 0).toNat) (P 2).toNat true) I' J')) := by
  refine SP_of ⟨by decide, rfl⟩ (Nat.le_of_ble_eq_true rfl) ?_
  have fI0 : FC g [13, 14, 15, 21] I I := FC_rf
  have fJ0 : FC g [] J J := FC_rf
  have q0 := hP 0 (by decide) (by decide)
  have q1 := hP 1 (by decide) (by decide)
  have q2 := hP 2 (by decide) (by decide)
  have q3 := hP 3 (by decide) (by decide)
  have q4 := hP 4 (by decide) (by decide)
  obtain ⟨w660, ew660⟩ : ∃ w : Int32, I (ad g 4) 0 = w := ⟨_, rfl⟩
  obtain ⟨w661, ew661⟩ : ∃ w : Int32, I (ad g 4) 1 = w := ⟨_, rfl⟩
  obtain ⟨w662, ew662⟩ : ∃ w : Int32, I (ad g 4) 2 = w := ⟨_, rfl⟩
  obtain ⟨w663, ew663⟩ : ∃ w : Int32, I (ad g 4) 3 = w := ⟨_, rfl⟩
  obtain ⟨w664, ew664⟩ : ∃ w : Int32, I (ad g 4) 4 = w := ⟨_, rfl⟩
  try simp only [ew660, ew661, ew662, ew663, ew664] at q0 q1 q2 q3 q4
  refine WP_aload_n dX7_tellWant_0 rfl ?_
  refine WQ_iconst (0) (0) dX7_tellWant_1 rfl rfl (fun v665 hv665 => ?_)
  refine WE_iak (z := 0) dX7_tellWant_2 (lyx_is hy 4 13 rfl) (lyx_n hy 4 5 rfl) hv665 (by decide) ew660 ?_
  refine WQ_bipush (7) (7) dX7_tellWant_3 rfl rfl (fun v667 hv667 => ?_)
  refine WQ_imulk (7) dX7_tellWant_5 hv667 (by omega) (by omega) (fun v668 hv668 => ?_)
  refine WP_aload_n dX7_tellWant_6 rfl ?_
  refine WQ_iconst (2) (2) dX7_tellWant_7 rfl rfl (fun v669 hv669 => ?_)
  refine WE_iak (z := 2) dX7_tellWant_8 (lyx_is hy 4 13 rfl) (lyx_n hy 4 5 rfl) hv669 (by decide) ew662 ?_
  refine WQ_iadd dX7_tellWant_9 (by omega) (by omega) (fun v671 hv671 => ?_)
  refine WP_istore_n (ls' := [(0, _), (1, _), (2, _)]) dX7_tellWant_10 (by decide) rfl ?_
  refine WP_aload_n dX7_tellWant_11 rfl ?_
  refine WP_getr dX7_tellWant_12 fX7_30 rfl (lyx_is hy 6 7 rfl) (rfx hr 6 11 13 (by decide)) ?_
  refine WP_iload_n dX7_tellWant_15 rfl ?_
  refine WP_aload_n dX7_tellWant_16 rfl ?_
  refine WQ_iconst (1) (1) dX7_tellWant_17 rfl rfl (fun v672 hv672 => ?_)
  refine WE_iak (z := 1) dX7_tellWant_18 (lyx_is hy 4 13 rfl) (lyx_n hy 4 5 rfl) hv672 (by decide) ew661 ?_
  refine WE_is dX7_tellWant_19 (lyx_is hy 13 13 rfl) (lyx_n hy 13 28 rfl) (by omega) (by omega) (fun I674 eI674 => ?_)
  have e675 : I674 (ad g 4) 0 = w660 := by rw [eI674, pp_ne _ _ (Or.inl (lyx_ne hy (by decide) (by decide) (by decide)))]; exact ew660
  have e676 : I674 (ad g 4) 1 = w661 := by rw [eI674, pp_ne _ _ (Or.inl (lyx_ne hy (by decide) (by decide) (by decide)))]; exact ew661
  have e677 : I674 (ad g 4) 2 = w662 := by rw [eI674, pp_ne _ _ (Or.inl (lyx_ne hy (by decide) (by decide) (by decide)))]; exact ew662
  have e678 : I674 (ad g 4) 3 = w663 := by rw [eI674, pp_ne _ _ (Or.inl (lyx_ne hy (by decide) (by decide) (by decide)))]; exact ew663
  have e679 : I674 (ad g 4) 4 = w664 := by rw [eI674, pp_ne _ _ (Or.inl (lyx_ne hy (by decide) (by decide) (by decide)))]; exact ew664
  have fI680 : FC g [13, 14, 15, 21] I I674 := by rw [eI674]; exact FC_pp fI0 (by decide)
  have hR2 : RTX g 6 (pp S.1 7 ((P 0).toNat * 7 + (P 2).toNat) (P 1), S.2) I674 J := by
    rw [eI674, show v671.toInt.toNat = ((P 0).toNat * 7 + (P 2).toNat) by omega]
    exact RTX_w hy (by decide) hR 7 ((P 0).toNat * 7 + (P 2).toNat) _ _ (by decide) (q1)
  refine WP_aload_n dX7_tellWant_20 rfl ?_
  refine WP_getr dX7_tellWant_21 fX7_33 rfl (lyx_is hy 6 7 rfl) (rfx hr 6 12 14 (by decide)) ?_
  refine WP_iload_n dX7_tellWant_24 rfl ?_
  refine WP_aload_n dX7_tellWant_25 rfl ?_
  refine WQ_iconst (3) (3) dX7_tellWant_26 rfl rfl (fun v681 hv681 => ?_)
  refine WE_iak (z := 3) dX7_tellWant_27 (lyx_is hy 4 13 rfl) (lyx_n hy 4 5 rfl) hv681 (by decide) e678 ?_
  refine WE_is dX7_tellWant_28 (lyx_is hy 14 13 rfl) (lyx_n hy 14 28 rfl) (by omega) (by omega) (fun I683 eI683 => ?_)
  have e684 : I683 (ad g 4) 0 = w660 := by rw [eI683, pp_ne _ _ (Or.inl (lyx_ne hy (by decide) (by decide) (by decide)))]; exact e675
  have e685 : I683 (ad g 4) 1 = w661 := by rw [eI683, pp_ne _ _ (Or.inl (lyx_ne hy (by decide) (by decide) (by decide)))]; exact e676
  have e686 : I683 (ad g 4) 2 = w662 := by rw [eI683, pp_ne _ _ (Or.inl (lyx_ne hy (by decide) (by decide) (by decide)))]; exact e677
  have e687 : I683 (ad g 4) 3 = w663 := by rw [eI683, pp_ne _ _ (Or.inl (lyx_ne hy (by decide) (by decide) (by decide)))]; exact e678
  have e688 : I683 (ad g 4) 4 = w664 := by rw [eI683, pp_ne _ _ (Or.inl (lyx_ne hy (by decide) (by decide) (by decide)))]; exact e679
  have fI689 : FC g [13, 14, 15, 21] I I683 := by rw [eI683]; exact FC_pp fI680 (by decide)
  have hR3 : RTX g 6 (pp (pp S.1 7 ((P 0).toNat * 7 + (P 2).toNat) (P 1)) 8 ((P 0).toNat * 7 + (P 2).toNat) (P 3), S.2) I683 J := by
    rw [eI683, show v671.toInt.toNat = ((P 0).toNat * 7 + (P 2).toNat) by omega]
    exact RTX_w hy (by decide) hR2 8 ((P 0).toNat * 7 + (P 2).toNat) _ _ (by decide) (q3)
  refine WP_aload_n dX7_tellWant_29 rfl ?_
  refine WP_getr dX7_tellWant_30 fX7_36 rfl (lyx_is hy 6 7 rfl) (rfx hr 6 13 15 (by decide)) ?_
  refine WP_iload_n dX7_tellWant_33 rfl ?_
  refine WP_aload_n dX7_tellWant_34 rfl ?_
  refine WQ_iconst (4) (4) dX7_tellWant_35 rfl rfl (fun v690 hv690 => ?_)
  refine WE_iak (z := 4) dX7_tellWant_36 (lyx_is hy 4 13 rfl) (lyx_n hy 4 5 rfl) hv690 (by decide) e688 ?_
  refine WE_is dX7_tellWant_37 (lyx_is hy 15 13 rfl) (lyx_n hy 15 28 rfl) (by omega) (by omega) (fun I692 eI692 => ?_)
  have e693 : I692 (ad g 4) 0 = w660 := by rw [eI692, pp_ne _ _ (Or.inl (lyx_ne hy (by decide) (by decide) (by decide)))]; exact e684
  have e694 : I692 (ad g 4) 1 = w661 := by rw [eI692, pp_ne _ _ (Or.inl (lyx_ne hy (by decide) (by decide) (by decide)))]; exact e685
  have e695 : I692 (ad g 4) 2 = w662 := by rw [eI692, pp_ne _ _ (Or.inl (lyx_ne hy (by decide) (by decide) (by decide)))]; exact e686
  have e696 : I692 (ad g 4) 3 = w663 := by rw [eI692, pp_ne _ _ (Or.inl (lyx_ne hy (by decide) (by decide) (by decide)))]; exact e687
  have e697 : I692 (ad g 4) 4 = w664 := by rw [eI692, pp_ne _ _ (Or.inl (lyx_ne hy (by decide) (by decide) (by decide)))]; exact e688
  have fI698 : FC g [13, 14, 15, 21] I I692 := by rw [eI692]; exact FC_pp fI689 (by decide)
  have hR4 : RTX g 6 (pp (pp (pp S.1 7 ((P 0).toNat * 7 + (P 2).toNat) (P 1)) 8 ((P 0).toNat * 7 + (P 2).toNat) (P 3)) 9 ((P 0).toNat * 7 + (P 2).toNat) (P 4), S.2) I692 J := by
    rw [eI692, show v671.toInt.toNat = ((P 0).toNat * 7 + (P 2).toNat) by omega]
    exact RTX_w hy (by decide) hR3 9 ((P 0).toNat * 7 + (P 2).toNat) _ _ (by decide) (q4)
  refine WP_aload_n dX7_tellWant_38 rfl ?_
  refine WQ_bipush (6) (6) dX7_tellWant_39 rfl rfl (fun v699 hv699 => ?_)
  refine WP_aload_n dX7_tellWant_41 rfl ?_
  refine WQ_iconst (0) (0) dX7_tellWant_42 rfl rfl (fun v700 hv700 => ?_)
  refine WE_iak (z := 0) dX7_tellWant_43 (lyx_is hy 4 13 rfl) (lyx_n hy 4 5 rfl) hv700 (by decide) e693 ?_
  refine WP_aload_n dX7_tellWant_44 rfl ?_
  refine WQ_iconst (2) (2) dX7_tellWant_45 rfl rfl (fun v702 hv702 => ?_)
  refine WE_iak (z := 2) dX7_tellWant_46 (lyx_is hy 4 13 rfl) (lyx_n hy 4 5 rfl) hv702 (by decide) e695 ?_
  refine WP_callV3 (k := 7) dX7_tellWant_47 ⟨⟨⟨by decide, by decide⟩, zX7_hold⟩, lX7_109, by decide, rfl, vX7_hold.1, vX7_hold.2⟩ (lyx_is hy 6 7 rfl) (ex_holda hy hr _ _ _  (ro := 24 + (P 0).toNat) (d := (P 2).toNat) hR4 (by omega) (by omega) (by omega) (by omega) (by omega) (by omega)) (Nat.le_of_ble_eq_true rfl) ?_
  intro r I705 J706 Ra hq
  obtain ⟨ec, g707, g708, er, p704⟩ := hq
  rw [ec, er]
  clear ec er Ra r
  have e710 : I705 (ad g 4) 0 = w660 := by rw [FCx_at hy g707 4 (by decide) (by decide)]; exact e693
  have e711 : I705 (ad g 4) 1 = w661 := by rw [FCx_at hy g707 4 (by decide) (by decide)]; exact e694
  have e712 : I705 (ad g 4) 2 = w662 := by rw [FCx_at hy g707 4 (by decide) (by decide)]; exact e695
  have e713 : I705 (ad g 4) 3 = w663 := by rw [FCx_at hy g707 4 (by decide) (by decide)]; exact e696
  have e714 : I705 (ad g 4) 4 = w664 := by rw [FCx_at hy g707 4 (by decide) (by decide)]; exact e697
  have fI715 : FC g [13, 14, 15, 21] I I705 := FC_tr fI698 (FC_mono g707 (by decide))
  have fJ716 : FC g [] J J706 := FC_tr fJ0 (FC_mono g708 (by decide))
  try simp only [e710, e711, e712, e713, e714, ew660, ew661, ew662, ew663, ew664] at p704
  exact WP_vret dX7_tellWant_50 rfl ⟨rfl, fI715, fJ716, rfl, by
    try simp only [e710, e711, e712, e713, e714, ew660, ew661, ew662, ew663, ew664]
    exact p704⟩
set_option maxHeartbeats 4000000 in
set_option maxRecDepth 100000 in
theorem ex_tellSorta {g : GG} {I : pI} {J : pJ} {R : pR} (hy : LyX g) (hr : RfX g R) {S : TwS} {P : Nat → Int}  (hR : RTX g 6 S I J) (hP : PRX g P 1 4 I) (h0 : 0 ≤ S.1 0 1 ∧ S.1 0 1 < 4) : SP g mX7_tellSort [.ref (ad g 6), .ref (ad g 4)] I J R (fun r I' J' R' => R' = R ∧ FC g [6, 8, 9, 10] I I' ∧ FC g [] J J' ∧ r = none ∧ (RTX g 6 (pp (pp (pp (pp S.1 2 (S.1 0 1).toNat (P 1)) 3 (S.1 0 1).toNat (P 2)) 4 (S.1 0 1).toNat (P 3)) 0 1 (S.1 0 1 + 1), S.2) I' J')) := by
  refine SP_of ⟨by decide, rfl⟩ (Nat.le_of_ble_eq_true rfl) ?_
  have fI0 : FC g [6, 8, 9, 10] I I := FC_rf
  have fJ0 : FC g [] J J := FC_rf
  have hs1 : (I (ad g 6) 1).toInt = S.1 0 1 := hR.1 0 1 (by decide) (by decide)
  have q1 := hP 1 (by decide) (by decide)
  have q2 := hP 2 (by decide) (by decide)
  have q3 := hP 3 (by decide) (by decide)
  obtain ⟨w717, ew717⟩ : ∃ w : Int32, I (ad g 4) 1 = w := ⟨_, rfl⟩
  obtain ⟨w718, ew718⟩ : ∃ w : Int32, I (ad g 4) 2 = w := ⟨_, rfl⟩
  obtain ⟨w719, ew719⟩ : ∃ w : Int32, I (ad g 4) 3 = w := ⟨_, rfl⟩
  obtain ⟨w720, ew720⟩ : ∃ w : Int32, I (ad g 6) 1 = w := ⟨_, rfl⟩
  try simp only [ew717, ew718, ew719, ew720] at q1 q2 q3 hs1
  refine WP_aload_n dX7_tellSort_0 rfl ?_
  refine WP_getr dX7_tellSort_1 fX7_15 rfl (lyx_is hy 6 7 rfl) (rfx hr 6 6 8 (by decide)) ?_
  refine WP_aload_n dX7_tellSort_4 rfl ?_
  refine WQ_getim dX7_tellSort_5 fX7_65 rfl (lyx_is hy 6 7 rfl) ew720 ?_
  refine WP_aload_n dX7_tellSort_8 rfl ?_
  refine WQ_iconst (1) (1) dX7_tellSort_9 rfl rfl (fun v721 hv721 => ?_)
  refine WE_iak (z := 1) dX7_tellSort_10 (lyx_is hy 4 13 rfl) (lyx_n hy 4 5 rfl) hv721 (by decide) ew717 ?_
  refine WE_is dX7_tellSort_11 (lyx_is hy 8 13 rfl) (lyx_n hy 8 4 rfl) (by omega) (by omega) (fun I723 eI723 => ?_)
  have e724 : I723 (ad g 4) 1 = w717 := by rw [eI723, pp_ne _ _ (Or.inl (lyx_ne hy (by decide) (by decide) (by decide)))]; exact ew717
  have e725 : I723 (ad g 4) 2 = w718 := by rw [eI723, pp_ne _ _ (Or.inl (lyx_ne hy (by decide) (by decide) (by decide)))]; exact ew718
  have e726 : I723 (ad g 4) 3 = w719 := by rw [eI723, pp_ne _ _ (Or.inl (lyx_ne hy (by decide) (by decide) (by decide)))]; exact ew719
  have e727 : I723 (ad g 6) 1 = w720 := by rw [eI723, pp_ne _ _ (Or.inl (lyx_ne hy (by decide) (by decide) (by decide)))]; exact ew720
  have fI728 : FC g [6, 8, 9, 10] I I723 := by rw [eI723]; exact FC_pp fI0 (by decide)
  have hR2 : RTX g 6 (pp S.1 2 (S.1 0 1).toNat (P 1), S.2) I723 J := by
    rw [eI723, show w720.toInt.toNat = (S.1 0 1).toNat by omega]
    exact RTX_w hy (by decide) hR 2 (S.1 0 1).toNat _ _ (by decide) (q1)
  refine WP_aload_n dX7_tellSort_12 rfl ?_
  refine WP_getr dX7_tellSort_13 fX7_18 rfl (lyx_is hy 6 7 rfl) (rfx hr 6 7 9 (by decide)) ?_
  refine WP_aload_n dX7_tellSort_16 rfl ?_
  refine WQ_getim dX7_tellSort_17 fX7_65 rfl (lyx_is hy 6 7 rfl) e727 ?_
  refine WP_aload_n dX7_tellSort_20 rfl ?_
  refine WQ_iconst (2) (2) dX7_tellSort_21 rfl rfl (fun v729 hv729 => ?_)
  refine WE_iak (z := 2) dX7_tellSort_22 (lyx_is hy 4 13 rfl) (lyx_n hy 4 5 rfl) hv729 (by decide) e725 ?_
  refine WE_is dX7_tellSort_23 (lyx_is hy 9 13 rfl) (lyx_n hy 9 4 rfl) (by omega) (by omega) (fun I731 eI731 => ?_)
  have e732 : I731 (ad g 4) 1 = w717 := by rw [eI731, pp_ne _ _ (Or.inl (lyx_ne hy (by decide) (by decide) (by decide)))]; exact e724
  have e733 : I731 (ad g 4) 2 = w718 := by rw [eI731, pp_ne _ _ (Or.inl (lyx_ne hy (by decide) (by decide) (by decide)))]; exact e725
  have e734 : I731 (ad g 4) 3 = w719 := by rw [eI731, pp_ne _ _ (Or.inl (lyx_ne hy (by decide) (by decide) (by decide)))]; exact e726
  have e735 : I731 (ad g 6) 1 = w720 := by rw [eI731, pp_ne _ _ (Or.inl (lyx_ne hy (by decide) (by decide) (by decide)))]; exact e727
  have fI736 : FC g [6, 8, 9, 10] I I731 := by rw [eI731]; exact FC_pp fI728 (by decide)
  have hR3 : RTX g 6 (pp (pp S.1 2 (S.1 0 1).toNat (P 1)) 3 (S.1 0 1).toNat (P 2), S.2) I731 J := by
    rw [eI731, show w720.toInt.toNat = (S.1 0 1).toNat by omega]
    exact RTX_w hy (by decide) hR2 3 (S.1 0 1).toNat _ _ (by decide) (q2)
  refine WP_aload_n dX7_tellSort_24 rfl ?_
  refine WP_getr dX7_tellSort_25 fX7_21 rfl (lyx_is hy 6 7 rfl) (rfx hr 6 8 10 (by decide)) ?_
  refine WP_aload_n dX7_tellSort_28 rfl ?_
  refine WQ_getim dX7_tellSort_29 fX7_65 rfl (lyx_is hy 6 7 rfl) e735 ?_
  refine WP_aload_n dX7_tellSort_32 rfl ?_
  refine WQ_iconst (3) (3) dX7_tellSort_33 rfl rfl (fun v737 hv737 => ?_)
  refine WE_iak (z := 3) dX7_tellSort_34 (lyx_is hy 4 13 rfl) (lyx_n hy 4 5 rfl) hv737 (by decide) e734 ?_
  refine WE_is dX7_tellSort_35 (lyx_is hy 10 13 rfl) (lyx_n hy 10 4 rfl) (by omega) (by omega) (fun I739 eI739 => ?_)
  have e740 : I739 (ad g 4) 1 = w717 := by rw [eI739, pp_ne _ _ (Or.inl (lyx_ne hy (by decide) (by decide) (by decide)))]; exact e732
  have e741 : I739 (ad g 4) 2 = w718 := by rw [eI739, pp_ne _ _ (Or.inl (lyx_ne hy (by decide) (by decide) (by decide)))]; exact e733
  have e742 : I739 (ad g 4) 3 = w719 := by rw [eI739, pp_ne _ _ (Or.inl (lyx_ne hy (by decide) (by decide) (by decide)))]; exact e734
  have e743 : I739 (ad g 6) 1 = w720 := by rw [eI739, pp_ne _ _ (Or.inl (lyx_ne hy (by decide) (by decide) (by decide)))]; exact e735
  have fI744 : FC g [6, 8, 9, 10] I I739 := by rw [eI739]; exact FC_pp fI736 (by decide)
  have hR4 : RTX g 6 (pp (pp (pp S.1 2 (S.1 0 1).toNat (P 1)) 3 (S.1 0 1).toNat (P 2)) 4 (S.1 0 1).toNat (P 3), S.2) I739 J := by
    rw [eI739, show w720.toInt.toNat = (S.1 0 1).toNat by omega]
    exact RTX_w hy (by decide) hR3 4 (S.1 0 1).toNat _ _ (by decide) (q3)
  refine WP_aload_n dX7_tellSort_36 rfl ?_
  refine WP_dup dX7_tellSort_37 rfl ?_
  refine WQ_getim dX7_tellSort_38 fX7_65 rfl (lyx_is hy 6 7 rfl) e743 ?_
  refine WQ_iconst (1) (1) dX7_tellSort_41 rfl rfl (fun v745 hv745 => ?_)
  refine WQ_iadd dX7_tellSort_42 (by omega) (by omega) (fun v746 hv746 => ?_)
  refine WQ_puti dX7_tellSort_43 fX7_65 rfl rfl (lyx_is hy 6 7 rfl) (fun I747 eI747 => ?_)
  have e748 : I747 (ad g 4) 1 = w717 := by rw [eI747, pp_ne _ _ (Or.inl (lyx_ne hy (by decide) (by decide) (by decide)))]; exact e740
  have e749 : I747 (ad g 4) 2 = w718 := by rw [eI747, pp_ne _ _ (Or.inl (lyx_ne hy (by decide) (by decide) (by decide)))]; exact e741
  have e750 : I747 (ad g 4) 3 = w719 := by rw [eI747, pp_ne _ _ (Or.inl (lyx_ne hy (by decide) (by decide) (by decide)))]; exact e742
  have e751 : I747 (ad g 6) 1 = v746 := by rw [eI747, pp_self]
  have fI752 : FC g [6, 8, 9, 10] I I747 := by rw [eI747]; exact FC_pp fI744 (by decide)
  exact WP_vret dX7_tellSort_46 rfl ⟨rfl, fI752, fJ0, rfl, by
    try simp only [e748, e749, e750, e751, ew717, ew718, ew719, ew720]
    rw [eI747]
    exact RTX_w hy (by decide) hR4 0 1 _ _ (by decide) (by omega)⟩
set_option maxHeartbeats 4000000 in
set_option maxRecDepth 100000 in
theorem ex_tellThinga {g : GG} {I : pI} {J : pJ} {R : pR} (hy : LyX g) (hr : RfX g R) {S : TwS} {P : Nat → Int}  (hR : RTX g 6 S I J) (hP : PRX g P 1 3 I) (h0 : 0 ≤ S.1 0 2 ∧ S.1 0 2 < 3) : SP g mX7_tellThing [.ref (ad g 6), .ref (ad g 4)] I J R (fun r I' J' R' => R' = R ∧ FC g [6, 16, 17] I I' ∧ FC g [] J J' ∧ r = none ∧ (RTX g 6 (if S.1 0 4 = -1 then pp (pp (pp (pp S.1 10 (S.1 0 2).toNat (P 1)) 11 (S.1 0 2).toNat (P 2)) 0 2 (S.1 0 2 + 1)) 0 4 0 else pp (pp (pp S.1 10 (S.1 0 2).toNat (P 1)) 11 (S.1 0 2).toNat (P 2)) 0 2 (S.1 0 2 + 1), S.2) I' J')) := by
  refine SP_of ⟨by decide, rfl⟩ (Nat.le_of_ble_eq_true rfl) ?_
  have fI0 : FC g [6, 16, 17] I I := FC_rf
  have fJ0 : FC g [] J J := FC_rf
  have hs2 : (I (ad g 6) 2).toInt = S.1 0 2 := hR.1 0 2 (by decide) (by decide)
  have hs4 : (I (ad g 6) 4).toInt = S.1 0 4 := hR.1 0 4 (by decide) (by decide)
  have q1 := hP 1 (by decide) (by decide)
  have q2 := hP 2 (by decide) (by decide)
  obtain ⟨w753, ew753⟩ : ∃ w : Int32, I (ad g 4) 1 = w := ⟨_, rfl⟩
  obtain ⟨w754, ew754⟩ : ∃ w : Int32, I (ad g 4) 2 = w := ⟨_, rfl⟩
  obtain ⟨w755, ew755⟩ : ∃ w : Int32, I (ad g 6) 2 = w := ⟨_, rfl⟩
  obtain ⟨w756, ew756⟩ : ∃ w : Int32, I (ad g 6) 4 = w := ⟨_, rfl⟩
  try simp only [ew753, ew754, ew755, ew756] at q1 q2 hs2 hs4
  refine WP_aload_n dX7_tellThing_0 rfl ?_
  refine WP_getr dX7_tellThing_1 fX7_39 rfl (lyx_is hy 6 7 rfl) (rfx hr 6 14 16 (by decide)) ?_
  refine WP_aload_n dX7_tellThing_4 rfl ?_
  refine WQ_getim dX7_tellThing_5 fX7_68 rfl (lyx_is hy 6 7 rfl) ew755 ?_
  refine WP_aload_n dX7_tellThing_8 rfl ?_
  refine WQ_iconst (1) (1) dX7_tellThing_9 rfl rfl (fun v757 hv757 => ?_)
  refine WE_iak (z := 1) dX7_tellThing_10 (lyx_is hy 4 13 rfl) (lyx_n hy 4 5 rfl) hv757 (by decide) ew753 ?_
  refine WE_is dX7_tellThing_11 (lyx_is hy 16 13 rfl) (lyx_n hy 16 3 rfl) (by omega) (by omega) (fun I759 eI759 => ?_)
  have e760 : I759 (ad g 4) 1 = w753 := by rw [eI759, pp_ne _ _ (Or.inl (lyx_ne hy (by decide) (by decide) (by decide)))]; exact ew753
  have e761 : I759 (ad g 4) 2 = w754 := by rw [eI759, pp_ne _ _ (Or.inl (lyx_ne hy (by decide) (by decide) (by decide)))]; exact ew754
  have e762 : I759 (ad g 6) 2 = w755 := by rw [eI759, pp_ne _ _ (Or.inl (lyx_ne hy (by decide) (by decide) (by decide)))]; exact ew755
  have e763 : I759 (ad g 6) 4 = w756 := by rw [eI759, pp_ne _ _ (Or.inl (lyx_ne hy (by decide) (by decide) (by decide)))]; exact ew756
  have fI764 : FC g [6, 16, 17] I I759 := by rw [eI759]; exact FC_pp fI0 (by decide)
  have hR2 : RTX g 6 (pp S.1 10 (S.1 0 2).toNat (P 1), S.2) I759 J := by
    rw [eI759, show w755.toInt.toNat = (S.1 0 2).toNat by omega]
    exact RTX_w hy (by decide) hR 10 (S.1 0 2).toNat _ _ (by decide) (q1)
  refine WP_aload_n dX7_tellThing_12 rfl ?_
  refine WP_getr dX7_tellThing_13 fX7_42 rfl (lyx_is hy 6 7 rfl) (rfx hr 6 15 17 (by decide)) ?_
  refine WP_aload_n dX7_tellThing_16 rfl ?_
  refine WQ_getim dX7_tellThing_17 fX7_68 rfl (lyx_is hy 6 7 rfl) e762 ?_
  refine WP_aload_n dX7_tellThing_20 rfl ?_
  refine WQ_iconst (2) (2) dX7_tellThing_21 rfl rfl (fun v765 hv765 => ?_)
  refine WE_iak (z := 2) dX7_tellThing_22 (lyx_is hy 4 13 rfl) (lyx_n hy 4 5 rfl) hv765 (by decide) e761 ?_
  refine WE_is dX7_tellThing_23 (lyx_is hy 17 13 rfl) (lyx_n hy 17 3 rfl) (by omega) (by omega) (fun I767 eI767 => ?_)
  have e768 : I767 (ad g 4) 1 = w753 := by rw [eI767, pp_ne _ _ (Or.inl (lyx_ne hy (by decide) (by decide) (by decide)))]; exact e760
  have e769 : I767 (ad g 4) 2 = w754 := by rw [eI767, pp_ne _ _ (Or.inl (lyx_ne hy (by decide) (by decide) (by decide)))]; exact e761
  have e770 : I767 (ad g 6) 2 = w755 := by rw [eI767, pp_ne _ _ (Or.inl (lyx_ne hy (by decide) (by decide) (by decide)))]; exact e762
  have e771 : I767 (ad g 6) 4 = w756 := by rw [eI767, pp_ne _ _ (Or.inl (lyx_ne hy (by decide) (by decide) (by decide)))]; exact e763
  have fI772 : FC g [6, 16, 17] I I767 := by rw [eI767]; exact FC_pp fI764 (by decide)
  have hR3 : RTX g 6 (pp (pp S.1 10 (S.1 0 2).toNat (P 1)) 11 (S.1 0 2).toNat (P 2), S.2) I767 J := by
    rw [eI767, show w755.toInt.toNat = (S.1 0 2).toNat by omega]
    exact RTX_w hy (by decide) hR2 11 (S.1 0 2).toNat _ _ (by decide) (q2)
  refine WP_aload_n dX7_tellThing_24 rfl ?_
  refine WP_dup dX7_tellThing_25 rfl ?_
  refine WQ_getim dX7_tellThing_26 fX7_68 rfl (lyx_is hy 6 7 rfl) e770 ?_
  refine WQ_iconst (1) (1) dX7_tellThing_29 rfl rfl (fun v773 hv773 => ?_)
  refine WQ_iadd dX7_tellThing_30 (by omega) (by omega) (fun v774 hv774 => ?_)
  refine WQ_puti dX7_tellThing_31 fX7_68 rfl rfl (lyx_is hy 6 7 rfl) (fun I775 eI775 => ?_)
  have e776 : I775 (ad g 4) 1 = w753 := by rw [eI775, pp_ne _ _ (Or.inl (lyx_ne hy (by decide) (by decide) (by decide)))]; exact e768
  have e777 : I775 (ad g 4) 2 = w754 := by rw [eI775, pp_ne _ _ (Or.inl (lyx_ne hy (by decide) (by decide) (by decide)))]; exact e769
  have e778 : I775 (ad g 6) 4 = w756 := by rw [eI775, pp_ne _ _ (Or.inr (by decide))]; exact e771
  have e779 : I775 (ad g 6) 2 = v774 := by rw [eI775, pp_self]
  have fI780 : FC g [6, 16, 17] I I775 := by rw [eI775]; exact FC_pp fI772 (by decide)
  have hR4 : RTX g 6 (pp (pp (pp S.1 10 (S.1 0 2).toNat (P 1)) 11 (S.1 0 2).toNat (P 2)) 0 2 (S.1 0 2 + 1), S.2) I775 J := by
    rw [eI775]
    exact RTX_w hy (by decide) hR3 0 2 _ _ (by decide) (by omega)
  refine WP_aload_n dX7_tellThing_34 rfl ?_
  refine WQ_getim dX7_tellThing_35 fX7_74 rfl (lyx_is hy 6 7 rfl) e778 ?_
  refine WQ_iconst (-1) (-1) dX7_tellThing_38 rfl rfl (fun v781 hv781 => ?_)
  refine WQ_icmp_ne 47 dX7_tellThing_39 rfl (fun c781 => ?_) (fun c781 => ?_)
  · exact WP_vret dX7_tellThing_47 rfl ⟨rfl, fI780, fJ0, rfl, by
      try simp only [e776, e777, e778, e779, ew753, ew754, ew755, ew756]
      rw [if_neg (by omega)]
      exact hR4⟩
  · refine WP_aload_n dX7_tellThing_42 rfl ?_
    refine WQ_iconst (0) (0) dX7_tellThing_43 rfl rfl (fun v783 hv783 => ?_)
    refine WQ_puti dX7_tellThing_44 fX7_74 rfl rfl (lyx_is hy 6 7 rfl) (fun I784 eI784 => ?_)
    have e785 : I784 (ad g 4) 1 = w753 := by rw [eI784, pp_ne _ _ (Or.inl (lyx_ne hy (by decide) (by decide) (by decide)))]; exact e776
    have e786 : I784 (ad g 4) 2 = w754 := by rw [eI784, pp_ne _ _ (Or.inl (lyx_ne hy (by decide) (by decide) (by decide)))]; exact e777
    have e787 : I784 (ad g 6) 2 = v774 := by rw [eI784, pp_ne _ _ (Or.inr (by decide))]; exact e779
    have e788 : I784 (ad g 6) 4 = v783 := by rw [eI784, pp_self]
    have fI789 : FC g [6, 16, 17] I I784 := by rw [eI784]; exact FC_pp fI780 (by decide)
    exact WP_vret dX7_tellThing_47 rfl ⟨rfl, fI789, fJ0, rfl, by
      try simp only [e785, e786, e787, e788, ew753, ew754, ew755, ew756]
      rw [if_pos (by omega), eI784]
      exact RTX_w hy (by decide) hR4 0 4 _ _ (by decide) (by omega)⟩
set_option maxHeartbeats 4000000 in
set_option maxRecDepth 100000 in
theorem ex_namedb {g : GG} {I : pI} {J : pJ} {R : pR} (hy : LyX g) (hr : RfX g R) {nm : Nat → Int} {b k : Nat} (wd : Int64) (fr : Int32) (mn : Int32) (hf : fr.toInt = (b : Int)) (hk : mn.toInt = (k : Int)) (hbk : b + k ≤ 7) (hN : ∀ q, q < k → (J (ad g 41) (b + q)).toInt = nm (b + q)) : SP g mX7_named [.ref (ad g 27), .long wd, .int fr, .int mn] I J R (fun r I' J' R' => (I' = I ∧ J' = J ∧ R' = R) ∧ ∃ v : Int32, r = some (.int v) ∧ (v.toInt = fnd nm b wd.toInt k 0)) := by
  refine SP_of ⟨by decide, rfl⟩ (Nat.le_of_ble_eq_true rfl) ?_
  refine WQ_iconst (0) (0) dX7_named_0 rfl rfl (fun v790 hv790 => ?_)
  refine WP_istore (ls' := [(0, _), (1, _), (3, _), (4, _), (5, _)]) dX7_named_1 (by decide) rfl ?_
  have lp792 : ∀ (mz : Nat) (i791 : Int32), (∃ j : Nat, i791.toInt = (j : Int) ∧ j ≤ k ∧ fnd nm b wd.toInt (k - j) j = fnd nm b wd.toInt k 0) → (k - i791.toInt.toNat) < mz → WP g mX7_named 3 [(0, .ref (ad g 27)), (1, .long wd), (3, .int fr), (4, .int mn), (5, .int i791)] [] I J R (fun r I' J' R' => (I' = I ∧ J' = J ∧ R' = R) ∧ ∃ v : Int32, r = some (.int v) ∧ (v.toInt = fnd nm b wd.toInt k 0)) := by
    intro mz
    induction mz with
    | zero =>
      intro i791  hvlp792 hmlp792
      exact absurd hmlp792 (Nat.not_lt_zero _)
    | succ mz ihlp792 =>
      intro i791  hvlp792 hmlp792
      obtain ⟨j, ij, ijk, ifn⟩ := hvlp792
      refine WP_iload dX7_named_3 rfl ?_
      refine WP_iload dX7_named_5 rfl ?_
      refine WQ_icmp_ge 33 dX7_named_7 rfl (fun c792 => ?_) (fun c792 => ?_)
      · refine WQ_iconst (-1) (-1) dX7_named_33 rfl rfl (fun v794 hv794 => ?_)
        exact WP_iret dX7_named_34 rfl ⟨⟨rfl, rfl, rfl⟩, v794, rfl, by
          rw [← ifn, fnd_end (by omega)]; omega⟩
      · refine WP_aload_n dX7_named_10 rfl ?_
        refine WP_getr dX7_named_11 fX7_51 rfl (lyx_is hy 27 7 rfl) (rfx hr 27 18 41 (by decide)) ?_
        refine WP_iload_n dX7_named_14 rfl ?_
        refine WP_iload dX7_named_15 rfl ?_
        refine WQ_iadd dX7_named_17 (by omega) (by omega) (fun v795 hv795 => ?_)
        refine WE_la dX7_named_18 (lyx_is hy 41 14 rfl) (lyx_n hy 41 7 rfl) (by omega) (by omega) (fun l796 el796 => ?_)
        refine WP_lload_n dX7_named_19 rfl ?_
        have hn20 : l796.toInt = nm (b + j) := by
          rw [← el796, show v795.toInt.toNat = b + j by omega]
          exact hN j (by omega)
        refine WP_lcmp dX7_named_20 ?_
        obtain ⟨v797, xv797⟩ : ∃ v : Int32, v = lg_cmp l796 wd := ⟨_, rfl⟩
        rw [← xv797]
        have hv797 := cmp_z l796 wd v797 xv797
        refine WQ_if_ne 27 dX7_named_21 rfl (fun c797 => ?_) (fun c797 => ?_)
        · have hne : nm (b + j) ≠ wd.toInt := by intro e; omega
          refine WP_iinc (ls' := [(0, _), (1, _), (3, _), (4, _), (5, _)]) dX7_named_27 rfl (by decide) rfl ?_
          have hv799 : (i791 + Int32.ofInt (1)).toInt = i791.toInt + (1) := ia_n rfl (by omega) (by omega)
          generalize i791 + Int32.ofInt (1) = v799 at hv799 ⊢
          refine WP_goto 3 dX7_named_30 rfl ?_
          refine WP_sub (fc rfl (fc rfl (fc rfl (fc rfl (fc rfl fn))))) (ihlp792 v799  ?_ ?_)
          · refine ⟨j + 1, by omega, by omega, ?_⟩
            rw [← fnd_go (by omega) hne]; exact ifn
          · omega
        · refine WP_iload dX7_named_24 rfl ?_
          exact WP_iret dX7_named_26 rfl ⟨⟨rfl, rfl, rfl⟩, i791, rfl, by
            rw [← ifn, fnd_at (by omega) (by omega)]; omega⟩
  refine WP_sub (fc rfl (fc rfl (fc rfl (fc rfl (fc rfl fn))))) (lp792 _ v790  ?_ (Nat.lt_succ_self _))
  · exact ⟨0, by omega, by omega, rfl⟩
set_option maxHeartbeats 4000000 in
set_option maxRecDepth 100000 in
theorem ex_sortNamedb {g : GG} {I : pI} {J : pJ} {R : pR} (hy : LyX g) (hr : RfX g R) {S : TwS} (wd : Int64) (hR : RTX g 27 S I J) (hB : SBn S) : SP g mX7_sortNamed [.ref (ad g 27), .long wd] I J R (fun r I' J' R' => (I' = I ∧ J' = J ∧ R' = R) ∧ ∃ v : Int32, r = some (.int v) ∧ (v.toInt = fnS S wd.toInt)) := by
  refine SP_of ⟨by decide, rfl⟩ (Nat.le_of_ble_eq_true rfl) ?_
  have hs1 : (I (ad g 27) 1).toInt = S.1 0 1 := hR.1 0 1 (by decide) (by decide)
  obtain ⟨b1, b2, b3, b4⟩ := hB
  obtain ⟨w800, ew800⟩ : ∃ w : Int32, I (ad g 27) 1 = w := ⟨_, rfl⟩
  try simp only [ew800] at hs1
  refine WP_aload_n dX7_sortNamed_0 rfl ?_
  refine WP_lload_n dX7_sortNamed_1 rfl ?_
  refine WQ_iconst (0) (0) dX7_sortNamed_2 rfl rfl (fun v801 hv801 => ?_)
  refine WP_aload_n dX7_sortNamed_3 rfl ?_
  refine WQ_getim dX7_sortNamed_4 fX7_65 rfl (lyx_is hy 27 7 rfl) ew800 ?_
  refine WP_callV3 (k := 7) dX7_sortNamed_7 ⟨⟨⟨by decide, by decide⟩, zX7_named⟩, lX7_83, by decide, rfl, vX7_named.1, vX7_named.2⟩ (lyx_is hy 27 7 rfl) (ex_namedb hy hr _ _ _  (nm := S.1 14) (b := 0) (k := (S.1 0 1).toNat) (by omega) (by omega) (by omega) (fun q hq => hR.2.1 (0 + q) (by omega))) (Nat.le_of_ble_eq_true rfl) ?_
  intro r Ia Ja Ra hq
  obtain ⟨⟨ea, eb, ec⟩, v803, er, p802⟩ := hq
  rw [ea, eb, ec, er]
  clear ea eb ec er Ia Ja Ra r
  exact WP_iret dX7_sortNamed_10 rfl ⟨⟨rfl, rfl, rfl⟩, v803, rfl, by
    try simp only [ew800]
    exact p802⟩
set_option maxHeartbeats 4000000 in
set_option maxRecDepth 100000 in
theorem ex_thingNamedb {g : GG} {I : pI} {J : pJ} {R : pR} (hy : LyX g) (hr : RfX g R) {S : TwS} (wd : Int64) (hR : RTX g 27 S I J) (hB : SBn S) : SP g mX7_thingNamed [.ref (ad g 27), .long wd] I J R (fun r I' J' R' => (I' = I ∧ J' = J ∧ R' = R) ∧ ∃ v : Int32, r = some (.int v) ∧ (v.toInt = fnT S wd.toInt)) := by
  refine SP_of ⟨by decide, rfl⟩ (Nat.le_of_ble_eq_true rfl) ?_
  have hs2 : (I (ad g 27) 2).toInt = S.1 0 2 := hR.1 0 2 (by decide) (by decide)
  obtain ⟨b1, b2, b3, b4⟩ := hB
  obtain ⟨w804, ew804⟩ : ∃ w : Int32, I (ad g 27) 2 = w := ⟨_, rfl⟩
  try simp only [ew804] at hs2
  refine WP_aload_n dX7_thingNamed_0 rfl ?_
  refine WP_lload_n dX7_thingNamed_1 rfl ?_
  refine WQ_iconst (4) (4) dX7_thingNamed_2 rfl rfl (fun v805 hv805 => ?_)
  refine WP_aload_n dX7_thingNamed_3 rfl ?_
  refine WQ_getim dX7_thingNamed_4 fX7_68 rfl (lyx_is hy 27 7 rfl) ew804 ?_
  refine WP_callV3 (k := 7) dX7_thingNamed_7 ⟨⟨⟨by decide, by decide⟩, zX7_named⟩, lX7_83, by decide, rfl, vX7_named.1, vX7_named.2⟩ (lyx_is hy 27 7 rfl) (ex_namedb hy hr _ _ _  (nm := S.1 14) (b := 4) (k := (S.1 0 2).toNat) (by omega) (by omega) (by omega) (fun q hq => hR.2.1 (4 + q) (by omega))) (Nat.le_of_ble_eq_true rfl) ?_
  intro r Ia Ja Ra hq
  obtain ⟨⟨ea, eb, ec⟩, v807, er, p806⟩ := hq
  rw [ea, eb, ec, er]
  clear ea eb ec er Ia Ja Ra r
  exact WP_iret dX7_thingNamed_10 rfl ⟨⟨rfl, rfl, rfl⟩, v807, rfl, by
    try simp only [ew804]
    exact p806⟩
set_option maxHeartbeats 4000000 in
set_option maxRecDepth 100000 in
theorem ex_nameb {g : GG} {I : pI} {J : pJ} {R : pR} (hy : LyX g) (hr : RfX g R) {S : TwS} (os : Int32) (wd : Int64) (hR : RTX g 27 S I J) (hB : SBn S) (h4 : os.toInt ≠ 0 → S.1 0 1 < 4) (h3 : os.toInt = 0 → S.1 0 2 < 3) : SP g mX7_name [.ref (ad g 27), .int os, .long wd] I J R (fun r I' J' R' => R' = R ∧ FC g [] I I' ∧ FC g [41] J J' ∧ r = none ∧ ((os.toInt ≠ 0 → RTX g 27 (pp S.1 14 (S.1 0 1).toNat wd.toInt, S.2) I' J') ∧ (os.toInt = 0 → RTX g 27 (pp S.1 14 (4 + (S.1 0 2).toNat) wd.toInt, S.2) I' J'))) := by
  refine SP_of ⟨by decide, rfl⟩ (Nat.le_of_ble_eq_true rfl) ?_
  have fI0 : FC g [] I I := FC_rf
  have fJ0 : FC g [41] J J := FC_rf
  have hs1 : (I (ad g 27) 1).toInt = S.1 0 1 := hR.1 0 1 (by decide) (by decide)
  have hs2 : (I (ad g 27) 2).toInt = S.1 0 2 := hR.1 0 2 (by decide) (by decide)
  obtain ⟨b1, b2, b3, b4⟩ := hB
  obtain ⟨w808, ew808⟩ : ∃ w : Int32, I (ad g 27) 1 = w := ⟨_, rfl⟩
  obtain ⟨w809, ew809⟩ : ∃ w : Int32, I (ad g 27) 2 = w := ⟨_, rfl⟩
  try simp only [ew808, ew809] at hs1 hs2
  refine WP_aload_n dX7_name_0 rfl ?_
  refine WP_getr dX7_name_1 fX7_51 rfl (lyx_is hy 27 7 rfl) (rfx hr 27 18 41 (by decide)) ?_
  refine WP_iload_n dX7_name_4 rfl ?_
  refine WQ_if_eq 15 dX7_name_5 rfl (fun c809 => ?_) (fun c809 => ?_)
  · refine WQ_iconst (4) (4) dX7_name_15 rfl rfl (fun v811 hv811 => ?_)
    refine WP_aload_n dX7_name_16 rfl ?_
    refine WQ_getim dX7_name_17 fX7_68 rfl (lyx_is hy 27 7 rfl) ew809 ?_
    refine WQ_iadd dX7_name_20 (by omega) (by omega) (fun v812 hv812 => ?_)
    refine WP_lload_n dX7_name_21 rfl ?_
    refine WE_ls dX7_name_22 (lyx_is hy 41 14 rfl) (lyx_n hy 41 7 rfl) (by omega) (by omega) (fun J813 eJ813 => ?_)
    have fJ814 : FC g [41] J J813 := by rw [eJ813]; exact FC_pp fJ0 (by decide)
    exact WP_vret dX7_name_23 rfl ⟨rfl, fI0, fJ814, rfl, by
      try simp only [ew808, ew809]
      refine ⟨fun h => absurd h (by omega), fun _ => ?_⟩
      rw [eJ813, show v812.toInt.toNat = 4 + (S.1 0 2).toNat by omega]
      exact RTX_nm hR _ _ _ rfl⟩
  · refine WP_aload_n dX7_name_8 rfl ?_
    refine WQ_getim dX7_name_9 fX7_65 rfl (lyx_is hy 27 7 rfl) ew808 ?_
    refine WP_goto 21 dX7_name_12 rfl ?_
    refine WP_lload_n dX7_name_21 rfl ?_
    refine WE_ls dX7_name_22 (lyx_is hy 41 14 rfl) (lyx_n hy 41 7 rfl) (by omega) (by omega) (fun J815 eJ815 => ?_)
    have fJ816 : FC g [41] J J815 := by rw [eJ815]; exact FC_pp fJ0 (by decide)
    exact WP_vret dX7_name_23 rfl ⟨rfl, fI0, fJ816, rfl, by
      try simp only [ew808, ew809]
      refine ⟨fun _ => ?_, fun h => absurd h (by omega)⟩
      rw [eJ815, show w808.toInt.toNat = (S.1 0 1).toNat by omega]
      exact RTX_nm hR _ _ _ rfl⟩
set_option maxHeartbeats 4000000 in
set_option maxRecDepth 100000 in
theorem ex_isToldb {g : GG} {I : pI} {J : pJ} {R : pR} (hy : LyX g) (hr : RfX g R) {S : TwS} {ro d : Nat} (cl : Int32) (of : Int32) (da : Int32) (hR : RTX g 27 S I J) (hr1 : cl.toInt * 4 + of.toInt = (ro : Int)) (hr2 : ro < 48) (hc1 : -100 ≤ cl.toInt) (hc2 : cl.toInt ≤ 100) (hd : da.toInt = (d : Int)) (hd7 : d < 7) : SP g mX7_isTold [.ref (ad g 27), .int cl, .int of, .int da] I J R (fun r I' J' R' => (I' = I ∧ J' = J ∧ R' = R) ∧ ∃ v : Int32, r = some (.int v) ∧ ((v.toInt = 1 ∧ S.2 ro d = true) ∨ (v.toInt = 0 ∧ S.2 ro d = false))) := by
  refine SP_of ⟨by decide, rfl⟩ (Nat.le_of_ble_eq_true rfl) ?_
  refine WP_aload_n dX7_isTold_0 rfl ?_
  refine WP_getr dX7_isTold_1 fX7_55 rfl (lyx_is hy 27 7 rfl) (rfx hr 27 19 42 (by decide)) ?_
  refine WP_iload_n dX7_isTold_4 rfl ?_
  refine WQ_iconst (4) (4) dX7_isTold_5 rfl rfl (fun v817 hv817 => ?_)
  refine WQ_imulk (4) dX7_isTold_6 hv817 (by omega) (by omega) (fun v818 hv818 => ?_)
  refine WP_iload_n dX7_isTold_7 rfl ?_
  refine WQ_iadd dX7_isTold_8 (by omega) (by omega) (fun v819 hv819 => ?_)
  refine WE_ia dX7_isTold_9 (lyx_is hy 42 13 rfl) (lyx_n hy 42 48 rfl) (by omega) (by omega) (fun v820 ev820 => ?_)
  refine WP_iload_n dX7_isTold_10 rfl ?_
  refine WP_ishr dX7_isTold_11 ?_
  obtain ⟨v821, xv821⟩ : ∃ v : Int32, v = v820 >>> (da &&& 31) := ⟨_, rfl⟩
  rw [← xv821]
  refine WQ_iconst (1) (1) dX7_isTold_12 rfl rfl (fun v822 hv822 => ?_)
  refine WP_iand dX7_isTold_13 ?_
  obtain ⟨v823, xv823⟩ : ∃ v : Int32, v = v821 &&& v822 := ⟨_, rfl⟩
  rw [← xv823]
  have hq := tb_get hd7 hd xv821 hv822 xv823
  have hq2 : tb (I (ad g 42) ro) d = S.2 ro d := hR.2.2 ro hr2 d hd7
  have hq3 : I (ad g 42) ro = v820 := by rw [← show v819.toInt.toNat = ro by omega]; exact ev820
  rw [hq3] at hq2
  rw [hq2] at hq
  refine WQ_if_eq 21 dX7_isTold_14 rfl (fun c823 => ?_) (fun c823 => ?_)
  · refine WQ_iconst (0) (0) dX7_isTold_21 rfl rfl (fun v825 hv825 => ?_)
    exact WP_zret dX7_isTold_22 rfl (nar_z (by omega)) ⟨⟨rfl, rfl, rfl⟩, v825, rfl, by
      first
      | exact Or.inl ⟨by omega, hq.elim (fun z => z.1) (fun z => absurd z.2 (by omega))⟩
      | exact Or.inr ⟨by omega, hq.elim (fun z => absurd z.2 (by omega)) (fun z => z.1)⟩⟩
  · refine WQ_iconst (1) (1) dX7_isTold_17 rfl rfl (fun v826 hv826 => ?_)
    refine WP_goto 22 dX7_isTold_18 rfl ?_
    exact WP_zret dX7_isTold_22 rfl (nar_z (by omega)) ⟨⟨rfl, rfl, rfl⟩, v826, rfl, by
      first
      | exact Or.inl ⟨by omega, hq.elim (fun z => z.1) (fun z => absurd z.2 (by omega))⟩
      | exact Or.inr ⟨by omega, hq.elim (fun z => absurd z.2 (by omega)) (fun z => z.1)⟩⟩
set_option maxHeartbeats 4000000 in
set_option maxRecDepth 100000 in
theorem ex_holdb {g : GG} {I : pI} {J : pJ} {R : pR} (hy : LyX g) (hr : RfX g R) {S : TwS} {ro d : Nat} (cl : Int32) (of : Int32) (da : Int32) (hR : RTX g 27 S I J) (hr1 : cl.toInt * 4 + of.toInt = (ro : Int)) (hr2 : ro < 48) (hc1 : -100 ≤ cl.toInt) (hc2 : cl.toInt ≤ 100) (hd : da.toInt = (d : Int)) (hd7 : d < 7) : SP g mX7_hold [.ref (ad g 27), .int cl, .int of, .int da] I J R (fun r I' J' R' => R' = R ∧ FC g [42] I I' ∧ FC g [] J J' ∧ r = none ∧ (RTX g 27 (S.1, pp S.2 ro d true) I' J')) := by
  refine SP_of ⟨by decide, rfl⟩ (Nat.le_of_ble_eq_true rfl) ?_
  have fI0 : FC g [42] I I := FC_rf
  have fJ0 : FC g [] J J := FC_rf
  refine WP_aload_n dX7_hold_0 rfl ?_
  refine WP_getr dX7_hold_1 fX7_55 rfl (lyx_is hy 27 7 rfl) (rfx hr 27 19 42 (by decide)) ?_
  refine WP_iload_n dX7_hold_4 rfl ?_
  refine WQ_iconst (4) (4) dX7_hold_5 rfl rfl (fun v827 hv827 => ?_)
  refine WQ_imulk (4) dX7_hold_6 hv827 (by omega) (by omega) (fun v828 hv828 => ?_)
  refine WP_iload_n dX7_hold_7 rfl ?_
  refine WQ_iadd dX7_hold_8 (by omega) (by omega) (fun v829 hv829 => ?_)
  refine WP_dup2 dX7_hold_9 rfl rfl ?_
  refine WE_ia dX7_hold_10 (lyx_is hy 42 13 rfl) (lyx_n hy 42 48 rfl) (by omega) (by omega) (fun v830 ev830 => ?_)
  refine WQ_iconst (1) (1) dX7_hold_11 rfl rfl (fun v831 hv831 => ?_)
  refine WP_iload_n dX7_hold_12 rfl ?_
  refine WP_ishl dX7_hold_13 ?_
  obtain ⟨v832, xv832⟩ : ∃ v : Int32, v = v831 <<< (da &&& 31) := ⟨_, rfl⟩
  rw [← xv832]
  refine WP_ior dX7_hold_14 ?_
  obtain ⟨v833, xv833⟩ : ∃ v : Int32, v = v830 ||| v832 := ⟨_, rfl⟩
  rw [← xv833]
  refine WE_is dX7_hold_15 (lyx_is hy 42 13 rfl) (lyx_n hy 42 48 rfl) (by omega) (by omega) (fun I834 eI834 => ?_)
  have fI835 : FC g [42] I I834 := by rw [eI834]; exact FC_pp fI0 (by decide)
  exact WP_vret dX7_hold_16 rfl ⟨rfl, fI835, fJ0, rfl, by
    rw [eI834, show v829.toInt.toNat = ro by omega]
    refine RTX_hold hy (by decide) hR ro d _ (fun e he => ?_) hr2
    have hq3 : I (ad g 42) ro = v830 := by rw [← show v829.toInt.toNat = ro by omega]; exact ev830
    show tb _ e = (tb (I (ad g 42) ro) e || _)
    rw [hq3]
    exact tb_set hd7 he hd hv831 xv832 xv833⟩
set_option maxHeartbeats 4000000 in
set_option maxRecDepth 100000 in
theorem ex_faultAheadb {g : GG} {I : pI} {J : pJ} {R : pR} (hy : LyX g) (hr : RfX g R) {S : TwS} {c : Nat} (cl : Int32) (hR : RTX g 27 S I J) (hc : cl.toInt = (c : Int)) (hc9 : c < 10) : SP g mX7_faultAhead [.ref (ad g 27), .int cl] I J R (fun r I' J' R' => (I' = I ∧ J' = J ∧ R' = R) ∧ ∃ v : Int32, r = some (.int v) ∧ (v.toInt = (ahd c S : Nat))) := by
  refine SP_of ⟨by decide, rfl⟩ (Nat.le_of_ble_eq_true rfl) ?_
  have hs1 : (I (ad g 27) 1).toInt = S.1 0 1 := hR.1 0 1 (by decide) (by decide)
  have hs2 : (I (ad g 27) 2).toInt = S.1 0 2 := hR.1 0 2 (by decide) (by decide)
  obtain ⟨w836, ew836⟩ : ∃ w : Int32, I (ad g 27) 1 = w := ⟨_, rfl⟩
  obtain ⟨w837, ew837⟩ : ∃ w : Int32, I (ad g 27) 2 = w := ⟨_, rfl⟩
  try simp only [ew836, ew837] at hs1 hs2
  refine WP_iload_n dX7_faultAhead_0 rfl ?_
  refine WQ_iconst (1) (1) dX7_faultAhead_1 rfl rfl (fun v838 hv838 => ?_)
  refine WQ_icmp_ne 13 dX7_faultAhead_2 rfl (fun c838 => ?_) (fun c838 => ?_)
  · refine WP_iload_n dX7_faultAhead_13 rfl ?_
    refine WQ_iconst (2) (2) dX7_faultAhead_14 rfl rfl (fun v840 hv840 => ?_)
    refine WQ_icmp_ne 28 dX7_faultAhead_15 rfl (fun c840 => ?_) (fun c840 => ?_)
    · refine WP_iload_n dX7_faultAhead_28 rfl ?_
      refine WQ_bipush (8) (8) dX7_faultAhead_29 rfl rfl (fun v842 hv842 => ?_)
      refine WQ_icmp_eq 40 dX7_faultAhead_31 rfl (fun c842 => ?_) (fun c842 => ?_)
      · refine WP_aload_n dX7_faultAhead_40 rfl ?_
        refine WP_iload_n dX7_faultAhead_41 rfl ?_
        refine WQ_iconst (0) (0) dX7_faultAhead_42 rfl rfl (fun v844 hv844 => ?_)
        refine WQ_iconst (0) (0) dX7_faultAhead_43 rfl rfl (fun v845 hv845 => ?_)
        refine WP_callV3 (k := 7) dX7_faultAhead_44 ⟨⟨⟨by decide, by decide⟩, zX7_isTold⟩, lX7_87, by decide, rfl, vX7_isTold.1, vX7_isTold.2⟩ (lyx_is hy 27 7 rfl) (ex_isToldb hy hr _ _ _  (ro := c * 4) (d := 0) hR (by omega) (by omega) (by omega) (by omega) (by omega) (by decide)) (Nat.le_of_ble_eq_true rfl) ?_
        intro r Ia Ja Ra hq
        obtain ⟨⟨ea, eb, ec⟩, v847, er, p846⟩ := hq
        rw [ea, eb, ec, er]
        clear ea eb ec er Ia Ja Ra r
        refine WQ_if_eq 54 dX7_faultAhead_47 rfl (fun c847 => ?_) (fun c847 => ?_)
        · refine WQ_iconst (0) (0) dX7_faultAhead_54 rfl rfl (fun v849 hv849 => ?_)
          exact WP_iret dX7_faultAhead_55 rfl ⟨⟨rfl, rfl, rfl⟩, v849, rfl, by
            try simp only [ew836, ew837]
            unfold ahd
            rw [if_neg (by omega)]
            rcases p846 with ⟨h1, h2⟩ | ⟨h1, h2⟩
            · first
              | (rw [if_pos ⟨by omega, h2⟩]; omega)
              | exact absurd h1 (by omega)
            · first
              | (rw [if_neg (by rintro ⟨-, h3⟩; rw [h2] at h3; exact absurd h3 (by decide))]; omega)
              | exact absurd h1 (by omega)⟩
        · refine WQ_iconst (3) (3) dX7_faultAhead_50 rfl rfl (fun v850 hv850 => ?_)
          refine WP_goto 55 dX7_faultAhead_51 rfl ?_
          exact WP_iret dX7_faultAhead_55 rfl ⟨⟨rfl, rfl, rfl⟩, v850, rfl, by
            try simp only [ew836, ew837]
            unfold ahd
            rw [if_neg (by omega)]
            rcases p846 with ⟨h1, h2⟩ | ⟨h1, h2⟩
            · first
              | (rw [if_pos ⟨by omega, h2⟩]; omega)
              | exact absurd h1 (by omega)
            · first
              | (rw [if_neg (by rintro ⟨-, h3⟩; rw [h2] at h3; exact absurd h3 (by decide))]; omega)
              | exact absurd h1 (by omega)⟩
      · refine WP_iload_n dX7_faultAhead_34 rfl ?_
        refine WQ_bipush (9) (9) dX7_faultAhead_35 rfl rfl (fun v851 hv851 => ?_)
        refine WQ_icmp_ne 54 dX7_faultAhead_37 rfl (fun c851 => ?_) (fun c851 => ?_)
        · refine WQ_iconst (0) (0) dX7_faultAhead_54 rfl rfl (fun v853 hv853 => ?_)
          exact WP_iret dX7_faultAhead_55 rfl ⟨⟨rfl, rfl, rfl⟩, v853, rfl, by
            try simp only [ew836, ew837]
            unfold ahd
            rw [if_neg (by omega)]
            rw [if_neg (by rintro ⟨h3, -⟩; omega)]; omega⟩
        · refine WP_aload_n dX7_faultAhead_40 rfl ?_
          refine WP_iload_n dX7_faultAhead_41 rfl ?_
          refine WQ_iconst (0) (0) dX7_faultAhead_42 rfl rfl (fun v854 hv854 => ?_)
          refine WQ_iconst (0) (0) dX7_faultAhead_43 rfl rfl (fun v855 hv855 => ?_)
          refine WP_callV3 (k := 7) dX7_faultAhead_44 ⟨⟨⟨by decide, by decide⟩, zX7_isTold⟩, lX7_87, by decide, rfl, vX7_isTold.1, vX7_isTold.2⟩ (lyx_is hy 27 7 rfl) (ex_isToldb hy hr _ _ _  (ro := c * 4) (d := 0) hR (by omega) (by omega) (by omega) (by omega) (by omega) (by decide)) (Nat.le_of_ble_eq_true rfl) ?_
          intro r Ia Ja Ra hq
          obtain ⟨⟨ea, eb, ec⟩, v857, er, p856⟩ := hq
          rw [ea, eb, ec, er]
          clear ea eb ec er Ia Ja Ra r
          refine WQ_if_eq 54 dX7_faultAhead_47 rfl (fun c857 => ?_) (fun c857 => ?_)
          · refine WQ_iconst (0) (0) dX7_faultAhead_54 rfl rfl (fun v859 hv859 => ?_)
            exact WP_iret dX7_faultAhead_55 rfl ⟨⟨rfl, rfl, rfl⟩, v859, rfl, by
              try simp only [ew836, ew837]
              unfold ahd
              rw [if_neg (by omega)]
              rcases p856 with ⟨h1, h2⟩ | ⟨h1, h2⟩
              · first
                | (rw [if_pos ⟨by omega, h2⟩]; omega)
                | exact absurd h1 (by omega)
              · first
                | (rw [if_neg (by rintro ⟨-, h3⟩; rw [h2] at h3; exact absurd h3 (by decide))]; omega)
                | exact absurd h1 (by omega)⟩
          · refine WQ_iconst (3) (3) dX7_faultAhead_50 rfl rfl (fun v860 hv860 => ?_)
            refine WP_goto 55 dX7_faultAhead_51 rfl ?_
            exact WP_iret dX7_faultAhead_55 rfl ⟨⟨rfl, rfl, rfl⟩, v860, rfl, by
              try simp only [ew836, ew837]
              unfold ahd
              rw [if_neg (by omega)]
              rcases p856 with ⟨h1, h2⟩ | ⟨h1, h2⟩
              · first
                | (rw [if_pos ⟨by omega, h2⟩]; omega)
                | exact absurd h1 (by omega)
              · first
                | (rw [if_neg (by rintro ⟨-, h3⟩; rw [h2] at h3; exact absurd h3 (by decide))]; omega)
                | exact absurd h1 (by omega)⟩
    · refine WP_aload_n dX7_faultAhead_18 rfl ?_
      refine WQ_getim dX7_faultAhead_19 fX7_68 rfl (lyx_is hy 27 7 rfl) ew837 ?_
      refine WQ_iconst (3) (3) dX7_faultAhead_22 rfl rfl (fun v861 hv861 => ?_)
      refine WQ_icmp_ne 28 dX7_faultAhead_23 rfl (fun c861 => ?_) (fun c861 => ?_)
      · refine WP_iload_n dX7_faultAhead_28 rfl ?_
        refine WQ_bipush (8) (8) dX7_faultAhead_29 rfl rfl (fun v863 hv863 => ?_)
        refine WQ_icmp_eq 40 dX7_faultAhead_31 rfl (fun c863 => ?_) (fun c863 => ?_)
        · refine WP_aload_n dX7_faultAhead_40 rfl ?_
          refine WP_iload_n dX7_faultAhead_41 rfl ?_
          refine WQ_iconst (0) (0) dX7_faultAhead_42 rfl rfl (fun v865 hv865 => ?_)
          refine WQ_iconst (0) (0) dX7_faultAhead_43 rfl rfl (fun v866 hv866 => ?_)
          refine WP_callV3 (k := 7) dX7_faultAhead_44 ⟨⟨⟨by decide, by decide⟩, zX7_isTold⟩, lX7_87, by decide, rfl, vX7_isTold.1, vX7_isTold.2⟩ (lyx_is hy 27 7 rfl) (ex_isToldb hy hr _ _ _  (ro := c * 4) (d := 0) hR (by omega) (by omega) (by omega) (by omega) (by omega) (by decide)) (Nat.le_of_ble_eq_true rfl) ?_
          intro r Ia Ja Ra hq
          obtain ⟨⟨ea, eb, ec⟩, v868, er, p867⟩ := hq
          rw [ea, eb, ec, er]
          clear ea eb ec er Ia Ja Ra r
          refine WQ_if_eq 54 dX7_faultAhead_47 rfl (fun c868 => ?_) (fun c868 => ?_)
          · refine WQ_iconst (0) (0) dX7_faultAhead_54 rfl rfl (fun v870 hv870 => ?_)
            exact WP_iret dX7_faultAhead_55 rfl ⟨⟨rfl, rfl, rfl⟩, v870, rfl, by
              try simp only [ew836, ew837]
              unfold ahd
              rw [if_neg (by omega)]
              rcases p867 with ⟨h1, h2⟩ | ⟨h1, h2⟩
              · first
                | (rw [if_pos ⟨by omega, h2⟩]; omega)
                | exact absurd h1 (by omega)
              · first
                | (rw [if_neg (by rintro ⟨-, h3⟩; rw [h2] at h3; exact absurd h3 (by decide))]; omega)
                | exact absurd h1 (by omega)⟩
          · refine WQ_iconst (3) (3) dX7_faultAhead_50 rfl rfl (fun v871 hv871 => ?_)
            refine WP_goto 55 dX7_faultAhead_51 rfl ?_
            exact WP_iret dX7_faultAhead_55 rfl ⟨⟨rfl, rfl, rfl⟩, v871, rfl, by
              try simp only [ew836, ew837]
              unfold ahd
              rw [if_neg (by omega)]
              rcases p867 with ⟨h1, h2⟩ | ⟨h1, h2⟩
              · first
                | (rw [if_pos ⟨by omega, h2⟩]; omega)
                | exact absurd h1 (by omega)
              · first
                | (rw [if_neg (by rintro ⟨-, h3⟩; rw [h2] at h3; exact absurd h3 (by decide))]; omega)
                | exact absurd h1 (by omega)⟩
        · refine WP_iload_n dX7_faultAhead_34 rfl ?_
          refine WQ_bipush (9) (9) dX7_faultAhead_35 rfl rfl (fun v872 hv872 => ?_)
          refine WQ_icmp_ne 54 dX7_faultAhead_37 rfl (fun c872 => ?_) (fun c872 => ?_)
          · refine WQ_iconst (0) (0) dX7_faultAhead_54 rfl rfl (fun v874 hv874 => ?_)
            exact WP_iret dX7_faultAhead_55 rfl ⟨⟨rfl, rfl, rfl⟩, v874, rfl, by
              try simp only [ew836, ew837]
              unfold ahd
              rw [if_neg (by omega)]
              rw [if_neg (by rintro ⟨h3, -⟩; omega)]; omega⟩
          · refine WP_aload_n dX7_faultAhead_40 rfl ?_
            refine WP_iload_n dX7_faultAhead_41 rfl ?_
            refine WQ_iconst (0) (0) dX7_faultAhead_42 rfl rfl (fun v875 hv875 => ?_)
            refine WQ_iconst (0) (0) dX7_faultAhead_43 rfl rfl (fun v876 hv876 => ?_)
            refine WP_callV3 (k := 7) dX7_faultAhead_44 ⟨⟨⟨by decide, by decide⟩, zX7_isTold⟩, lX7_87, by decide, rfl, vX7_isTold.1, vX7_isTold.2⟩ (lyx_is hy 27 7 rfl) (ex_isToldb hy hr _ _ _  (ro := c * 4) (d := 0) hR (by omega) (by omega) (by omega) (by omega) (by omega) (by decide)) (Nat.le_of_ble_eq_true rfl) ?_
            intro r Ia Ja Ra hq
            obtain ⟨⟨ea, eb, ec⟩, v878, er, p877⟩ := hq
            rw [ea, eb, ec, er]
            clear ea eb ec er Ia Ja Ra r
            refine WQ_if_eq 54 dX7_faultAhead_47 rfl (fun c878 => ?_) (fun c878 => ?_)
            · refine WQ_iconst (0) (0) dX7_faultAhead_54 rfl rfl (fun v880 hv880 => ?_)
              exact WP_iret dX7_faultAhead_55 rfl ⟨⟨rfl, rfl, rfl⟩, v880, rfl, by
                try simp only [ew836, ew837]
                unfold ahd
                rw [if_neg (by omega)]
                rcases p877 with ⟨h1, h2⟩ | ⟨h1, h2⟩
                · first
                  | (rw [if_pos ⟨by omega, h2⟩]; omega)
                  | exact absurd h1 (by omega)
                · first
                  | (rw [if_neg (by rintro ⟨-, h3⟩; rw [h2] at h3; exact absurd h3 (by decide))]; omega)
                  | exact absurd h1 (by omega)⟩
            · refine WQ_iconst (3) (3) dX7_faultAhead_50 rfl rfl (fun v881 hv881 => ?_)
              refine WP_goto 55 dX7_faultAhead_51 rfl ?_
              exact WP_iret dX7_faultAhead_55 rfl ⟨⟨rfl, rfl, rfl⟩, v881, rfl, by
                try simp only [ew836, ew837]
                unfold ahd
                rw [if_neg (by omega)]
                rcases p877 with ⟨h1, h2⟩ | ⟨h1, h2⟩
                · first
                  | (rw [if_pos ⟨by omega, h2⟩]; omega)
                  | exact absurd h1 (by omega)
                · first
                  | (rw [if_neg (by rintro ⟨-, h3⟩; rw [h2] at h3; exact absurd h3 (by decide))]; omega)
                  | exact absurd h1 (by omega)⟩
      · refine WQ_iconst (4) (4) dX7_faultAhead_26 rfl rfl (fun v882 hv882 => ?_)
        exact WP_iret dX7_faultAhead_27 rfl ⟨⟨rfl, rfl, rfl⟩, v882, rfl, by
          try simp only [ew836, ew837]
          unfold ahd
          rw [if_pos (by omega)]; omega⟩
  · refine WP_aload_n dX7_faultAhead_5 rfl ?_
    refine WQ_getim dX7_faultAhead_6 fX7_65 rfl (lyx_is hy 27 7 rfl) ew836 ?_
    refine WQ_iconst (4) (4) dX7_faultAhead_9 rfl rfl (fun v883 hv883 => ?_)
    refine WQ_icmp_eq 26 dX7_faultAhead_10 rfl (fun c883 => ?_) (fun c883 => ?_)
    · refine WQ_iconst (4) (4) dX7_faultAhead_26 rfl rfl (fun v885 hv885 => ?_)
      exact WP_iret dX7_faultAhead_27 rfl ⟨⟨rfl, rfl, rfl⟩, v885, rfl, by
        try simp only [ew836, ew837]
        unfold ahd
        rw [if_pos (by omega)]; omega⟩
    · refine WP_iload_n dX7_faultAhead_13 rfl ?_
      refine WQ_iconst (2) (2) dX7_faultAhead_14 rfl rfl (fun v886 hv886 => ?_)
      refine WQ_icmp_ne 28 dX7_faultAhead_15 rfl (fun c886 => ?_) (fun c886 => ?_)
      · refine WP_iload_n dX7_faultAhead_28 rfl ?_
        refine WQ_bipush (8) (8) dX7_faultAhead_29 rfl rfl (fun v888 hv888 => ?_)
        refine WQ_icmp_eq 40 dX7_faultAhead_31 rfl (fun c888 => ?_) (fun c888 => ?_)
        · refine WP_aload_n dX7_faultAhead_40 rfl ?_
          refine WP_iload_n dX7_faultAhead_41 rfl ?_
          refine WQ_iconst (0) (0) dX7_faultAhead_42 rfl rfl (fun v890 hv890 => ?_)
          refine WQ_iconst (0) (0) dX7_faultAhead_43 rfl rfl (fun v891 hv891 => ?_)
          refine WP_callV3 (k := 7) dX7_faultAhead_44 ⟨⟨⟨by decide, by decide⟩, zX7_isTold⟩, lX7_87, by decide, rfl, vX7_isTold.1, vX7_isTold.2⟩ (lyx_is hy 27 7 rfl) (ex_isToldb hy hr _ _ _  (ro := c * 4) (d := 0) hR (by omega) (by omega) (by omega) (by omega) (by omega) (by decide)) (Nat.le_of_ble_eq_true rfl) ?_
          intro r Ia Ja Ra hq
          obtain ⟨⟨ea, eb, ec⟩, v893, er, p892⟩ := hq
          rw [ea, eb, ec, er]
          clear ea eb ec er Ia Ja Ra r
          refine WQ_if_eq 54 dX7_faultAhead_47 rfl (fun c893 => ?_) (fun c893 => ?_)
          · refine WQ_iconst (0) (0) dX7_faultAhead_54 rfl rfl (fun v895 hv895 => ?_)
            exact WP_iret dX7_faultAhead_55 rfl ⟨⟨rfl, rfl, rfl⟩, v895, rfl, by
              try simp only [ew836, ew837]
              unfold ahd
              rw [if_neg (by omega)]
              rcases p892 with ⟨h1, h2⟩ | ⟨h1, h2⟩
              · first
                | (rw [if_pos ⟨by omega, h2⟩]; omega)
                | exact absurd h1 (by omega)
              · first
                | (rw [if_neg (by rintro ⟨-, h3⟩; rw [h2] at h3; exact absurd h3 (by decide))]; omega)
                | exact absurd h1 (by omega)⟩
          · refine WQ_iconst (3) (3) dX7_faultAhead_50 rfl rfl (fun v896 hv896 => ?_)
            refine WP_goto 55 dX7_faultAhead_51 rfl ?_
            exact WP_iret dX7_faultAhead_55 rfl ⟨⟨rfl, rfl, rfl⟩, v896, rfl, by
              try simp only [ew836, ew837]
              unfold ahd
              rw [if_neg (by omega)]
              rcases p892 with ⟨h1, h2⟩ | ⟨h1, h2⟩
              · first
                | (rw [if_pos ⟨by omega, h2⟩]; omega)
                | exact absurd h1 (by omega)
              · first
                | (rw [if_neg (by rintro ⟨-, h3⟩; rw [h2] at h3; exact absurd h3 (by decide))]; omega)
                | exact absurd h1 (by omega)⟩
        · refine WP_iload_n dX7_faultAhead_34 rfl ?_
          refine WQ_bipush (9) (9) dX7_faultAhead_35 rfl rfl (fun v897 hv897 => ?_)
          refine WQ_icmp_ne 54 dX7_faultAhead_37 rfl (fun c897 => ?_) (fun c897 => ?_)
          · refine WQ_iconst (0) (0) dX7_faultAhead_54 rfl rfl (fun v899 hv899 => ?_)
            exact WP_iret dX7_faultAhead_55 rfl ⟨⟨rfl, rfl, rfl⟩, v899, rfl, by
              try simp only [ew836, ew837]
              unfold ahd
              rw [if_neg (by omega)]
              rw [if_neg (by rintro ⟨h3, -⟩; omega)]; omega⟩
          · refine WP_aload_n dX7_faultAhead_40 rfl ?_
            refine WP_iload_n dX7_faultAhead_41 rfl ?_
            refine WQ_iconst (0) (0) dX7_faultAhead_42 rfl rfl (fun v900 hv900 => ?_)
            refine WQ_iconst (0) (0) dX7_faultAhead_43 rfl rfl (fun v901 hv901 => ?_)
            refine WP_callV3 (k := 7) dX7_faultAhead_44 ⟨⟨⟨by decide, by decide⟩, zX7_isTold⟩, lX7_87, by decide, rfl, vX7_isTold.1, vX7_isTold.2⟩ (lyx_is hy 27 7 rfl) (ex_isToldb hy hr _ _ _  (ro := c * 4) (d := 0) hR (by omega) (by omega) (by omega) (by omega) (by omega) (by decide)) (Nat.le_of_ble_eq_true rfl) ?_
            intro r Ia Ja Ra hq
            obtain ⟨⟨ea, eb, ec⟩, v903, er, p902⟩ := hq
            rw [ea, eb, ec, er]
            clear ea eb ec er Ia Ja Ra r
            refine WQ_if_eq 54 dX7_faultAhead_47 rfl (fun c903 => ?_) (fun c903 => ?_)
            · refine WQ_iconst (0) (0) dX7_faultAhead_54 rfl rfl (fun v905 hv905 => ?_)
              exact WP_iret dX7_faultAhead_55 rfl ⟨⟨rfl, rfl, rfl⟩, v905, rfl, by
                try simp only [ew836, ew837]
                unfold ahd
                rw [if_neg (by omega)]
                rcases p902 with ⟨h1, h2⟩ | ⟨h1, h2⟩
                · first
                  | (rw [if_pos ⟨by omega, h2⟩]; omega)
                  | exact absurd h1 (by omega)
                · first
                  | (rw [if_neg (by rintro ⟨-, h3⟩; rw [h2] at h3; exact absurd h3 (by decide))]; omega)
                  | exact absurd h1 (by omega)⟩
            · refine WQ_iconst (3) (3) dX7_faultAhead_50 rfl rfl (fun v906 hv906 => ?_)
              refine WP_goto 55 dX7_faultAhead_51 rfl ?_
              exact WP_iret dX7_faultAhead_55 rfl ⟨⟨rfl, rfl, rfl⟩, v906, rfl, by
                try simp only [ew836, ew837]
                unfold ahd
                rw [if_neg (by omega)]
                rcases p902 with ⟨h1, h2⟩ | ⟨h1, h2⟩
                · first
                  | (rw [if_pos ⟨by omega, h2⟩]; omega)
                  | exact absurd h1 (by omega)
                · first
                  | (rw [if_neg (by rintro ⟨-, h3⟩; rw [h2] at h3; exact absurd h3 (by decide))]; omega)
                  | exact absurd h1 (by omega)⟩
      · refine WP_aload_n dX7_faultAhead_18 rfl ?_
        refine WQ_getim dX7_faultAhead_19 fX7_68 rfl (lyx_is hy 27 7 rfl) ew837 ?_
        refine WQ_iconst (3) (3) dX7_faultAhead_22 rfl rfl (fun v907 hv907 => ?_)
        refine WQ_icmp_ne 28 dX7_faultAhead_23 rfl (fun c907 => ?_) (fun c907 => ?_)
        · refine WP_iload_n dX7_faultAhead_28 rfl ?_
          refine WQ_bipush (8) (8) dX7_faultAhead_29 rfl rfl (fun v909 hv909 => ?_)
          refine WQ_icmp_eq 40 dX7_faultAhead_31 rfl (fun c909 => ?_) (fun c909 => ?_)
          · refine WP_aload_n dX7_faultAhead_40 rfl ?_
            refine WP_iload_n dX7_faultAhead_41 rfl ?_
            refine WQ_iconst (0) (0) dX7_faultAhead_42 rfl rfl (fun v911 hv911 => ?_)
            refine WQ_iconst (0) (0) dX7_faultAhead_43 rfl rfl (fun v912 hv912 => ?_)
            refine WP_callV3 (k := 7) dX7_faultAhead_44 ⟨⟨⟨by decide, by decide⟩, zX7_isTold⟩, lX7_87, by decide, rfl, vX7_isTold.1, vX7_isTold.2⟩ (lyx_is hy 27 7 rfl) (ex_isToldb hy hr _ _ _  (ro := c * 4) (d := 0) hR (by omega) (by omega) (by omega) (by omega) (by omega) (by decide)) (Nat.le_of_ble_eq_true rfl) ?_
            intro r Ia Ja Ra hq
            obtain ⟨⟨ea, eb, ec⟩, v914, er, p913⟩ := hq
            rw [ea, eb, ec, er]
            clear ea eb ec er Ia Ja Ra r
            refine WQ_if_eq 54 dX7_faultAhead_47 rfl (fun c914 => ?_) (fun c914 => ?_)
            · refine WQ_iconst (0) (0) dX7_faultAhead_54 rfl rfl (fun v916 hv916 => ?_)
              exact WP_iret dX7_faultAhead_55 rfl ⟨⟨rfl, rfl, rfl⟩, v916, rfl, by
                try simp only [ew836, ew837]
                unfold ahd
                rw [if_neg (by omega)]
                rcases p913 with ⟨h1, h2⟩ | ⟨h1, h2⟩
                · first
                  | (rw [if_pos ⟨by omega, h2⟩]; omega)
                  | exact absurd h1 (by omega)
                · first
                  | (rw [if_neg (by rintro ⟨-, h3⟩; rw [h2] at h3; exact absurd h3 (by decide))]; omega)
                  | exact absurd h1 (by omega)⟩
            · refine WQ_iconst (3) (3) dX7_faultAhead_50 rfl rfl (fun v917 hv917 => ?_)
              refine WP_goto 55 dX7_faultAhead_51 rfl ?_
              exact WP_iret dX7_faultAhead_55 rfl ⟨⟨rfl, rfl, rfl⟩, v917, rfl, by
                try simp only [ew836, ew837]
                unfold ahd
                rw [if_neg (by omega)]
                rcases p913 with ⟨h1, h2⟩ | ⟨h1, h2⟩
                · first
                  | (rw [if_pos ⟨by omega, h2⟩]; omega)
                  | exact absurd h1 (by omega)
                · first
                  | (rw [if_neg (by rintro ⟨-, h3⟩; rw [h2] at h3; exact absurd h3 (by decide))]; omega)
                  | exact absurd h1 (by omega)⟩
          · refine WP_iload_n dX7_faultAhead_34 rfl ?_
            refine WQ_bipush (9) (9) dX7_faultAhead_35 rfl rfl (fun v918 hv918 => ?_)
            refine WQ_icmp_ne 54 dX7_faultAhead_37 rfl (fun c918 => ?_) (fun c918 => ?_)
            · refine WQ_iconst (0) (0) dX7_faultAhead_54 rfl rfl (fun v920 hv920 => ?_)
              exact WP_iret dX7_faultAhead_55 rfl ⟨⟨rfl, rfl, rfl⟩, v920, rfl, by
                try simp only [ew836, ew837]
                unfold ahd
                rw [if_neg (by omega)]
                rw [if_neg (by rintro ⟨h3, -⟩; omega)]; omega⟩
            · refine WP_aload_n dX7_faultAhead_40 rfl ?_
              refine WP_iload_n dX7_faultAhead_41 rfl ?_
              refine WQ_iconst (0) (0) dX7_faultAhead_42 rfl rfl (fun v921 hv921 => ?_)
              refine WQ_iconst (0) (0) dX7_faultAhead_43 rfl rfl (fun v922 hv922 => ?_)
              refine WP_callV3 (k := 7) dX7_faultAhead_44 ⟨⟨⟨by decide, by decide⟩, zX7_isTold⟩, lX7_87, by decide, rfl, vX7_isTold.1, vX7_isTold.2⟩ (lyx_is hy 27 7 rfl) (ex_isToldb hy hr _ _ _  (ro := c * 4) (d := 0) hR (by omega) (by omega) (by omega) (by omega) (by omega) (by decide)) (Nat.le_of_ble_eq_true rfl) ?_
              intro r Ia Ja Ra hq
              obtain ⟨⟨ea, eb, ec⟩, v924, er, p923⟩ := hq
              rw [ea, eb, ec, er]
              clear ea eb ec er Ia Ja Ra r
              refine WQ_if_eq 54 dX7_faultAhead_47 rfl (fun c924 => ?_) (fun c924 => ?_)
              · refine WQ_iconst (0) (0) dX7_faultAhead_54 rfl rfl (fun v926 hv926 => ?_)
                exact WP_iret dX7_faultAhead_55 rfl ⟨⟨rfl, rfl, rfl⟩, v926, rfl, by
                  try simp only [ew836, ew837]
                  unfold ahd
                  rw [if_neg (by omega)]
                  rcases p923 with ⟨h1, h2⟩ | ⟨h1, h2⟩
                  · first
                    | (rw [if_pos ⟨by omega, h2⟩]; omega)
                    | exact absurd h1 (by omega)
                  · first
                    | (rw [if_neg (by rintro ⟨-, h3⟩; rw [h2] at h3; exact absurd h3 (by decide))]; omega)
                    | exact absurd h1 (by omega)⟩
              · refine WQ_iconst (3) (3) dX7_faultAhead_50 rfl rfl (fun v927 hv927 => ?_)
                refine WP_goto 55 dX7_faultAhead_51 rfl ?_
                exact WP_iret dX7_faultAhead_55 rfl ⟨⟨rfl, rfl, rfl⟩, v927, rfl, by
                  try simp only [ew836, ew837]
                  unfold ahd
                  rw [if_neg (by omega)]
                  rcases p923 with ⟨h1, h2⟩ | ⟨h1, h2⟩
                  · first
                    | (rw [if_pos ⟨by omega, h2⟩]; omega)
                    | exact absurd h1 (by omega)
                  · first
                    | (rw [if_neg (by rintro ⟨-, h3⟩; rw [h2] at h3; exact absurd h3 (by decide))]; omega)
                    | exact absurd h1 (by omega)⟩
        · refine WQ_iconst (4) (4) dX7_faultAhead_26 rfl rfl (fun v928 hv928 => ?_)
          exact WP_iret dX7_faultAhead_27 rfl ⟨⟨rfl, rfl, rfl⟩, v928, rfl, by
            try simp only [ew836, ew837]
            unfold ahd
            rw [if_pos (by omega)]; omega⟩
set_option maxHeartbeats 4000000 in
set_option maxRecDepth 100000 in
theorem ex_tellLossb {g : GG} {I : pI} {J : pJ} {R : pR} (hy : LyX g) (hr : RfX g R) {S : TwS} {d : Nat} (da : Int32) (lo : Int32) (hR : RTX g 27 S I J) (hd : da.toInt = (d : Int)) (hd7 : d < 7) : SP g mX7_tellLoss [.ref (ad g 27), .int da, .int lo] I J R (fun r I' J' R' => R' = R ∧ FC g [28, 42] I I' ∧ FC g [] J J' ∧ r = none ∧ (RTX g 27 (pp S.1 1 d lo.toInt, pp S.2 0 d true) I' J')) := by
  refine SP_of ⟨by decide, rfl⟩ (Nat.le_of_ble_eq_true rfl) ?_
  have fI0 : FC g [28, 42] I I := FC_rf
  have fJ0 : FC g [] J J := FC_rf
  refine WP_aload_n dX7_tellLoss_0 rfl ?_
  refine WP_getr dX7_tellLoss_1 fX7_9 rfl (lyx_is hy 27 7 rfl) (rfx hr 27 5 28 (by decide)) ?_
  refine WP_iload_n dX7_tellLoss_4 rfl ?_
  refine WP_iload_n dX7_tellLoss_5 rfl ?_
  refine WE_is dX7_tellLoss_6 (lyx_is hy 28 13 rfl) (lyx_n hy 28 7 rfl) (by omega) (by omega) (fun I929 eI929 => ?_)
  have fI930 : FC g [28, 42] I I929 := by rw [eI929]; exact FC_pp fI0 (by decide)
  have hR2 : RTX g 27 (pp S.1 1 d lo.toInt, S.2) I929 J := by
    rw [eI929, show da.toInt.toNat = d by omega]
    exact RTX_w hy (by decide) hR 1 d _ _ (by decide) (rfl)
  refine WP_aload_n dX7_tellLoss_7 rfl ?_
  refine WQ_iconst (0) (0) dX7_tellLoss_8 rfl rfl (fun v931 hv931 => ?_)
  refine WQ_iconst (0) (0) dX7_tellLoss_9 rfl rfl (fun v932 hv932 => ?_)
  refine WP_iload_n dX7_tellLoss_10 rfl ?_
  refine WP_callV3 (k := 7) dX7_tellLoss_11 ⟨⟨⟨by decide, by decide⟩, zX7_hold⟩, lX7_109, by decide, rfl, vX7_hold.1, vX7_hold.2⟩ (lyx_is hy 27 7 rfl) (ex_holdb hy hr _ _ _  (ro := 0) (d := d) hR2 (by omega) (by decide) (by omega) (by omega) hd hd7) (Nat.le_of_ble_eq_true rfl) ?_
  intro r I934 J935 Ra hq
  obtain ⟨ec, g936, g937, er, p933⟩ := hq
  rw [ec, er]
  clear ec er Ra r
  have fI939 : FC g [28, 42] I I934 := FC_tr fI930 (FC_mono g936 (by decide))
  have fJ940 : FC g [] J J935 := FC_tr fJ0 (FC_mono g937 (by decide))
  exact WP_vret dX7_tellLoss_14 rfl ⟨rfl, fI939, fJ940, rfl, by
    exact p933⟩
set_option maxHeartbeats 4000000 in
set_option maxRecDepth 100000 in
theorem ex_tellOn3b {g : GG} {I : pI} {J : pJ} {R : pR} (hy : LyX g) (hr : RfX g R) {S : TwS} {P : Nat → Int} (cl : Int32) (hR : RTX g 27 S I J) (hcl : cl.toInt = 3) (hP : PRX g P 0 3 I) (h0 : 0 ≤ P 0 ∧ P 0 < 4) (h1 : 0 ≤ P 1 ∧ P 1 < 7) : SP g mX7_tellOn [.ref (ad g 27), .ref (ad g 33), .int cl, .ref (ad g 4)] I J R (fun r I' J' R' => R' = R ∧ FC g [33, 42] I I' ∧ FC g [] J J' ∧ r = none ∧ (RTX g 27 (pp S.1 6 ((P 0).toNat * 7 + (P 1).toNat) (P 2), pp S.2 (12 + (P 0).toNat) (P 1).toNat true) I' J')) := by
  refine SP_of ⟨by decide, rfl⟩ (Nat.le_of_ble_eq_true rfl) ?_
  have fI0 : FC g [33, 42] I I := FC_rf
  have fJ0 : FC g [] J J := FC_rf
  have q0 := hP 0 (by decide) (by decide)
  have q1 := hP 1 (by decide) (by decide)
  have q2 := hP 2 (by decide) (by decide)
  obtain ⟨w941, ew941⟩ : ∃ w : Int32, I (ad g 4) 0 = w := ⟨_, rfl⟩
  obtain ⟨w942, ew942⟩ : ∃ w : Int32, I (ad g 4) 1 = w := ⟨_, rfl⟩
  obtain ⟨w943, ew943⟩ : ∃ w : Int32, I (ad g 4) 2 = w := ⟨_, rfl⟩
  try simp only [ew941, ew942, ew943] at q0 q1 q2
  refine WP_aload_n dX7_tellOn_0 rfl ?_
  refine WP_aload_n dX7_tellOn_1 rfl ?_
  refine WQ_iconst (0) (0) dX7_tellOn_2 rfl rfl (fun v944 hv944 => ?_)
  refine WE_iak (z := 0) dX7_tellOn_3 (lyx_is hy 4 13 rfl) (lyx_n hy 4 5 rfl) hv944 (by decide) ew941 ?_
  refine WQ_bipush (7) (7) dX7_tellOn_4 rfl rfl (fun v946 hv946 => ?_)
  refine WQ_imulk (7) dX7_tellOn_6 hv946 (by omega) (by omega) (fun v947 hv947 => ?_)
  refine WP_aload_n dX7_tellOn_7 rfl ?_
  refine WQ_iconst (1) (1) dX7_tellOn_8 rfl rfl (fun v948 hv948 => ?_)
  refine WE_iak (z := 1) dX7_tellOn_9 (lyx_is hy 4 13 rfl) (lyx_n hy 4 5 rfl) hv948 (by decide) ew942 ?_
  refine WQ_iadd dX7_tellOn_10 (by omega) (by omega) (fun v950 hv950 => ?_)
  refine WP_aload_n dX7_tellOn_11 rfl ?_
  refine WQ_iconst (2) (2) dX7_tellOn_12 rfl rfl (fun v951 hv951 => ?_)
  refine WE_iak (z := 2) dX7_tellOn_13 (lyx_is hy 4 13 rfl) (lyx_n hy 4 5 rfl) hv951 (by decide) ew943 ?_
  refine WE_is dX7_tellOn_14 (lyx_is hy 33 13 rfl) (lyx_n hy 33 28 rfl) (by omega) (by omega) (fun I953 eI953 => ?_)
  have e954 : I953 (ad g 4) 0 = w941 := by rw [eI953, pp_ne _ _ (Or.inl (lyx_ne hy (by decide) (by decide) (by decide)))]; exact ew941
  have e955 : I953 (ad g 4) 1 = w942 := by rw [eI953, pp_ne _ _ (Or.inl (lyx_ne hy (by decide) (by decide) (by decide)))]; exact ew942
  have e956 : I953 (ad g 4) 2 = w943 := by rw [eI953, pp_ne _ _ (Or.inl (lyx_ne hy (by decide) (by decide) (by decide)))]; exact ew943
  have fI957 : FC g [33, 42] I I953 := by rw [eI953]; exact FC_pp fI0 (by decide)
  have hR2 : RTX g 27 (pp S.1 6 ((P 0).toNat * 7 + (P 1).toNat) (P 2), S.2) I953 J := by
    rw [eI953, show v950.toInt.toNat = ((P 0).toNat * 7 + (P 1).toNat) by omega]
    exact RTX_w hy (by decide) hR 6 ((P 0).toNat * 7 + (P 1).toNat) _ _ (by decide) (q2)
  refine WP_aload_n dX7_tellOn_15 rfl ?_
  refine WP_iload_n dX7_tellOn_16 rfl ?_
  refine WP_aload_n dX7_tellOn_17 rfl ?_
  refine WQ_iconst (0) (0) dX7_tellOn_18 rfl rfl (fun v958 hv958 => ?_)
  refine WE_iak (z := 0) dX7_tellOn_19 (lyx_is hy 4 13 rfl) (lyx_n hy 4 5 rfl) hv958 (by decide) e954 ?_
  refine WP_aload_n dX7_tellOn_20 rfl ?_
  refine WQ_iconst (1) (1) dX7_tellOn_21 rfl rfl (fun v960 hv960 => ?_)
  refine WE_iak (z := 1) dX7_tellOn_22 (lyx_is hy 4 13 rfl) (lyx_n hy 4 5 rfl) hv960 (by decide) e955 ?_
  refine WP_callV3 (k := 7) dX7_tellOn_23 ⟨⟨⟨by decide, by decide⟩, zX7_hold⟩, lX7_109, by decide, rfl, vX7_hold.1, vX7_hold.2⟩ (lyx_is hy 27 7 rfl) (ex_holdb hy hr _ _ _  (ro := 12 + (P 0).toNat) (d := (P 1).toNat) hR2 (by omega) (by omega) (by omega) (by omega) (by omega) (by omega)) (Nat.le_of_ble_eq_true rfl) ?_
  intro r I963 J964 Ra hq
  obtain ⟨ec, g965, g966, er, p962⟩ := hq
  rw [ec, er]
  clear ec er Ra r
  have e968 : I963 (ad g 4) 0 = w941 := by rw [FCx_at hy g965 4 (by decide) (by decide)]; exact e954
  have e969 : I963 (ad g 4) 1 = w942 := by rw [FCx_at hy g965 4 (by decide) (by decide)]; exact e955
  have e970 : I963 (ad g 4) 2 = w943 := by rw [FCx_at hy g965 4 (by decide) (by decide)]; exact e956
  have fI971 : FC g [33, 42] I I963 := FC_tr fI957 (FC_mono g965 (by decide))
  have fJ972 : FC g [] J J964 := FC_tr fJ0 (FC_mono g966 (by decide))
  try simp only [e968, e969, e970, ew941, ew942, ew943] at p962
  exact WP_vret dX7_tellOn_26 rfl ⟨rfl, fI971, fJ972, rfl, by
    try simp only [e968, e969, e970, ew941, ew942, ew943]
    exact p962⟩
set_option maxHeartbeats 4000000 in
set_option maxRecDepth 100000 in
theorem ex_tellOn4b {g : GG} {I : pI} {J : pJ} {R : pR} (hy : LyX g) (hr : RfX g R) {S : TwS} {P : Nat → Int} (cl : Int32) (hR : RTX g 27 S I J) (hcl : cl.toInt = 4) (hP : PRX g P 0 3 I) (h0 : 0 ≤ P 0 ∧ P 0 < 3) (h1 : 0 ≤ P 1 ∧ P 1 < 7) : SP g mX7_tellOn [.ref (ad g 27), .ref (ad g 39), .int cl, .ref (ad g 4)] I J R (fun r I' J' R' => R' = R ∧ FC g [39, 42] I I' ∧ FC g [] J J' ∧ r = none ∧ (RTX g 27 (pp S.1 12 ((P 0).toNat * 7 + (P 1).toNat) (P 2), pp S.2 (16 + (P 0).toNat) (P 1).toNat true) I' J')) := by
  refine SP_of ⟨by decide, rfl⟩ (Nat.le_of_ble_eq_true rfl) ?_
  have fI0 : FC g [39, 42] I I := FC_rf
  have fJ0 : FC g [] J J := FC_rf
  have q0 := hP 0 (by decide) (by decide)
  have q1 := hP 1 (by decide) (by decide)
  have q2 := hP 2 (by decide) (by decide)
  obtain ⟨w973, ew973⟩ : ∃ w : Int32, I (ad g 4) 0 = w := ⟨_, rfl⟩
  obtain ⟨w974, ew974⟩ : ∃ w : Int32, I (ad g 4) 1 = w := ⟨_, rfl⟩
  obtain ⟨w975, ew975⟩ : ∃ w : Int32, I (ad g 4) 2 = w := ⟨_, rfl⟩
  try simp only [ew973, ew974, ew975] at q0 q1 q2
  refine WP_aload_n dX7_tellOn_0 rfl ?_
  refine WP_aload_n dX7_tellOn_1 rfl ?_
  refine WQ_iconst (0) (0) dX7_tellOn_2 rfl rfl (fun v976 hv976 => ?_)
  refine WE_iak (z := 0) dX7_tellOn_3 (lyx_is hy 4 13 rfl) (lyx_n hy 4 5 rfl) hv976 (by decide) ew973 ?_
  refine WQ_bipush (7) (7) dX7_tellOn_4 rfl rfl (fun v978 hv978 => ?_)
  refine WQ_imulk (7) dX7_tellOn_6 hv978 (by omega) (by omega) (fun v979 hv979 => ?_)
  refine WP_aload_n dX7_tellOn_7 rfl ?_
  refine WQ_iconst (1) (1) dX7_tellOn_8 rfl rfl (fun v980 hv980 => ?_)
  refine WE_iak (z := 1) dX7_tellOn_9 (lyx_is hy 4 13 rfl) (lyx_n hy 4 5 rfl) hv980 (by decide) ew974 ?_
  refine WQ_iadd dX7_tellOn_10 (by omega) (by omega) (fun v982 hv982 => ?_)
  refine WP_aload_n dX7_tellOn_11 rfl ?_
  refine WQ_iconst (2) (2) dX7_tellOn_12 rfl rfl (fun v983 hv983 => ?_)
  refine WE_iak (z := 2) dX7_tellOn_13 (lyx_is hy 4 13 rfl) (lyx_n hy 4 5 rfl) hv983 (by decide) ew975 ?_
  refine WE_is dX7_tellOn_14 (lyx_is hy 39 13 rfl) (lyx_n hy 39 21 rfl) (by omega) (by omega) (fun I985 eI985 => ?_)
  have e986 : I985 (ad g 4) 0 = w973 := by rw [eI985, pp_ne _ _ (Or.inl (lyx_ne hy (by decide) (by decide) (by decide)))]; exact ew973
  have e987 : I985 (ad g 4) 1 = w974 := by rw [eI985, pp_ne _ _ (Or.inl (lyx_ne hy (by decide) (by decide) (by decide)))]; exact ew974
  have e988 : I985 (ad g 4) 2 = w975 := by rw [eI985, pp_ne _ _ (Or.inl (lyx_ne hy (by decide) (by decide) (by decide)))]; exact ew975
  have fI989 : FC g [39, 42] I I985 := by rw [eI985]; exact FC_pp fI0 (by decide)
  have hR2 : RTX g 27 (pp S.1 12 ((P 0).toNat * 7 + (P 1).toNat) (P 2), S.2) I985 J := by
    rw [eI985, show v982.toInt.toNat = ((P 0).toNat * 7 + (P 1).toNat) by omega]
    exact RTX_w hy (by decide) hR 12 ((P 0).toNat * 7 + (P 1).toNat) _ _ (by decide) (q2)
  refine WP_aload_n dX7_tellOn_15 rfl ?_
  refine WP_iload_n dX7_tellOn_16 rfl ?_
  refine WP_aload_n dX7_tellOn_17 rfl ?_
  refine WQ_iconst (0) (0) dX7_tellOn_18 rfl rfl (fun v990 hv990 => ?_)
  refine WE_iak (z := 0) dX7_tellOn_19 (lyx_is hy 4 13 rfl) (lyx_n hy 4 5 rfl) hv990 (by decide) e986 ?_
  refine WP_aload_n dX7_tellOn_20 rfl ?_
  refine WQ_iconst (1) (1) dX7_tellOn_21 rfl rfl (fun v992 hv992 => ?_)
  refine WE_iak (z := 1) dX7_tellOn_22 (lyx_is hy 4 13 rfl) (lyx_n hy 4 5 rfl) hv992 (by decide) e987 ?_
  refine WP_callV3 (k := 7) dX7_tellOn_23 ⟨⟨⟨by decide, by decide⟩, zX7_hold⟩, lX7_109, by decide, rfl, vX7_hold.1, vX7_hold.2⟩ (lyx_is hy 27 7 rfl) (ex_holdb hy hr _ _ _  (ro := 16 + (P 0).toNat) (d := (P 1).toNat) hR2 (by omega) (by omega) (by omega) (by omega) (by omega) (by omega)) (Nat.le_of_ble_eq_true rfl) ?_
  intro r I995 J996 Ra hq
  obtain ⟨ec, g997, g998, er, p994⟩ := hq
  rw [ec, er]
  clear ec er Ra r
  have e1000 : I995 (ad g 4) 0 = w973 := by rw [FCx_at hy g997 4 (by decide) (by decide)]; exact e986
  have e1001 : I995 (ad g 4) 1 = w974 := by rw [FCx_at hy g997 4 (by decide) (by decide)]; exact e987
  have e1002 : I995 (ad g 4) 2 = w975 := by rw [FCx_at hy g997 4 (by decide) (by decide)]; exact e988
  have fI1003 : FC g [39, 42] I I995 := FC_tr fI989 (FC_mono g997 (by decide))
  have fJ1004 : FC g [] J J996 := FC_tr fJ0 (FC_mono g998 (by decide))
  try simp only [e1000, e1001, e1002, ew973, ew974, ew975] at p994
  exact WP_vret dX7_tellOn_26 rfl ⟨rfl, fI1003, fJ1004, rfl, by
    try simp only [e1000, e1001, e1002, ew973, ew974, ew975]
    exact p994⟩
set_option maxHeartbeats 4000000 in
set_option maxRecDepth 100000 in
theorem ex_tellOn5b {g : GG} {I : pI} {J : pJ} {R : pR} (hy : LyX g) (hr : RfX g R) {S : TwS} {P : Nat → Int} (cl : Int32) (hR : RTX g 27 S I J) (hcl : cl.toInt = 5) (hP : PRX g P 0 3 I) (h0 : 0 ≤ P 0 ∧ P 0 < 3) (h1 : 0 ≤ P 1 ∧ P 1 < 7) : SP g mX7_tellOn [.ref (ad g 27), .ref (ad g 40), .int cl, .ref (ad g 4)] I J R (fun r I' J' R' => R' = R ∧ FC g [40, 42] I I' ∧ FC g [] J J' ∧ r = none ∧ (RTX g 27 (pp S.1 13 ((P 0).toNat * 7 + (P 1).toNat) (P 2), pp S.2 (20 + (P 0).toNat) (P 1).toNat true) I' J')) := by
  refine SP_of ⟨by decide, rfl⟩ (Nat.le_of_ble_eq_true rfl) ?_
  have fI0 : FC g [40, 42] I I := FC_rf
  have fJ0 : FC g [] J J := FC_rf
  have q0 := hP 0 (by decide) (by decide)
  have q1 := hP 1 (by decide) (by decide)
  have q2 := hP 2 (by decide) (by decide)
  obtain ⟨w1005, ew1005⟩ : ∃ w : Int32, I (ad g 4) 0 = w := ⟨_, rfl⟩
  obtain ⟨w1006, ew1006⟩ : ∃ w : Int32, I (ad g 4) 1 = w := ⟨_, rfl⟩
  obtain ⟨w1007, ew1007⟩ : ∃ w : Int32, I (ad g 4) 2 = w := ⟨_, rfl⟩
  try simp only [ew1005, ew1006, ew1007] at q0 q1 q2
  refine WP_aload_n dX7_tellOn_0 rfl ?_
  refine WP_aload_n dX7_tellOn_1 rfl ?_
  refine WQ_iconst (0) (0) dX7_tellOn_2 rfl rfl (fun v1008 hv1008 => ?_)
  refine WE_iak (z := 0) dX7_tellOn_3 (lyx_is hy 4 13 rfl) (lyx_n hy 4 5 rfl) hv1008 (by decide) ew1005 ?_
  refine WQ_bipush (7) (7) dX7_tellOn_4 rfl rfl (fun v1010 hv1010 => ?_)
  refine WQ_imulk (7) dX7_tellOn_6 hv1010 (by omega) (by omega) (fun v1011 hv1011 => ?_)
  refine WP_aload_n dX7_tellOn_7 rfl ?_
  refine WQ_iconst (1) (1) dX7_tellOn_8 rfl rfl (fun v1012 hv1012 => ?_)
  refine WE_iak (z := 1) dX7_tellOn_9 (lyx_is hy 4 13 rfl) (lyx_n hy 4 5 rfl) hv1012 (by decide) ew1006 ?_
  refine WQ_iadd dX7_tellOn_10 (by omega) (by omega) (fun v1014 hv1014 => ?_)
  refine WP_aload_n dX7_tellOn_11 rfl ?_
  refine WQ_iconst (2) (2) dX7_tellOn_12 rfl rfl (fun v1015 hv1015 => ?_)
  refine WE_iak (z := 2) dX7_tellOn_13 (lyx_is hy 4 13 rfl) (lyx_n hy 4 5 rfl) hv1015 (by decide) ew1007 ?_
  refine WE_is dX7_tellOn_14 (lyx_is hy 40 13 rfl) (lyx_n hy 40 21 rfl) (by omega) (by omega) (fun I1017 eI1017 => ?_)
  have e1018 : I1017 (ad g 4) 0 = w1005 := by rw [eI1017, pp_ne _ _ (Or.inl (lyx_ne hy (by decide) (by decide) (by decide)))]; exact ew1005
  have e1019 : I1017 (ad g 4) 1 = w1006 := by rw [eI1017, pp_ne _ _ (Or.inl (lyx_ne hy (by decide) (by decide) (by decide)))]; exact ew1006
  have e1020 : I1017 (ad g 4) 2 = w1007 := by rw [eI1017, pp_ne _ _ (Or.inl (lyx_ne hy (by decide) (by decide) (by decide)))]; exact ew1007
  have fI1021 : FC g [40, 42] I I1017 := by rw [eI1017]; exact FC_pp fI0 (by decide)
  have hR2 : RTX g 27 (pp S.1 13 ((P 0).toNat * 7 + (P 1).toNat) (P 2), S.2) I1017 J := by
    rw [eI1017, show v1014.toInt.toNat = ((P 0).toNat * 7 + (P 1).toNat) by omega]
    exact RTX_w hy (by decide) hR 13 ((P 0).toNat * 7 + (P 1).toNat) _ _ (by decide) (q2)
  refine WP_aload_n dX7_tellOn_15 rfl ?_
  refine WP_iload_n dX7_tellOn_16 rfl ?_
  refine WP_aload_n dX7_tellOn_17 rfl ?_
  refine WQ_iconst (0) (0) dX7_tellOn_18 rfl rfl (fun v1022 hv1022 => ?_)
  refine WE_iak (z := 0) dX7_tellOn_19 (lyx_is hy 4 13 rfl) (lyx_n hy 4 5 rfl) hv1022 (by decide) e1018 ?_
  refine WP_aload_n dX7_tellOn_20 rfl ?_
  refine WQ_iconst (1) (1) dX7_tellOn_21 rfl rfl (fun v1024 hv1024 => ?_)
  refine WE_iak (z := 1) dX7_tellOn_22 (lyx_is hy 4 13 rfl) (lyx_n hy 4 5 rfl) hv1024 (by decide) e1019 ?_
  refine WP_callV3 (k := 7) dX7_tellOn_23 ⟨⟨⟨by decide, by decide⟩, zX7_hold⟩, lX7_109, by decide, rfl, vX7_hold.1, vX7_hold.2⟩ (lyx_is hy 27 7 rfl) (ex_holdb hy hr _ _ _  (ro := 20 + (P 0).toNat) (d := (P 1).toNat) hR2 (by omega) (by omega) (by omega) (by omega) (by omega) (by omega)) (Nat.le_of_ble_eq_true rfl) ?_
  intro r I1027 J1028 Ra hq
  obtain ⟨ec, g1029, g1030, er, p1026⟩ := hq
  rw [ec, er]
  clear ec er Ra r
  have e1032 : I1027 (ad g 4) 0 = w1005 := by rw [FCx_at hy g1029 4 (by decide) (by decide)]; exact e1018
  have e1033 : I1027 (ad g 4) 1 = w1006 := by rw [FCx_at hy g1029 4 (by decide) (by decide)]; exact e1019
  have e1034 : I1027 (ad g 4) 2 = w1007 := by rw [FCx_at hy g1029 4 (by decide) (by decide)]; exact e1020
  have fI1035 : FC g [40, 42] I I1027 := FC_tr fI1021 (FC_mono g1029 (by decide))
  have fJ1036 : FC g [] J J1028 := FC_tr fJ0 (FC_mono g1030 (by decide))
  try simp only [e1032, e1033, e1034, ew1005, ew1006, ew1007] at p1026
  exact WP_vret dX7_tellOn_26 rfl ⟨rfl, fI1035, fJ1036, rfl, by
    try simp only [e1032, e1033, e1034, ew1005, ew1006, ew1007]
    exact p1026⟩
set_option maxHeartbeats 4000000 in
set_option maxRecDepth 100000 in
theorem ex_tellWantb {g : GG} {I : pI} {J : pJ} {R : pR} (hy : LyX g) (hr : RfX g R) {S : TwS} {P : Nat → Int}  (hR : RTX g 27 S I J) (hP : PRX g P 0 5 I) (h0 : 0 ≤ P 0 ∧ P 0 < 4) (h1 : 0 ≤ P 2 ∧ P 2 < 7) : SP g mX7_tellWant [.ref (ad g 27), .ref (ad g 4)] I J R (fun r I' J' R' => R' = R ∧ FC g [34, 35, 36, 42] I I' ∧ FC g [] J J' ∧ r = none ∧ (RTX g 27 (pp (pp (pp S.1 7 ((P 0).toNat * 7 + (P 2).toNat) (P 1)) 8 ((P 0).toNat * 7 + (P 2).toNat) (P 3)) 9 ((P 0).toNat * 7 + (P 2).toNat) (P 4), pp S.2 (24 + (P 0).toNat) (P 2).toNat true) I' J')) := by
  refine SP_of ⟨by decide, rfl⟩ (Nat.le_of_ble_eq_true rfl) ?_
  have fI0 : FC g [34, 35, 36, 42] I I := FC_rf
  have fJ0 : FC g [] J J := FC_rf
  have q0 := hP 0 (by decide) (by decide)
  have q1 := hP 1 (by decide) (by decide)
  have q2 := hP 2 (by decide) (by decide)
  have q3 := hP 3 (by decide) (by decide)
  have q4 := hP 4 (by decide) (by decide)
  obtain ⟨w1037, ew1037⟩ : ∃ w : Int32, I (ad g 4) 0 = w := ⟨_, rfl⟩
  obtain ⟨w1038, ew1038⟩ : ∃ w : Int32, I (ad g 4) 1 = w := ⟨_, rfl⟩
  obtain ⟨w1039, ew1039⟩ : ∃ w : Int32, I (ad g 4) 2 = w := ⟨_, rfl⟩
  obtain ⟨w1040, ew1040⟩ : ∃ w : Int32, I (ad g 4) 3 = w := ⟨_, rfl⟩
  obtain ⟨w1041, ew1041⟩ : ∃ w : Int32, I (ad g 4) 4 = w := ⟨_, rfl⟩
  try simp only [ew1037, ew1038, ew1039, ew1040, ew1041] at q0 q1 q2 q3 q4
  refine WP_aload_n dX7_tellWant_0 rfl ?_
  refine WQ_iconst (0) (0) dX7_tellWant_1 rfl rfl (fun v1042 hv1042 => ?_)
  refine WE_iak (z := 0) dX7_tellWant_2 (lyx_is hy 4 13 rfl) (lyx_n hy 4 5 rfl) hv1042 (by decide) ew1037 ?_
  refine WQ_bipush (7) (7) dX7_tellWant_3 rfl rfl (fun v1044 hv1044 => ?_)
  refine WQ_imulk (7) dX7_tellWant_5 hv1044 (by omega) (by omega) (fun v1045 hv1045 => ?_)
  refine WP_aload_n dX7_tellWant_6 rfl ?_
  refine WQ_iconst (2) (2) dX7_tellWant_7 rfl rfl (fun v1046 hv1046 => ?_)
  refine WE_iak (z := 2) dX7_tellWant_8 (lyx_is hy 4 13 rfl) (lyx_n hy 4 5 rfl) hv1046 (by decide) ew1039 ?_
  refine WQ_iadd dX7_tellWant_9 (by omega) (by omega) (fun v1048 hv1048 => ?_)
  refine WP_istore_n (ls' := [(0, _), (1, _), (2, _)]) dX7_tellWant_10 (by decide) rfl ?_
  refine WP_aload_n dX7_tellWant_11 rfl ?_
  refine WP_getr dX7_tellWant_12 fX7_30 rfl (lyx_is hy 27 7 rfl) (rfx hr 27 11 34 (by decide)) ?_
  refine WP_iload_n dX7_tellWant_15 rfl ?_
  refine WP_aload_n dX7_tellWant_16 rfl ?_
  refine WQ_iconst (1) (1) dX7_tellWant_17 rfl rfl (fun v1049 hv1049 => ?_)
  refine WE_iak (z := 1) dX7_tellWant_18 (lyx_is hy 4 13 rfl) (lyx_n hy 4 5 rfl) hv1049 (by decide) ew1038 ?_
  refine WE_is dX7_tellWant_19 (lyx_is hy 34 13 rfl) (lyx_n hy 34 28 rfl) (by omega) (by omega) (fun I1051 eI1051 => ?_)
  have e1052 : I1051 (ad g 4) 0 = w1037 := by rw [eI1051, pp_ne _ _ (Or.inl (lyx_ne hy (by decide) (by decide) (by decide)))]; exact ew1037
  have e1053 : I1051 (ad g 4) 1 = w1038 := by rw [eI1051, pp_ne _ _ (Or.inl (lyx_ne hy (by decide) (by decide) (by decide)))]; exact ew1038
  have e1054 : I1051 (ad g 4) 2 = w1039 := by rw [eI1051, pp_ne _ _ (Or.inl (lyx_ne hy (by decide) (by decide) (by decide)))]; exact ew1039
  have e1055 : I1051 (ad g 4) 3 = w1040 := by rw [eI1051, pp_ne _ _ (Or.inl (lyx_ne hy (by decide) (by decide) (by decide)))]; exact ew1040
  have e1056 : I1051 (ad g 4) 4 = w1041 := by rw [eI1051, pp_ne _ _ (Or.inl (lyx_ne hy (by decide) (by decide) (by decide)))]; exact ew1041
  have fI1057 : FC g [34, 35, 36, 42] I I1051 := by rw [eI1051]; exact FC_pp fI0 (by decide)
  have hR2 : RTX g 27 (pp S.1 7 ((P 0).toNat * 7 + (P 2).toNat) (P 1), S.2) I1051 J := by
    rw [eI1051, show v1048.toInt.toNat = ((P 0).toNat * 7 + (P 2).toNat) by omega]
    exact RTX_w hy (by decide) hR 7 ((P 0).toNat * 7 + (P 2).toNat) _ _ (by decide) (q1)
  refine WP_aload_n dX7_tellWant_20 rfl ?_
  refine WP_getr dX7_tellWant_21 fX7_33 rfl (lyx_is hy 27 7 rfl) (rfx hr 27 12 35 (by decide)) ?_
  refine WP_iload_n dX7_tellWant_24 rfl ?_
  refine WP_aload_n dX7_tellWant_25 rfl ?_
  refine WQ_iconst (3) (3) dX7_tellWant_26 rfl rfl (fun v1058 hv1058 => ?_)
  refine WE_iak (z := 3) dX7_tellWant_27 (lyx_is hy 4 13 rfl) (lyx_n hy 4 5 rfl) hv1058 (by decide) e1055 ?_
  refine WE_is dX7_tellWant_28 (lyx_is hy 35 13 rfl) (lyx_n hy 35 28 rfl) (by omega) (by omega) (fun I1060 eI1060 => ?_)
  have e1061 : I1060 (ad g 4) 0 = w1037 := by rw [eI1060, pp_ne _ _ (Or.inl (lyx_ne hy (by decide) (by decide) (by decide)))]; exact e1052
  have e1062 : I1060 (ad g 4) 1 = w1038 := by rw [eI1060, pp_ne _ _ (Or.inl (lyx_ne hy (by decide) (by decide) (by decide)))]; exact e1053
  have e1063 : I1060 (ad g 4) 2 = w1039 := by rw [eI1060, pp_ne _ _ (Or.inl (lyx_ne hy (by decide) (by decide) (by decide)))]; exact e1054
  have e1064 : I1060 (ad g 4) 3 = w1040 := by rw [eI1060, pp_ne _ _ (Or.inl (lyx_ne hy (by decide) (by decide) (by decide)))]; exact e1055
  have e1065 : I1060 (ad g 4) 4 = w1041 := by rw [eI1060, pp_ne _ _ (Or.inl (lyx_ne hy (by decide) (by decide) (by decide)))]; exact e1056
  have fI1066 : FC g [34, 35, 36, 42] I I1060 := by rw [eI1060]; exact FC_pp fI1057 (by decide)
  have hR3 : RTX g 27 (pp (pp S.1 7 ((P 0).toNat * 7 + (P 2).toNat) (P 1)) 8 ((P 0).toNat * 7 + (P 2).toNat) (P 3), S.2) I1060 J := by
    rw [eI1060, show v1048.toInt.toNat = ((P 0).toNat * 7 + (P 2).toNat) by omega]
    exact RTX_w hy (by decide) hR2 8 ((P 0).toNat * 7 + (P 2).toNat) _ _ (by decide) (q3)
  refine WP_aload_n dX7_tellWant_29 rfl ?_
  refine WP_getr dX7_tellWant_30 fX7_36 rfl (lyx_is hy 27 7 rfl) (rfx hr 27 13 36 (by decide)) ?_
  refine WP_iload_n dX7_tellWant_33 rfl ?_
  refine WP_aload_n dX7_tellWant_34 rfl ?_
  refine WQ_iconst (4) (4) dX7_tellWant_35 rfl rfl (fun v1067 hv1067 => ?_)
  refine WE_iak (z := 4) dX7_tellWant_36 (lyx_is hy 4 13 rfl) (lyx_n hy 4 5 rfl) hv1067 (by decide) e1065 ?_
  refine WE_is dX7_tellWant_37 (lyx_is hy 36 13 rfl) (lyx_n hy 36 28 rfl) (by omega) (by omega) (fun I1069 eI1069 => ?_)
  have e1070 : I1069 (ad g 4) 0 = w1037 := by rw [eI1069, pp_ne _ _ (Or.inl (lyx_ne hy (by decide) (by decide) (by decide)))]; exact e1061
  have e1071 : I1069 (ad g 4) 1 = w1038 := by rw [eI1069, pp_ne _ _ (Or.inl (lyx_ne hy (by decide) (by decide) (by decide)))]; exact e1062
  have e1072 : I1069 (ad g 4) 2 = w1039 := by rw [eI1069, pp_ne _ _ (Or.inl (lyx_ne hy (by decide) (by decide) (by decide)))]; exact e1063
  have e1073 : I1069 (ad g 4) 3 = w1040 := by rw [eI1069, pp_ne _ _ (Or.inl (lyx_ne hy (by decide) (by decide) (by decide)))]; exact e1064
  have e1074 : I1069 (ad g 4) 4 = w1041 := by rw [eI1069, pp_ne _ _ (Or.inl (lyx_ne hy (by decide) (by decide) (by decide)))]; exact e1065
  have fI1075 : FC g [34, 35, 36, 42] I I1069 := by rw [eI1069]; exact FC_pp fI1066 (by decide)
  have hR4 : RTX g 27 (pp (pp (pp S.1 7 ((P 0).toNat * 7 + (P 2).toNat) (P 1)) 8 ((P 0).toNat * 7 + (P 2).toNat) (P 3)) 9 ((P 0).toNat * 7 + (P 2).toNat) (P 4), S.2) I1069 J := by
    rw [eI1069, show v1048.toInt.toNat = ((P 0).toNat * 7 + (P 2).toNat) by omega]
    exact RTX_w hy (by decide) hR3 9 ((P 0).toNat * 7 + (P 2).toNat) _ _ (by decide) (q4)
  refine WP_aload_n dX7_tellWant_38 rfl ?_
  refine WQ_bipush (6) (6) dX7_tellWant_39 rfl rfl (fun v1076 hv1076 => ?_)
  refine WP_aload_n dX7_tellWant_41 rfl ?_
  refine WQ_iconst (0) (0) dX7_tellWant_42 rfl rfl (fun v1077 hv1077 => ?_)
  refine WE_iak (z := 0) dX7_tellWant_43 (lyx_is hy 4 13 rfl) (lyx_n hy 4 5 rfl) hv1077 (by decide) e1070 ?_
  refine WP_aload_n dX7_tellWant_44 rfl ?_
  refine WQ_iconst (2) (2) dX7_tellWant_45 rfl rfl (fun v1079 hv1079 => ?_)
  refine WE_iak (z := 2) dX7_tellWant_46 (lyx_is hy 4 13 rfl) (lyx_n hy 4 5 rfl) hv1079 (by decide) e1072 ?_
  refine WP_callV3 (k := 7) dX7_tellWant_47 ⟨⟨⟨by decide, by decide⟩, zX7_hold⟩, lX7_109, by decide, rfl, vX7_hold.1, vX7_hold.2⟩ (lyx_is hy 27 7 rfl) (ex_holdb hy hr _ _ _  (ro := 24 + (P 0).toNat) (d := (P 2).toNat) hR4 (by omega) (by omega) (by omega) (by omega) (by omega) (by omega)) (Nat.le_of_ble_eq_true rfl) ?_
  intro r I1082 J1083 Ra hq
  obtain ⟨ec, g1084, g1085, er, p1081⟩ := hq
  rw [ec, er]
  clear ec er Ra r
  have e1087 : I1082 (ad g 4) 0 = w1037 := by rw [FCx_at hy g1084 4 (by decide) (by decide)]; exact e1070
  have e1088 : I1082 (ad g 4) 1 = w1038 := by rw [FCx_at hy g1084 4 (by decide) (by decide)]; exact e1071
  have e1089 : I1082 (ad g 4) 2 = w1039 := by rw [FCx_at hy g1084 4 (by decide) (by decide)]; exact e1072
  have e1090 : I1082 (ad g 4) 3 = w1040 := by rw [FCx_at hy g1084 4 (by decide) (by decide)]; exact e1073
  have e1091 : I1082 (ad g 4) 4 = w1041 := by rw [FCx_at hy g1084 4 (by decide) (by decide)]; exact e1074
  have fI1092 : FC g [34, 35, 36, 42] I I1082 := FC_tr fI1075 (FC_mono g1084 (by decide))
  have fJ1093 : FC g [] J J1083 := FC_tr fJ0 (FC_mono g1085 (by decide))
  try simp only [e1087, e1088, e1089, e1090, e1091, ew1037, ew1038, ew1039, ew1040, ew1041] at p1081
  exact WP_vret dX7_tellWant_50 rfl ⟨rfl, fI1092, fJ1093, rfl, by
    try simp only [e1087, e1088, e1089, e1090, e1091, ew1037, ew1038, ew1039, ew1040, ew1041]
    exact p1081⟩
set_option maxHeartbeats 4000000 in
set_option maxRecDepth 100000 in
theorem ex_tellSortb {g : GG} {I : pI} {J : pJ} {R : pR} (hy : LyX g) (hr : RfX g R) {S : TwS} {P : Nat → Int}  (hR : RTX g 27 S I J) (hP : PRX g P 1 4 I) (h0 : 0 ≤ S.1 0 1 ∧ S.1 0 1 < 4) : SP g mX7_tellSort [.ref (ad g 27), .ref (ad g 4)] I J R (fun r I' J' R' => R' = R ∧ FC g [27, 29, 30, 31] I I' ∧ FC g [] J J' ∧ r = none ∧ (RTX g 27 (pp (pp (pp (pp S.1 2 (S.1 0 1).toNat (P 1)) 3 (S.1 0 1).toNat (P 2)) 4 (S.1 0 1).toNat (P 3)) 0 1 (S.1 0 1 + 1), S.2) I' J')) := by
  refine SP_of ⟨by decide, rfl⟩ (Nat.le_of_ble_eq_true rfl) ?_
  have fI0 : FC g [27, 29, 30, 31] I I := FC_rf
  have fJ0 : FC g [] J J := FC_rf
  have hs1 : (I (ad g 27) 1).toInt = S.1 0 1 := hR.1 0 1 (by decide) (by decide)
  have q1 := hP 1 (by decide) (by decide)
  have q2 := hP 2 (by decide) (by decide)
  have q3 := hP 3 (by decide) (by decide)
  obtain ⟨w1094, ew1094⟩ : ∃ w : Int32, I (ad g 4) 1 = w := ⟨_, rfl⟩
  obtain ⟨w1095, ew1095⟩ : ∃ w : Int32, I (ad g 4) 2 = w := ⟨_, rfl⟩
  obtain ⟨w1096, ew1096⟩ : ∃ w : Int32, I (ad g 4) 3 = w := ⟨_, rfl⟩
  obtain ⟨w1097, ew1097⟩ : ∃ w : Int32, I (ad g 27) 1 = w := ⟨_, rfl⟩
  try simp only [ew1094, ew1095, ew1096, ew1097] at q1 q2 q3 hs1
  refine WP_aload_n dX7_tellSort_0 rfl ?_
  refine WP_getr dX7_tellSort_1 fX7_15 rfl (lyx_is hy 27 7 rfl) (rfx hr 27 6 29 (by decide)) ?_
  refine WP_aload_n dX7_tellSort_4 rfl ?_
  refine WQ_getim dX7_tellSort_5 fX7_65 rfl (lyx_is hy 27 7 rfl) ew1097 ?_
  refine WP_aload_n dX7_tellSort_8 rfl ?_
  refine WQ_iconst (1) (1) dX7_tellSort_9 rfl rfl (fun v1098 hv1098 => ?_)
  refine WE_iak (z := 1) dX7_tellSort_10 (lyx_is hy 4 13 rfl) (lyx_n hy 4 5 rfl) hv1098 (by decide) ew1094 ?_
  refine WE_is dX7_tellSort_11 (lyx_is hy 29 13 rfl) (lyx_n hy 29 4 rfl) (by omega) (by omega) (fun I1100 eI1100 => ?_)
  have e1101 : I1100 (ad g 4) 1 = w1094 := by rw [eI1100, pp_ne _ _ (Or.inl (lyx_ne hy (by decide) (by decide) (by decide)))]; exact ew1094
  have e1102 : I1100 (ad g 4) 2 = w1095 := by rw [eI1100, pp_ne _ _ (Or.inl (lyx_ne hy (by decide) (by decide) (by decide)))]; exact ew1095
  have e1103 : I1100 (ad g 4) 3 = w1096 := by rw [eI1100, pp_ne _ _ (Or.inl (lyx_ne hy (by decide) (by decide) (by decide)))]; exact ew1096
  have e1104 : I1100 (ad g 27) 1 = w1097 := by rw [eI1100, pp_ne _ _ (Or.inl (lyx_ne hy (by decide) (by decide) (by decide)))]; exact ew1097
  have fI1105 : FC g [27, 29, 30, 31] I I1100 := by rw [eI1100]; exact FC_pp fI0 (by decide)
  have hR2 : RTX g 27 (pp S.1 2 (S.1 0 1).toNat (P 1), S.2) I1100 J := by
    rw [eI1100, show w1097.toInt.toNat = (S.1 0 1).toNat by omega]
    exact RTX_w hy (by decide) hR 2 (S.1 0 1).toNat _ _ (by decide) (q1)
  refine WP_aload_n dX7_tellSort_12 rfl ?_
  refine WP_getr dX7_tellSort_13 fX7_18 rfl (lyx_is hy 27 7 rfl) (rfx hr 27 7 30 (by decide)) ?_
  refine WP_aload_n dX7_tellSort_16 rfl ?_
  refine WQ_getim dX7_tellSort_17 fX7_65 rfl (lyx_is hy 27 7 rfl) e1104 ?_
  refine WP_aload_n dX7_tellSort_20 rfl ?_
  refine WQ_iconst (2) (2) dX7_tellSort_21 rfl rfl (fun v1106 hv1106 => ?_)
  refine WE_iak (z := 2) dX7_tellSort_22 (lyx_is hy 4 13 rfl) (lyx_n hy 4 5 rfl) hv1106 (by decide) e1102 ?_
  refine WE_is dX7_tellSort_23 (lyx_is hy 30 13 rfl) (lyx_n hy 30 4 rfl) (by omega) (by omega) (fun I1108 eI1108 => ?_)
  have e1109 : I1108 (ad g 4) 1 = w1094 := by rw [eI1108, pp_ne _ _ (Or.inl (lyx_ne hy (by decide) (by decide) (by decide)))]; exact e1101
  have e1110 : I1108 (ad g 4) 2 = w1095 := by rw [eI1108, pp_ne _ _ (Or.inl (lyx_ne hy (by decide) (by decide) (by decide)))]; exact e1102
  have e1111 : I1108 (ad g 4) 3 = w1096 := by rw [eI1108, pp_ne _ _ (Or.inl (lyx_ne hy (by decide) (by decide) (by decide)))]; exact e1103
  have e1112 : I1108 (ad g 27) 1 = w1097 := by rw [eI1108, pp_ne _ _ (Or.inl (lyx_ne hy (by decide) (by decide) (by decide)))]; exact e1104
  have fI1113 : FC g [27, 29, 30, 31] I I1108 := by rw [eI1108]; exact FC_pp fI1105 (by decide)
  have hR3 : RTX g 27 (pp (pp S.1 2 (S.1 0 1).toNat (P 1)) 3 (S.1 0 1).toNat (P 2), S.2) I1108 J := by
    rw [eI1108, show w1097.toInt.toNat = (S.1 0 1).toNat by omega]
    exact RTX_w hy (by decide) hR2 3 (S.1 0 1).toNat _ _ (by decide) (q2)
  refine WP_aload_n dX7_tellSort_24 rfl ?_
  refine WP_getr dX7_tellSort_25 fX7_21 rfl (lyx_is hy 27 7 rfl) (rfx hr 27 8 31 (by decide)) ?_
  refine WP_aload_n dX7_tellSort_28 rfl ?_
  refine WQ_getim dX7_tellSort_29 fX7_65 rfl (lyx_is hy 27 7 rfl) e1112 ?_
  refine WP_aload_n dX7_tellSort_32 rfl ?_
  refine WQ_iconst (3) (3) dX7_tellSort_33 rfl rfl (fun v1114 hv1114 => ?_)
  refine WE_iak (z := 3) dX7_tellSort_34 (lyx_is hy 4 13 rfl) (lyx_n hy 4 5 rfl) hv1114 (by decide) e1111 ?_
  refine WE_is dX7_tellSort_35 (lyx_is hy 31 13 rfl) (lyx_n hy 31 4 rfl) (by omega) (by omega) (fun I1116 eI1116 => ?_)
  have e1117 : I1116 (ad g 4) 1 = w1094 := by rw [eI1116, pp_ne _ _ (Or.inl (lyx_ne hy (by decide) (by decide) (by decide)))]; exact e1109
  have e1118 : I1116 (ad g 4) 2 = w1095 := by rw [eI1116, pp_ne _ _ (Or.inl (lyx_ne hy (by decide) (by decide) (by decide)))]; exact e1110
  have e1119 : I1116 (ad g 4) 3 = w1096 := by rw [eI1116, pp_ne _ _ (Or.inl (lyx_ne hy (by decide) (by decide) (by decide)))]; exact e1111
  have e1120 : I1116 (ad g 27) 1 = w1097 := by rw [eI1116, pp_ne _ _ (Or.inl (lyx_ne hy (by decide) (by decide) (by decide)))]; exact e1112
  have fI1121 : FC g [27, 29, 30, 31] I I1116 := by rw [eI1116]; exact FC_pp fI1113 (by decide)
  have hR4 : RTX g 27 (pp (pp (pp S.1 2 (S.1 0 1).toNat (P 1)) 3 (S.1 0 1).toNat (P 2)) 4 (S.1 0 1).toNat (P 3), S.2) I1116 J := by
    rw [eI1116, show w1097.toInt.toNat = (S.1 0 1).toNat by omega]
    exact RTX_w hy (by decide) hR3 4 (S.1 0 1).toNat _ _ (by decide) (q3)
  refine WP_aload_n dX7_tellSort_36 rfl ?_
  refine WP_dup dX7_tellSort_37 rfl ?_
  refine WQ_getim dX7_tellSort_38 fX7_65 rfl (lyx_is hy 27 7 rfl) e1120 ?_
  refine WQ_iconst (1) (1) dX7_tellSort_41 rfl rfl (fun v1122 hv1122 => ?_)
  refine WQ_iadd dX7_tellSort_42 (by omega) (by omega) (fun v1123 hv1123 => ?_)
  refine WQ_puti dX7_tellSort_43 fX7_65 rfl rfl (lyx_is hy 27 7 rfl) (fun I1124 eI1124 => ?_)
  have e1125 : I1124 (ad g 4) 1 = w1094 := by rw [eI1124, pp_ne _ _ (Or.inl (lyx_ne hy (by decide) (by decide) (by decide)))]; exact e1117
  have e1126 : I1124 (ad g 4) 2 = w1095 := by rw [eI1124, pp_ne _ _ (Or.inl (lyx_ne hy (by decide) (by decide) (by decide)))]; exact e1118
  have e1127 : I1124 (ad g 4) 3 = w1096 := by rw [eI1124, pp_ne _ _ (Or.inl (lyx_ne hy (by decide) (by decide) (by decide)))]; exact e1119
  have e1128 : I1124 (ad g 27) 1 = v1123 := by rw [eI1124, pp_self]
  have fI1129 : FC g [27, 29, 30, 31] I I1124 := by rw [eI1124]; exact FC_pp fI1121 (by decide)
  exact WP_vret dX7_tellSort_46 rfl ⟨rfl, fI1129, fJ0, rfl, by
    try simp only [e1125, e1126, e1127, e1128, ew1094, ew1095, ew1096, ew1097]
    rw [eI1124]
    exact RTX_w hy (by decide) hR4 0 1 _ _ (by decide) (by omega)⟩
set_option maxHeartbeats 4000000 in
set_option maxRecDepth 100000 in
theorem ex_tellThingb {g : GG} {I : pI} {J : pJ} {R : pR} (hy : LyX g) (hr : RfX g R) {S : TwS} {P : Nat → Int}  (hR : RTX g 27 S I J) (hP : PRX g P 1 3 I) (h0 : 0 ≤ S.1 0 2 ∧ S.1 0 2 < 3) : SP g mX7_tellThing [.ref (ad g 27), .ref (ad g 4)] I J R (fun r I' J' R' => R' = R ∧ FC g [27, 37, 38] I I' ∧ FC g [] J J' ∧ r = none ∧ (RTX g 27 (if S.1 0 4 = -1 then pp (pp (pp (pp S.1 10 (S.1 0 2).toNat (P 1)) 11 (S.1 0 2).toNat (P 2)) 0 2 (S.1 0 2 + 1)) 0 4 0 else pp (pp (pp S.1 10 (S.1 0 2).toNat (P 1)) 11 (S.1 0 2).toNat (P 2)) 0 2 (S.1 0 2 + 1), S.2) I' J')) := by
  refine SP_of ⟨by decide, rfl⟩ (Nat.le_of_ble_eq_true rfl) ?_
  have fI0 : FC g [27, 37, 38] I I := FC_rf
  have fJ0 : FC g [] J J := FC_rf
  have hs2 : (I (ad g 27) 2).toInt = S.1 0 2 := hR.1 0 2 (by decide) (by decide)
  have hs4 : (I (ad g 27) 4).toInt = S.1 0 4 := hR.1 0 4 (by decide) (by decide)
  have q1 := hP 1 (by decide) (by decide)
  have q2 := hP 2 (by decide) (by decide)
  obtain ⟨w1130, ew1130⟩ : ∃ w : Int32, I (ad g 4) 1 = w := ⟨_, rfl⟩
  obtain ⟨w1131, ew1131⟩ : ∃ w : Int32, I (ad g 4) 2 = w := ⟨_, rfl⟩
  obtain ⟨w1132, ew1132⟩ : ∃ w : Int32, I (ad g 27) 2 = w := ⟨_, rfl⟩
  obtain ⟨w1133, ew1133⟩ : ∃ w : Int32, I (ad g 27) 4 = w := ⟨_, rfl⟩
  try simp only [ew1130, ew1131, ew1132, ew1133] at q1 q2 hs2 hs4
  refine WP_aload_n dX7_tellThing_0 rfl ?_
  refine WP_getr dX7_tellThing_1 fX7_39 rfl (lyx_is hy 27 7 rfl) (rfx hr 27 14 37 (by decide)) ?_
  refine WP_aload_n dX7_tellThing_4 rfl ?_
  refine WQ_getim dX7_tellThing_5 fX7_68 rfl (lyx_is hy 27 7 rfl) ew1132 ?_
  refine WP_aload_n dX7_tellThing_8 rfl ?_
  refine WQ_iconst (1) (1) dX7_tellThing_9 rfl rfl (fun v1134 hv1134 => ?_)
  refine WE_iak (z := 1) dX7_tellThing_10 (lyx_is hy 4 13 rfl) (lyx_n hy 4 5 rfl) hv1134 (by decide) ew1130 ?_
  refine WE_is dX7_tellThing_11 (lyx_is hy 37 13 rfl) (lyx_n hy 37 3 rfl) (by omega) (by omega) (fun I1136 eI1136 => ?_)
  have e1137 : I1136 (ad g 4) 1 = w1130 := by rw [eI1136, pp_ne _ _ (Or.inl (lyx_ne hy (by decide) (by decide) (by decide)))]; exact ew1130
  have e1138 : I1136 (ad g 4) 2 = w1131 := by rw [eI1136, pp_ne _ _ (Or.inl (lyx_ne hy (by decide) (by decide) (by decide)))]; exact ew1131
  have e1139 : I1136 (ad g 27) 2 = w1132 := by rw [eI1136, pp_ne _ _ (Or.inl (lyx_ne hy (by decide) (by decide) (by decide)))]; exact ew1132
  have e1140 : I1136 (ad g 27) 4 = w1133 := by rw [eI1136, pp_ne _ _ (Or.inl (lyx_ne hy (by decide) (by decide) (by decide)))]; exact ew1133
  have fI1141 : FC g [27, 37, 38] I I1136 := by rw [eI1136]; exact FC_pp fI0 (by decide)
  have hR2 : RTX g 27 (pp S.1 10 (S.1 0 2).toNat (P 1), S.2) I1136 J := by
    rw [eI1136, show w1132.toInt.toNat = (S.1 0 2).toNat by omega]
    exact RTX_w hy (by decide) hR 10 (S.1 0 2).toNat _ _ (by decide) (q1)
  refine WP_aload_n dX7_tellThing_12 rfl ?_
  refine WP_getr dX7_tellThing_13 fX7_42 rfl (lyx_is hy 27 7 rfl) (rfx hr 27 15 38 (by decide)) ?_
  refine WP_aload_n dX7_tellThing_16 rfl ?_
  refine WQ_getim dX7_tellThing_17 fX7_68 rfl (lyx_is hy 27 7 rfl) e1139 ?_
  refine WP_aload_n dX7_tellThing_20 rfl ?_
  refine WQ_iconst (2) (2) dX7_tellThing_21 rfl rfl (fun v1142 hv1142 => ?_)
  refine WE_iak (z := 2) dX7_tellThing_22 (lyx_is hy 4 13 rfl) (lyx_n hy 4 5 rfl) hv1142 (by decide) e1138 ?_
  refine WE_is dX7_tellThing_23 (lyx_is hy 38 13 rfl) (lyx_n hy 38 3 rfl) (by omega) (by omega) (fun I1144 eI1144 => ?_)
  have e1145 : I1144 (ad g 4) 1 = w1130 := by rw [eI1144, pp_ne _ _ (Or.inl (lyx_ne hy (by decide) (by decide) (by decide)))]; exact e1137
  have e1146 : I1144 (ad g 4) 2 = w1131 := by rw [eI1144, pp_ne _ _ (Or.inl (lyx_ne hy (by decide) (by decide) (by decide)))]; exact e1138
  have e1147 : I1144 (ad g 27) 2 = w1132 := by rw [eI1144, pp_ne _ _ (Or.inl (lyx_ne hy (by decide) (by decide) (by decide)))]; exact e1139
  have e1148 : I1144 (ad g 27) 4 = w1133 := by rw [eI1144, pp_ne _ _ (Or.inl (lyx_ne hy (by decide) (by decide) (by decide)))]; exact e1140
  have fI1149 : FC g [27, 37, 38] I I1144 := by rw [eI1144]; exact FC_pp fI1141 (by decide)
  have hR3 : RTX g 27 (pp (pp S.1 10 (S.1 0 2).toNat (P 1)) 11 (S.1 0 2).toNat (P 2), S.2) I1144 J := by
    rw [eI1144, show w1132.toInt.toNat = (S.1 0 2).toNat by omega]
    exact RTX_w hy (by decide) hR2 11 (S.1 0 2).toNat _ _ (by decide) (q2)
  refine WP_aload_n dX7_tellThing_24 rfl ?_
  refine WP_dup dX7_tellThing_25 rfl ?_
  refine WQ_getim dX7_tellThing_26 fX7_68 rfl (lyx_is hy 27 7 rfl) e1147 ?_
  refine WQ_iconst (1) (1) dX7_tellThing_29 rfl rfl (fun v1150 hv1150 => ?_)
  refine WQ_iadd dX7_tellThing_30 (by omega) (by omega) (fun v1151 hv1151 => ?_)
  refine WQ_puti dX7_tellThing_31 fX7_68 rfl rfl (lyx_is hy 27 7 rfl) (fun I1152 eI1152 => ?_)
  have e1153 : I1152 (ad g 4) 1 = w1130 := by rw [eI1152, pp_ne _ _ (Or.inl (lyx_ne hy (by decide) (by decide) (by decide)))]; exact e1145
  have e1154 : I1152 (ad g 4) 2 = w1131 := by rw [eI1152, pp_ne _ _ (Or.inl (lyx_ne hy (by decide) (by decide) (by decide)))]; exact e1146
  have e1155 : I1152 (ad g 27) 4 = w1133 := by rw [eI1152, pp_ne _ _ (Or.inr (by decide))]; exact e1148
  have e1156 : I1152 (ad g 27) 2 = v1151 := by rw [eI1152, pp_self]
  have fI1157 : FC g [27, 37, 38] I I1152 := by rw [eI1152]; exact FC_pp fI1149 (by decide)
  have hR4 : RTX g 27 (pp (pp (pp S.1 10 (S.1 0 2).toNat (P 1)) 11 (S.1 0 2).toNat (P 2)) 0 2 (S.1 0 2 + 1), S.2) I1152 J := by
    rw [eI1152]
    exact RTX_w hy (by decide) hR3 0 2 _ _ (by decide) (by omega)
  refine WP_aload_n dX7_tellThing_34 rfl ?_
  refine WQ_getim dX7_tellThing_35 fX7_74 rfl (lyx_is hy 27 7 rfl) e1155 ?_
  refine WQ_iconst (-1) (-1) dX7_tellThing_38 rfl rfl (fun v1158 hv1158 => ?_)
  refine WQ_icmp_ne 47 dX7_tellThing_39 rfl (fun c1158 => ?_) (fun c1158 => ?_)
  · exact WP_vret dX7_tellThing_47 rfl ⟨rfl, fI1157, fJ0, rfl, by
      try simp only [e1153, e1154, e1155, e1156, ew1130, ew1131, ew1132, ew1133]
      rw [if_neg (by omega)]
      exact hR4⟩
  · refine WP_aload_n dX7_tellThing_42 rfl ?_
    refine WQ_iconst (0) (0) dX7_tellThing_43 rfl rfl (fun v1160 hv1160 => ?_)
    refine WQ_puti dX7_tellThing_44 fX7_74 rfl rfl (lyx_is hy 27 7 rfl) (fun I1161 eI1161 => ?_)
    have e1162 : I1161 (ad g 4) 1 = w1130 := by rw [eI1161, pp_ne _ _ (Or.inl (lyx_ne hy (by decide) (by decide) (by decide)))]; exact e1153
    have e1163 : I1161 (ad g 4) 2 = w1131 := by rw [eI1161, pp_ne _ _ (Or.inl (lyx_ne hy (by decide) (by decide) (by decide)))]; exact e1154
    have e1164 : I1161 (ad g 27) 2 = v1151 := by rw [eI1161, pp_ne _ _ (Or.inr (by decide))]; exact e1156
    have e1165 : I1161 (ad g 27) 4 = v1160 := by rw [eI1161, pp_self]
    have fI1166 : FC g [27, 37, 38] I I1161 := by rw [eI1161]; exact FC_pp fI1157 (by decide)
    exact WP_vret dX7_tellThing_47 rfl ⟨rfl, fI1166, fJ0, rfl, by
      try simp only [e1162, e1163, e1164, e1165, ew1130, ew1131, ew1132, ew1133]
      rw [if_pos (by omega), eI1161]
      exact RTX_w hy (by decide) hR4 0 4 _ _ (by decide) (by omega)⟩
