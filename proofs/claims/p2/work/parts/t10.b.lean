set_option maxHeartbeats 4000000 in
set_option maxRecDepth 100000 in
theorem sx_rewindf {g : GG} {n : Int} {L : Int32} (hy : LyX g)  {I : pI} {J : pJ} {R : pR} (hr : RfX g R) (hI : XI g n L I)   : SP g mX5_rewind [.ref (ad g 1)] I J R (fun r I' J' R' => (XI g n L I' ∧ R' = R ∧ fz 74 g [1] I I') ∧ r = none) := by
  refine SP_of ⟨by decide, rfl⟩ (Nat.le_of_ble_eq_true rfl) ?_
  have e15429 : I (ad g 1) 1 = L := hI.2
  have b15430 := BT_get hI.1 1 1 2 (0) (0) (900) (by decide) 1 (by decide) (by decide)
  rw [e15429] at b15430
  have fr0 : fz 74 g [1] I I := fz_rf
  refine WP_aload_n dX5_rewind_0 rfl ?_
  refine WQ_iconst (0) (0) dX5_rewind_1 rfl rfl (fun v15431 hv15431 => ?_)
  refine WQ_puti dX5_rewind_2 fX5_19 rfl rfl (lyx_is hy 1 5 rfl) (fun I15432 eI15432 => ?_)
  have hI15432 : XI g n L I15432 := by rw [eI15432]; exact (xi_f hy hI (c := 1) (0) (0) (900) (by decide) (Or.inr (by decide)) (by decide) (by omega) (by omega))
  have e15433 : I15432 (ad g 1) 1 = L := by rw [eI15432, pp_ne _ _ (Or.inr (by decide))]; exact e15429
  have e15434 : I15432 (ad g 1) 6 = v15431 := by rw [eI15432, pp_self]
  have fr15435 : fz 74 g [1] I I15432 := by rw [eI15432]; exact fzx_pp hy fr0 (by decide) (by decide)
  clear eI15432
  exact WP_vret dX5_rewind_5 rfl ⟨⟨hI15432, rfl, fr15435⟩, rfl⟩
set_option maxHeartbeats 4000000 in
set_option maxRecDepth 100000 in
theorem sx_readWordf {g : GG} {n : Int} {L : Int32} (hy : LyX g)  {I : pI} {J : pJ} {R : pR} (hr : RfX g R) (hI : XI g n L I)   : SP g mX5_readWord [.ref (ad g 1)] I J R (fun r I' J' R' => (XI g n L I' ∧ R' = R ∧ fz 74 g [1] I I') ∧ r = none) := by
  refine SP_of ⟨by decide, rfl⟩ (Nat.le_of_ble_eq_true rfl) ?_
  have e15436 : I (ad g 1) 1 = L := hI.2
  have b15437 := BT_get hI.1 1 1 2 (0) (0) (900) (by decide) 1 (by decide) (by decide)
  rw [e15436] at b15437
  have fr0 : fz 74 g [1] I I := fz_rf
  refine WP_aload_n dX5_readWord_0 rfl ?_
  refine WP_lconst (0) dX5_readWord_1 rfl ?_
  obtain ⟨l15438, hl15438, el15438⟩ : ∃ v : Int64, v.toInt = 0 ∧ (0 : Int64) = v := ⟨_, rfl, rfl⟩
  rw [el15438]; clear el15438
  refine WQ_putl dX5_readWord_2 fX5_41 rfl rfl (lyx_is hy 1 5 rfl) (fun J15439 eJ15439 => ?_)
  clear eJ15439
  have lp5_15442 : ∀ (mz : Nat)  (I15440 : pI) (J15441 : pJ), XI g n L I15440 → fz 74 g [1] I I15440 → ∀ (w15442 : Int32), I15440 (ad g 1) 6 = w15442 → (901 - w15442.toInt).toNat < mz → WP g mX5_readWord 5 [(0, .ref (ad g 1))] [] I15440 J15441 R (fun r I' J' R' => (XI g n L I' ∧ R' = R ∧ fz 74 g [1] I I') ∧ r = none) := by
    intro mz
    induction mz with
    | zero =>
      intro  I15440 J15441 hI15440 fiI15440 w15442 ew15442  hmlp5_15442
      exact absurd hmlp5_15442 (Nat.not_lt_zero _)
    | succ mz ihlp5_15442 =>
      intro  I15440 J15441 hI15440 fiI15440 w15442 ew15442  hmlp5_15442
      have bw15442 := BT_get hI15440.1 1 6 7 (0) (0) (900) (by decide) 6 (by decide) (by decide)
      rw [ew15442] at bw15442
      have e15444 : I15440 (ad g 1) 1 = L := hI15440.2
      have b15445 := BT_get hI15440.1 1 1 2 (0) (0) (900) (by decide) 1 (by decide) (by decide)
      rw [e15444] at b15445
      refine WP_aload_n dX5_readWord_5 rfl ?_
      refine WQ_getim dX5_readWord_6 fX5_19 rfl (lyx_is hy 1 5 rfl) ew15442 ?_
      refine WP_aload_n dX5_readWord_9 rfl ?_
      refine WQ_getim dX5_readWord_10 fX5_15 rfl (lyx_is hy 1 5 rfl) e15444 ?_
      refine WQ_icmp_ge 66 dX5_readWord_13 rfl (fun c15445 => ?_) (fun c15445 => ?_)
      · refine WP_aload_n dX5_readWord_66 rfl ?_
        refine WP_aload_n dX5_readWord_67 rfl ?_
        refine WQ_getim dX5_readWord_68 fX5_19 rfl (lyx_is hy 1 5 rfl) ew15442 ?_
        refine WP_aload_n dX5_readWord_71 rfl ?_
        refine WQ_geti dX5_readWord_72 fX5_22 rfl (lyx_is hy 1 5 rfl) (BT_get hI15440.1 1 3 4 (0) (0) (900) (by decide) 3 (by decide) (by decide)) (fun v15447 ev15447 av15447 bv15447 => ?_)
        refine WQ_isub dX5_readWord_75 (by omega) (by omega) (fun v15448 hv15448 => ?_)
        refine WQ_bipush (8) (8) dX5_readWord_76 rfl rfl (fun v15449 hv15449 => ?_)
        have jn86_15452 : ∀ (v15452 : Int32), 1 ≤ v15452.toInt → v15452.toInt ≤ 4 → WP g mX5_readWord 86 [(0, .ref (ad g 1))] [.int v15452, .ref (ad g 1)] I15440 J15441 R (fun r I' J' R' => (XI g n L I' ∧ R' = R ∧ fz 74 g [1] I I') ∧ r = none) := by
          intro v15452 av15452 bv15452
          refine WQ_puti dX5_readWord_86 fX5_25 rfl rfl (lyx_is hy 1 5 rfl) (fun I15454 eI15454 => ?_)
          have hI15454 : XI g n L I15454 := by rw [eI15454]; exact (xi_f hy hI15440 (c := 1) (0) (0) (4) (by decide) (Or.inr (by decide)) (by decide) (by omega) (by omega))
          have e15455 : I15454 (ad g 1) 6 = w15442 := by rw [eI15454, pp_ne _ _ (Or.inr (by decide))]; exact ew15442
          have e15456 : I15454 (ad g 1) 1 = L := by rw [eI15454, pp_ne _ _ (Or.inr (by decide))]; exact e15444
          have e15457 : I15454 (ad g 1) 3 = v15447 := by rw [eI15454, pp_ne _ _ (Or.inr (by decide))]; exact ev15447
          have e15458 : I15454 (ad g 1) 2 = v15452 := by rw [eI15454, pp_self]
          have fr15459 : fz 74 g [1] I I15454 := by rw [eI15454]; exact fzx_pp hy fiI15440 (by decide) (by decide)
          clear eI15454
          exact WP_vret dX5_readWord_89 rfl ⟨⟨hI15454, rfl, fr15459⟩, rfl⟩
        refine WQ_icmp_le 85 dX5_readWord_78 rfl (fun c15459 => ?_) (fun c15459 => ?_)
        · refine WQ_iconst (1) (1) dX5_readWord_85 rfl rfl (fun v15461 hv15461 => ?_)
          exact WP_sub (fc rfl fn) (jn86_15452 v15461 (by omega) (by omega))
        · refine WQ_iconst (4) (4) dX5_readWord_81 rfl rfl (fun v15462 hv15462 => ?_)
          refine WP_goto 86 dX5_readWord_82 rfl ?_
          exact WP_sub (fc rfl fn) (jn86_15452 v15462 (by omega) (by omega))
      · refine WP_aload_n dX5_readWord_16 rfl ?_
        refine WP_getr dX5_readWord_17 fX5_9 rfl (lyx_is hy 1 5 rfl) (rfx hr 1 0 2 (by decide)) ?_
        refine WP_aload_n dX5_readWord_20 rfl ?_
        refine WQ_getim dX5_readWord_21 fX5_19 rfl (lyx_is hy 1 5 rfl) ew15442 ?_
        refine WQ_baldu dX5_readWord_24 (lyx_is hy 2 12 rfl) (lyx_n hy 2 900 rfl) (by omega) (by omega) (fun v15463 => ?_)
        refine WP_callS1 dX5_readWord_25 ⟨⟨⟨by decide, by decide⟩, zX5_isLetter⟩, lX5_28, tX5_isLetter⟩ (sx_isLetter hy hr hI15440 v15463 ) (Nat.le_of_ble_eq_true rfl) ?_
        intro r Ia Ja Ra hq
        obtain ⟨⟨ea, eb, ec⟩, v15464, rfl, av15464, bv15464⟩ := hq
        show WP _ _ _ _ (.int _ :: _) _ _ _ _
        rw [ea, eb, ec]
        clear ea eb ec Ia Ja Ra
        refine WQ_if_eq 66 dX5_readWord_28 rfl (fun c15464 => ?_) (fun c15464 => ?_)
        · refine WP_aload_n dX5_readWord_66 rfl ?_
          refine WP_aload_n dX5_readWord_67 rfl ?_
          refine WQ_getim dX5_readWord_68 fX5_19 rfl (lyx_is hy 1 5 rfl) ew15442 ?_
          refine WP_aload_n dX5_readWord_71 rfl ?_
          refine WQ_geti dX5_readWord_72 fX5_22 rfl (lyx_is hy 1 5 rfl) (BT_get hI15440.1 1 3 4 (0) (0) (900) (by decide) 3 (by decide) (by decide)) (fun v15466 ev15466 av15466 bv15466 => ?_)
          refine WQ_isub dX5_readWord_75 (by omega) (by omega) (fun v15467 hv15467 => ?_)
          refine WQ_bipush (8) (8) dX5_readWord_76 rfl rfl (fun v15468 hv15468 => ?_)
          have jn86_15471 : ∀ (v15471 : Int32), 1 ≤ v15471.toInt → v15471.toInt ≤ 4 → WP g mX5_readWord 86 [(0, .ref (ad g 1))] [.int v15471, .ref (ad g 1)] I15440 J15441 R (fun r I' J' R' => (XI g n L I' ∧ R' = R ∧ fz 74 g [1] I I') ∧ r = none) := by
            intro v15471 av15471 bv15471
            refine WQ_puti dX5_readWord_86 fX5_25 rfl rfl (lyx_is hy 1 5 rfl) (fun I15473 eI15473 => ?_)
            have hI15473 : XI g n L I15473 := by rw [eI15473]; exact (xi_f hy hI15440 (c := 1) (0) (0) (4) (by decide) (Or.inr (by decide)) (by decide) (by omega) (by omega))
            have e15474 : I15473 (ad g 1) 6 = w15442 := by rw [eI15473, pp_ne _ _ (Or.inr (by decide))]; exact ew15442
            have e15475 : I15473 (ad g 1) 1 = L := by rw [eI15473, pp_ne _ _ (Or.inr (by decide))]; exact e15444
            have e15476 : I15473 (ad g 1) 3 = v15466 := by rw [eI15473, pp_ne _ _ (Or.inr (by decide))]; exact ev15466
            have e15477 : I15473 (ad g 1) 2 = v15471 := by rw [eI15473, pp_self]
            have fr15478 : fz 74 g [1] I I15473 := by rw [eI15473]; exact fzx_pp hy fiI15440 (by decide) (by decide)
            clear eI15473
            exact WP_vret dX5_readWord_89 rfl ⟨⟨hI15473, rfl, fr15478⟩, rfl⟩
          refine WQ_icmp_le 85 dX5_readWord_78 rfl (fun c15478 => ?_) (fun c15478 => ?_)
          · refine WQ_iconst (1) (1) dX5_readWord_85 rfl rfl (fun v15480 hv15480 => ?_)
            exact WP_sub (fc rfl fn) (jn86_15471 v15480 (by omega) (by omega))
          · refine WQ_iconst (4) (4) dX5_readWord_81 rfl rfl (fun v15481 hv15481 => ?_)
            refine WP_goto 86 dX5_readWord_82 rfl ?_
            exact WP_sub (fc rfl fn) (jn86_15471 v15481 (by omega) (by omega))
        · refine WP_aload_n dX5_readWord_31 rfl ?_
          refine WP_aload_n dX5_readWord_32 rfl ?_
          refine WQ_getl dX5_readWord_33 fX5_41 rfl (lyx_is hy 1 5 rfl) (fun l15482 el15482 => ?_)
          refine WQ_bipush (8) (8) dX5_readWord_36 rfl rfl (fun v15483 hv15483 => ?_)
          refine WQ_lshl dX5_readWord_38 (fun l15484 => ?_)
          refine WP_aload_n dX5_readWord_39 rfl ?_
          refine WP_getr dX5_readWord_40 fX5_9 rfl (lyx_is hy 1 5 rfl) (rfx hr 1 0 2 (by decide)) ?_
          refine WP_aload_n dX5_readWord_43 rfl ?_
          refine WQ_getim dX5_readWord_44 fX5_19 rfl (lyx_is hy 1 5 rfl) ew15442 ?_
          refine WQ_baldu dX5_readWord_47 (lyx_is hy 2 12 rfl) (lyx_n hy 2 900 rfl) (by omega) (by omega) (fun v15485 => ?_)
          refine WQ_i2l dX5_readWord_48 (fun l15486 hl15486 => ?_)
          refine WQ_lor dX5_readWord_49 (fun l15487 => ?_)
          refine WQ_putl dX5_readWord_50 fX5_41 rfl rfl (lyx_is hy 1 5 rfl) (fun J15488 eJ15488 => ?_)
          clear eJ15488
          refine WP_aload_n dX5_readWord_53 rfl ?_
          refine WP_dup dX5_readWord_54 rfl ?_
          refine WQ_getim dX5_readWord_55 fX5_19 rfl (lyx_is hy 1 5 rfl) ew15442 ?_
          refine WQ_iconst (1) (1) dX5_readWord_58 rfl rfl (fun v15489 hv15489 => ?_)
          refine WQ_iadd dX5_readWord_59 (by omega) (by omega) (fun v15490 hv15490 => ?_)
          refine WQ_puti dX5_readWord_60 fX5_19 rfl rfl (lyx_is hy 1 5 rfl) (fun I15491 eI15491 => ?_)
          have hI15491 : XI g n L I15491 := by rw [eI15491]; exact (xi_f hy hI15440 (c := 1) (0) (0) (900) (by decide) (Or.inr (by decide)) (by decide) (by omega) (by omega))
          have e15492 : I15491 (ad g 1) 1 = L := by rw [eI15491, pp_ne _ _ (Or.inr (by decide))]; exact e15444
          have e15493 : I15491 (ad g 1) 6 = v15490 := by rw [eI15491, pp_self]
          have fr15494 : fz 74 g [1] I I15491 := by rw [eI15491]; exact fzx_pp hy fiI15440 (by decide) (by decide)
          clear eI15491
          refine WP_goto 5 dX5_readWord_63 rfl ?_
          exact WP_sub (fc rfl fn) (ihlp5_15442 I15491 J15488 hI15491 fr15494 v15490 e15493 (by omega))
  obtain ⟨w15495, ew15495⟩ : ∃ w : Int32, I (ad g 1) 6 = w := ⟨_, rfl⟩
  have bw15495 := BT_get hI.1 1 6 7 (0) (0) (900) (by decide) 6 (by decide) (by decide)
  rw [ew15495] at bw15495
  exact WP_sub (fc rfl fn) (lp5_15442 _ I J15439 hI fr0 w15495 ew15495 (Nat.lt_succ_self _))
set_option maxHeartbeats 4000000 in
set_option maxRecDepth 100000 in
theorem sx_readNumberf {g : GG} {n : Int} {L : Int32} (hy : LyX g)  {I : pI} {J : pJ} {R : pR} (hr : RfX g R) (hI : XI g n L I)   : SP g mX5_readNumber [.ref (ad g 1)] I J R (fun r I' J' R' => (XI g n L I' ∧ R' = R ∧ fz 74 g [1] I I') ∧ r = none) := by
  refine SP_of ⟨by decide, rfl⟩ (Nat.le_of_ble_eq_true rfl) ?_
  have e15496 : I (ad g 1) 1 = L := hI.2
  have b15497 := BT_get hI.1 1 1 2 (0) (0) (900) (by decide) 1 (by decide) (by decide)
  rw [e15496] at b15497
  have fr0 : fz 74 g [1] I I := fz_rf
  refine WP_aload_n dX5_readNumber_0 rfl ?_
  refine WQ_iconst (0) (0) dX5_readNumber_1 rfl rfl (fun v15498 hv15498 => ?_)
  refine WQ_puti dX5_readNumber_2 fX5_45 rfl rfl (lyx_is hy 1 5 rfl) (fun I15499 eI15499 => ?_)
  have hI15499 : XI g n L I15499 := by rw [eI15499]; exact (xi_f0 hy hI (c := 1) (by decide) (Or.inr (by decide)) (by decide))
  have e15500 : I15499 (ad g 1) 1 = L := by rw [eI15499, pp_ne _ _ (Or.inr (by decide))]; exact e15496
  have e15501 : I15499 (ad g 1) 4 = v15498 := by rw [eI15499, pp_self]
  have fr15502 : fz 74 g [1] I I15499 := by rw [eI15499]; exact fzx_pp hy fr0 (by decide) (by decide)
  clear eI15499
  have lp5_15505 : ∀ (mz : Nat)  (I15503 : pI) (J15504 : pJ), XI g n L I15503 → fz 74 g [1] I I15503 → ∀ (w15505 : Int32), I15503 (ad g 1) 6 = w15505 → (901 - w15505.toInt).toNat < mz → WP g mX5_readNumber 5 [(0, .ref (ad g 1))] [] I15503 J15504 R (fun r I' J' R' => (XI g n L I' ∧ R' = R ∧ fz 74 g [1] I I') ∧ r = none) := by
    intro mz
    induction mz with
    | zero =>
      intro  I15503 J15504 hI15503 fiI15503 w15505 ew15505  hmlp5_15505
      exact absurd hmlp5_15505 (Nat.not_lt_zero _)
    | succ mz ihlp5_15505 =>
      intro  I15503 J15504 hI15503 fiI15503 w15505 ew15505  hmlp5_15505
      have bw15505 := BT_get hI15503.1 1 6 7 (0) (0) (900) (by decide) 6 (by decide) (by decide)
      rw [ew15505] at bw15505
      have e15507 : I15503 (ad g 1) 1 = L := hI15503.2
      have b15508 := BT_get hI15503.1 1 1 2 (0) (0) (900) (by decide) 1 (by decide) (by decide)
      rw [e15507] at b15508
      refine WP_aload_n dX5_readNumber_5 rfl ?_
      refine WQ_getim dX5_readNumber_6 fX5_19 rfl (lyx_is hy 1 5 rfl) ew15505 ?_
      refine WP_aload_n dX5_readNumber_9 rfl ?_
      refine WQ_getim dX5_readNumber_10 fX5_15 rfl (lyx_is hy 1 5 rfl) e15507 ?_
      refine WQ_icmp_ge 68 dX5_readNumber_13 rfl (fun c15508 => ?_) (fun c15508 => ?_)
      · refine WP_aload_n dX5_readNumber_68 rfl ?_
        refine WP_aload_n dX5_readNumber_69 rfl ?_
        refine WQ_getim dX5_readNumber_70 fX5_19 rfl (lyx_is hy 1 5 rfl) ew15505 ?_
        refine WP_aload_n dX5_readNumber_73 rfl ?_
        refine WQ_geti dX5_readNumber_74 fX5_22 rfl (lyx_is hy 1 5 rfl) (BT_get hI15503.1 1 3 4 (0) (0) (900) (by decide) 3 (by decide) (by decide)) (fun v15510 ev15510 av15510 bv15510 => ?_)
        refine WQ_isub dX5_readNumber_77 (by omega) (by omega) (fun v15511 hv15511 => ?_)
        refine WQ_iconst (4) (4) dX5_readNumber_78 rfl rfl (fun v15512 hv15512 => ?_)
        have jn87_15515 : ∀ (v15515 : Int32), 2 ≤ v15515.toInt → v15515.toInt ≤ 4 → WP g mX5_readNumber 87 [(0, .ref (ad g 1))] [.int v15515, .ref (ad g 1)] I15503 J15504 R (fun r I' J' R' => (XI g n L I' ∧ R' = R ∧ fz 74 g [1] I I') ∧ r = none) := by
          intro v15515 av15515 bv15515
          refine WQ_puti dX5_readNumber_87 fX5_25 rfl rfl (lyx_is hy 1 5 rfl) (fun I15517 eI15517 => ?_)
          have hI15517 : XI g n L I15517 := by rw [eI15517]; exact (xi_f hy hI15503 (c := 1) (0) (0) (4) (by decide) (Or.inr (by decide)) (by decide) (by omega) (by omega))
          have e15518 : I15517 (ad g 1) 6 = w15505 := by rw [eI15517, pp_ne _ _ (Or.inr (by decide))]; exact ew15505
          have e15519 : I15517 (ad g 1) 1 = L := by rw [eI15517, pp_ne _ _ (Or.inr (by decide))]; exact e15507
          have e15520 : I15517 (ad g 1) 3 = v15510 := by rw [eI15517, pp_ne _ _ (Or.inr (by decide))]; exact ev15510
          have e15521 : I15517 (ad g 1) 2 = v15515 := by rw [eI15517, pp_self]
          have fr15522 : fz 74 g [1] I I15517 := by rw [eI15517]; exact fzx_pp hy fiI15503 (by decide) (by decide)
          clear eI15517
          exact WP_vret dX5_readNumber_90 rfl ⟨⟨hI15517, rfl, fr15522⟩, rfl⟩
        refine WQ_icmp_le 86 dX5_readNumber_79 rfl (fun c15522 => ?_) (fun c15522 => ?_)
        · refine WQ_iconst (2) (2) dX5_readNumber_86 rfl rfl (fun v15524 hv15524 => ?_)
          exact WP_sub (fc rfl fn) (jn87_15515 v15524 (by omega) (by omega))
        · refine WQ_iconst (4) (4) dX5_readNumber_82 rfl rfl (fun v15525 hv15525 => ?_)
          refine WP_goto 87 dX5_readNumber_83 rfl ?_
          exact WP_sub (fc rfl fn) (jn87_15515 v15525 (by omega) (by omega))
      · refine WP_aload_n dX5_readNumber_16 rfl ?_
        refine WP_getr dX5_readNumber_17 fX5_9 rfl (lyx_is hy 1 5 rfl) (rfx hr 1 0 2 (by decide)) ?_
        refine WP_aload_n dX5_readNumber_20 rfl ?_
        refine WQ_getim dX5_readNumber_21 fX5_19 rfl (lyx_is hy 1 5 rfl) ew15505 ?_
        refine WQ_baldu dX5_readNumber_24 (lyx_is hy 2 12 rfl) (lyx_n hy 2 900 rfl) (by omega) (by omega) (fun v15526 => ?_)
        refine WP_callS1 dX5_readNumber_25 ⟨⟨⟨by decide, by decide⟩, zX5_isDigit⟩, lX5_35, tX5_isDigit⟩ (sx_isDigit hy hr hI15503 v15526 ) (Nat.le_of_ble_eq_true rfl) ?_
        intro r Ia Ja Ra hq
        obtain ⟨⟨ea, eb, ec⟩, v15527, rfl, av15527, bv15527⟩ := hq
        show WP _ _ _ _ (.int _ :: _) _ _ _ _
        rw [ea, eb, ec]
        clear ea eb ec Ia Ja Ra
        refine WQ_if_eq 68 dX5_readNumber_28 rfl (fun c15527 => ?_) (fun c15527 => ?_)
        · refine WP_aload_n dX5_readNumber_68 rfl ?_
          refine WP_aload_n dX5_readNumber_69 rfl ?_
          refine WQ_getim dX5_readNumber_70 fX5_19 rfl (lyx_is hy 1 5 rfl) ew15505 ?_
          refine WP_aload_n dX5_readNumber_73 rfl ?_
          refine WQ_geti dX5_readNumber_74 fX5_22 rfl (lyx_is hy 1 5 rfl) (BT_get hI15503.1 1 3 4 (0) (0) (900) (by decide) 3 (by decide) (by decide)) (fun v15529 ev15529 av15529 bv15529 => ?_)
          refine WQ_isub dX5_readNumber_77 (by omega) (by omega) (fun v15530 hv15530 => ?_)
          refine WQ_iconst (4) (4) dX5_readNumber_78 rfl rfl (fun v15531 hv15531 => ?_)
          have jn87_15534 : ∀ (v15534 : Int32), 2 ≤ v15534.toInt → v15534.toInt ≤ 4 → WP g mX5_readNumber 87 [(0, .ref (ad g 1))] [.int v15534, .ref (ad g 1)] I15503 J15504 R (fun r I' J' R' => (XI g n L I' ∧ R' = R ∧ fz 74 g [1] I I') ∧ r = none) := by
            intro v15534 av15534 bv15534
            refine WQ_puti dX5_readNumber_87 fX5_25 rfl rfl (lyx_is hy 1 5 rfl) (fun I15536 eI15536 => ?_)
            have hI15536 : XI g n L I15536 := by rw [eI15536]; exact (xi_f hy hI15503 (c := 1) (0) (0) (4) (by decide) (Or.inr (by decide)) (by decide) (by omega) (by omega))
            have e15537 : I15536 (ad g 1) 6 = w15505 := by rw [eI15536, pp_ne _ _ (Or.inr (by decide))]; exact ew15505
            have e15538 : I15536 (ad g 1) 1 = L := by rw [eI15536, pp_ne _ _ (Or.inr (by decide))]; exact e15507
            have e15539 : I15536 (ad g 1) 3 = v15529 := by rw [eI15536, pp_ne _ _ (Or.inr (by decide))]; exact ev15529
            have e15540 : I15536 (ad g 1) 2 = v15534 := by rw [eI15536, pp_self]
            have fr15541 : fz 74 g [1] I I15536 := by rw [eI15536]; exact fzx_pp hy fiI15503 (by decide) (by decide)
            clear eI15536
            exact WP_vret dX5_readNumber_90 rfl ⟨⟨hI15536, rfl, fr15541⟩, rfl⟩
          refine WQ_icmp_le 86 dX5_readNumber_79 rfl (fun c15541 => ?_) (fun c15541 => ?_)
          · refine WQ_iconst (2) (2) dX5_readNumber_86 rfl rfl (fun v15543 hv15543 => ?_)
            exact WP_sub (fc rfl fn) (jn87_15534 v15543 (by omega) (by omega))
          · refine WQ_iconst (4) (4) dX5_readNumber_82 rfl rfl (fun v15544 hv15544 => ?_)
            refine WP_goto 87 dX5_readNumber_83 rfl ?_
            exact WP_sub (fc rfl fn) (jn87_15534 v15544 (by omega) (by omega))
        · refine WP_aload_n dX5_readNumber_31 rfl ?_
          refine WP_aload_n dX5_readNumber_32 rfl ?_
          refine WQ_getiu dX5_readNumber_33 fX5_45 rfl (lyx_is hy 1 5 rfl) (fun v15545 ev15545 => ?_)
          refine WQ_bipush (10) (10) dX5_readNumber_36 rfl rfl (fun v15546 hv15546 => ?_)
          refine WQ_imulu dX5_readNumber_38 (fun v15547 => ?_)
          refine WP_aload_n dX5_readNumber_39 rfl ?_
          refine WP_getr dX5_readNumber_40 fX5_9 rfl (lyx_is hy 1 5 rfl) (rfx hr 1 0 2 (by decide)) ?_
          refine WP_aload_n dX5_readNumber_43 rfl ?_
          refine WQ_getim dX5_readNumber_44 fX5_19 rfl (lyx_is hy 1 5 rfl) ew15505 ?_
          refine WQ_baldu dX5_readNumber_47 (lyx_is hy 2 12 rfl) (lyx_n hy 2 900 rfl) (by omega) (by omega) (fun v15548 => ?_)
          refine WQ_iaddu dX5_readNumber_48 (fun v15549 => ?_)
          refine WQ_bipush (48) (48) dX5_readNumber_49 rfl rfl (fun v15550 hv15550 => ?_)
          refine WQ_isubu dX5_readNumber_51 (fun v15551 => ?_)
          refine WQ_puti dX5_readNumber_52 fX5_45 rfl rfl (lyx_is hy 1 5 rfl) (fun I15552 eI15552 => ?_)
          have hI15552 : XI g n L I15552 := by rw [eI15552]; exact (xi_f0 hy hI15503 (c := 1) (by decide) (Or.inr (by decide)) (by decide))
          have e15553 : I15552 (ad g 1) 6 = w15505 := by rw [eI15552, pp_ne _ _ (Or.inr (by decide))]; exact ew15505
          have e15554 : I15552 (ad g 1) 1 = L := by rw [eI15552, pp_ne _ _ (Or.inr (by decide))]; exact e15507
          have e15555 : I15552 (ad g 1) 4 = v15551 := by rw [eI15552, pp_self]
          have fr15556 : fz 74 g [1] I I15552 := by rw [eI15552]; exact fzx_pp hy fiI15503 (by decide) (by decide)
          clear eI15552
          refine WP_aload_n dX5_readNumber_55 rfl ?_
          refine WP_dup dX5_readNumber_56 rfl ?_
          refine WQ_getim dX5_readNumber_57 fX5_19 rfl (lyx_is hy 1 5 rfl) e15553 ?_
          refine WQ_iconst (1) (1) dX5_readNumber_60 rfl rfl (fun v15557 hv15557 => ?_)
          refine WQ_iadd dX5_readNumber_61 (by omega) (by omega) (fun v15558 hv15558 => ?_)
          refine WQ_puti dX5_readNumber_62 fX5_19 rfl rfl (lyx_is hy 1 5 rfl) (fun I15559 eI15559 => ?_)
          have hI15559 : XI g n L I15559 := by rw [eI15559]; exact (xi_f hy hI15552 (c := 1) (0) (0) (900) (by decide) (Or.inr (by decide)) (by decide) (by omega) (by omega))
          have e15560 : I15559 (ad g 1) 1 = L := by rw [eI15559, pp_ne _ _ (Or.inr (by decide))]; exact e15554
          have e15561 : I15559 (ad g 1) 4 = v15551 := by rw [eI15559, pp_ne _ _ (Or.inr (by decide))]; exact e15555
          have e15562 : I15559 (ad g 1) 6 = v15558 := by rw [eI15559, pp_self]
          have fr15563 : fz 74 g [1] I I15559 := by rw [eI15559]; exact fzx_pp hy fr15556 (by decide) (by decide)
          clear eI15559
          refine WP_goto 5 dX5_readNumber_65 rfl ?_
          exact WP_sub (fc rfl fn) (ihlp5_15505 I15559 J15504 hI15559 fr15563 v15558 e15562 (by omega))
  obtain ⟨w15564, ew15564⟩ : ∃ w : Int32, I15499 (ad g 1) 6 = w := ⟨_, rfl⟩
  have bw15564 := BT_get hI15499.1 1 6 7 (0) (0) (900) (by decide) 6 (by decide) (by decide)
  rw [ew15564] at bw15564
  exact WP_sub (fc rfl fn) (lp5_15505 _ I15499 J hI15499 fr15502 w15564 ew15564 (Nat.lt_succ_self _))
set_option maxHeartbeats 4000000 in
set_option maxRecDepth 100000 in
theorem sx_nextf {g : GG} {n : Int} {L : Int32} (hy : LyX g)  {I : pI} {J : pJ} {R : pR} (hr : RfX g R) (hI : XI g n L I)   : SP g mX5_next [.ref (ad g 1)] I J R (fun r I' J' R' => (XI g n L I' ∧ R' = R ∧ fz 74 g [1] I I') ∧ r = none) := by
  refine SP_of ⟨by decide, rfl⟩ (Nat.le_of_ble_eq_true rfl) ?_
  have e15565 : I (ad g 1) 1 = L := hI.2
  have b15566 := BT_get hI.1 1 1 2 (0) (0) (900) (by decide) 1 (by decide) (by decide)
  rw [e15565] at b15566
  have fr0 : fz 74 g [1] I I := fz_rf
  have lp0_15569 : ∀ (mz : Nat)  (I15567 : pI) (J15568 : pJ), XI g n L I15567 → fz 74 g [1] I I15567 → ∀ (w15569 : Int32), I15567 (ad g 1) 6 = w15569 → (901 - w15569.toInt).toNat < mz → WP g mX5_next 0 [(0, .ref (ad g 1))] [] I15567 J15568 R (fun r I' J' R' => (XI g n L I' ∧ R' = R ∧ fz 74 g [1] I I') ∧ r = none) := by
    intro mz
    induction mz with
    | zero =>
      intro  I15567 J15568 hI15567 fiI15567 w15569 ew15569  hmlp0_15569
      exact absurd hmlp0_15569 (Nat.not_lt_zero _)
    | succ mz ihlp0_15569 =>
      intro  I15567 J15568 hI15567 fiI15567 w15569 ew15569  hmlp0_15569
      have bw15569 := BT_get hI15567.1 1 6 7 (0) (0) (900) (by decide) 6 (by decide) (by decide)
      rw [ew15569] at bw15569
      have e15571 : I15567 (ad g 1) 1 = L := hI15567.2
      have b15572 := BT_get hI15567.1 1 1 2 (0) (0) (900) (by decide) 1 (by decide) (by decide)
      rw [e15571] at b15572
      refine WP_aload_n dX5_next_0 rfl ?_
      refine WQ_getim dX5_next_1 fX5_19 rfl (lyx_is hy 1 5 rfl) ew15569 ?_
      refine WP_aload_n dX5_next_4 rfl ?_
      refine WQ_getim dX5_next_5 fX5_15 rfl (lyx_is hy 1 5 rfl) e15571 ?_
      refine WQ_icmp_ge 52 dX5_next_8 rfl (fun c15572 => ?_) (fun c15572 => ?_)
      · refine WP_aload_n dX5_next_52 rfl ?_
        refine WP_aload_n dX5_next_53 rfl ?_
        refine WQ_getim dX5_next_54 fX5_19 rfl (lyx_is hy 1 5 rfl) ew15569 ?_
        refine WQ_puti dX5_next_57 fX5_22 rfl rfl (lyx_is hy 1 5 rfl) (fun I15574 eI15574 => ?_)
        have hI15574 : XI g n L I15574 := by rw [eI15574]; exact (xi_f hy hI15567 (c := 1) (0) (0) (900) (by decide) (Or.inr (by decide)) (by decide) (by omega) (by omega))
        have e15575 : I15574 (ad g 1) 6 = w15569 := by rw [eI15574, pp_ne _ _ (Or.inr (by decide))]; exact ew15569
        have e15576 : I15574 (ad g 1) 1 = L := by rw [eI15574, pp_ne _ _ (Or.inr (by decide))]; exact e15571
        have e15577 : I15574 (ad g 1) 3 = w15569 := by rw [eI15574, pp_self]
        have fr15578 : fz 74 g [1] I I15574 := by rw [eI15574]; exact fzx_pp hy fiI15567 (by decide) (by decide)
        clear eI15574
        refine WP_aload_n dX5_next_60 rfl ?_
        refine WQ_getim dX5_next_61 fX5_19 rfl (lyx_is hy 1 5 rfl) e15575 ?_
        refine WP_aload_n dX5_next_64 rfl ?_
        refine WQ_getim dX5_next_65 fX5_15 rfl (lyx_is hy 1 5 rfl) e15576 ?_
        refine WQ_icmp_lt 79 dX5_next_68 rfl (fun c15578 => ?_) (fun c15578 => ?_)
        · refine WP_aload_n dX5_next_79 rfl ?_
          refine WP_getr dX5_next_80 fX5_9 rfl (lyx_is hy 1 5 rfl) (rfx hr 1 0 2 (by decide)) ?_
          refine WP_aload_n dX5_next_83 rfl ?_
          refine WQ_getim dX5_next_84 fX5_19 rfl (lyx_is hy 1 5 rfl) e15575 ?_
          refine WQ_baldu dX5_next_87 (lyx_is hy 2 12 rfl) (lyx_n hy 2 900 rfl) (by omega) (by omega) (fun v15580 => ?_)
          refine WP_callS1 dX5_next_88 ⟨⟨⟨by decide, by decide⟩, zX5_isLetter⟩, lX5_28, tX5_isLetter⟩ (sx_isLetter hy hr hI15574 v15580 ) (Nat.le_of_ble_eq_true rfl) ?_
          intro r Ia Ja Ra hq
          obtain ⟨⟨ea, eb, ec⟩, v15581, rfl, av15581, bv15581⟩ := hq
          show WP _ _ _ _ (.int _ :: _) _ _ _ _
          rw [ea, eb, ec]
          clear ea eb ec Ia Ja Ra
          refine WQ_if_eq 101 dX5_next_91 rfl (fun c15581 => ?_) (fun c15581 => ?_)
          · refine WP_aload_n dX5_next_101 rfl ?_
            refine WP_getr dX5_next_102 fX5_9 rfl (lyx_is hy 1 5 rfl) (rfx hr 1 0 2 (by decide)) ?_
            refine WP_aload_n dX5_next_105 rfl ?_
            refine WQ_getim dX5_next_106 fX5_19 rfl (lyx_is hy 1 5 rfl) e15575 ?_
            refine WQ_baldu dX5_next_109 (lyx_is hy 2 12 rfl) (lyx_n hy 2 900 rfl) (by omega) (by omega) (fun v15583 => ?_)
            refine WP_callS1 dX5_next_110 ⟨⟨⟨by decide, by decide⟩, zX5_isDigit⟩, lX5_35, tX5_isDigit⟩ (sx_isDigit hy hr hI15574 v15583 ) (Nat.le_of_ble_eq_true rfl) ?_
            intro r Ia Ja Ra hq
            obtain ⟨⟨ea, eb, ec⟩, v15584, rfl, av15584, bv15584⟩ := hq
            show WP _ _ _ _ (.int _ :: _) _ _ _ _
            rw [ea, eb, ec]
            clear ea eb ec Ia Ja Ra
            refine WQ_if_eq 123 dX5_next_113 rfl (fun c15584 => ?_) (fun c15584 => ?_)
            · refine WP_aload_n dX5_next_123 rfl ?_
              refine WP_aload_n dX5_next_124 rfl ?_
              refine WP_getr dX5_next_125 fX5_9 rfl (lyx_is hy 1 5 rfl) (rfx hr 1 0 2 (by decide)) ?_
              refine WP_aload_n dX5_next_128 rfl ?_
              refine WQ_getim dX5_next_129 fX5_19 rfl (lyx_is hy 1 5 rfl) e15575 ?_
              refine WQ_baldu dX5_next_132 (lyx_is hy 2 12 rfl) (lyx_n hy 2 900 rfl) (by omega) (by omega) (fun v15586 => ?_)
              refine WQ_bipush (59) (59) dX5_next_133 rfl rfl (fun v15587 hv15587 => ?_)
              have jn143_15590 : ∀ (v15590 : Int32), 3 ≤ v15590.toInt → v15590.toInt ≤ 4 → WP g mX5_next 143 [(0, .ref (ad g 1))] [.int v15590, .ref (ad g 1)] I15574 J15568 R (fun r I' J' R' => (XI g n L I' ∧ R' = R ∧ fz 74 g [1] I I') ∧ r = none) := by
                intro v15590 av15590 bv15590
                refine WQ_puti dX5_next_143 fX5_25 rfl rfl (lyx_is hy 1 5 rfl) (fun I15592 eI15592 => ?_)
                have hI15592 : XI g n L I15592 := by rw [eI15592]; exact (xi_f hy hI15574 (c := 1) (0) (0) (4) (by decide) (Or.inr (by decide)) (by decide) (by omega) (by omega))
                have e15593 : I15592 (ad g 1) 6 = w15569 := by rw [eI15592, pp_ne _ _ (Or.inr (by decide))]; exact e15575
                have e15594 : I15592 (ad g 1) 1 = L := by rw [eI15592, pp_ne _ _ (Or.inr (by decide))]; exact e15576
                have e15595 : I15592 (ad g 1) 3 = w15569 := by rw [eI15592, pp_ne _ _ (Or.inr (by decide))]; exact e15577
                have e15596 : I15592 (ad g 1) 2 = v15590 := by rw [eI15592, pp_self]
                have fr15597 : fz 74 g [1] I I15592 := by rw [eI15592]; exact fzx_pp hy fr15578 (by decide) (by decide)
                clear eI15592
                refine WP_aload_n dX5_next_146 rfl ?_
                refine WP_dup dX5_next_147 rfl ?_
                refine WQ_getim dX5_next_148 fX5_19 rfl (lyx_is hy 1 5 rfl) e15593 ?_
                refine WQ_iconst (1) (1) dX5_next_151 rfl rfl (fun v15598 hv15598 => ?_)
                refine WQ_iadd dX5_next_152 (by omega) (by omega) (fun v15599 hv15599 => ?_)
                refine WQ_puti dX5_next_153 fX5_19 rfl rfl (lyx_is hy 1 5 rfl) (fun I15600 eI15600 => ?_)
                have hI15600 : XI g n L I15600 := by rw [eI15600]; exact (xi_f hy hI15592 (c := 1) (0) (0) (900) (by decide) (Or.inr (by decide)) (by decide) (by omega) (by omega))
                have e15601 : I15600 (ad g 1) 1 = L := by rw [eI15600, pp_ne _ _ (Or.inr (by decide))]; exact e15594
                have e15602 : I15600 (ad g 1) 3 = w15569 := by rw [eI15600, pp_ne _ _ (Or.inr (by decide))]; exact e15595
                have e15603 : I15600 (ad g 1) 2 = v15590 := by rw [eI15600, pp_ne _ _ (Or.inr (by decide))]; exact e15596
                have e15604 : I15600 (ad g 1) 6 = v15599 := by rw [eI15600, pp_self]
                have fr15605 : fz 74 g [1] I I15600 := by rw [eI15600]; exact fzx_pp hy fr15597 (by decide) (by decide)
                clear eI15600
                exact WP_vret dX5_next_156 rfl ⟨⟨hI15600, rfl, fr15605⟩, rfl⟩
              refine WX_icmp_ne 142 dX5_next_135 rfl ?_ ?_
              · refine WQ_iconst (4) (4) dX5_next_142 rfl rfl (fun v15606 hv15606 => ?_)
                exact WP_sub (fc rfl fn) (jn143_15590 v15606 (by omega) (by omega))
              · refine WQ_iconst (3) (3) dX5_next_138 rfl rfl (fun v15607 hv15607 => ?_)
                refine WP_goto 143 dX5_next_139 rfl ?_
                exact WP_sub (fc rfl fn) (jn143_15590 v15607 (by omega) (by omega))
            · refine WP_aload_n dX5_next_116 rfl ?_
              refine WP_callV0 (k := 5) dX5_next_117 ⟨⟨⟨by decide, by decide⟩, zX5_readNumber⟩, lX5_38, by decide, rfl, vX5_readNumber.1, vX5_readNumber.2⟩ (lyx_is hy 1 5 rfl) (sx_readNumberf hy hr hI15574  ) (Nat.le_of_ble_eq_true rfl) ?_
              intro r I15608 J15609 Ra hq
              obtain ⟨⟨hI15608, ec, fiI15608⟩, rfl⟩ := hq
              rw [ec]
              clear ec Ra
              have fr15610 : fz 74 g [1] I I15608 := fz_tr fr15578 (fz_mono fiI15608 (by decide))
              have e15611 : I15608 (ad g 1) 1 = L := hI15608.2
              have b15612 := BT_get hI15608.1 1 1 2 (0) (0) (900) (by decide) 1 (by decide) (by decide)
              rw [e15611] at b15612
              refine WP_goto 156 dX5_next_120 rfl ?_
              exact WP_vret dX5_next_156 rfl ⟨⟨hI15608, rfl, fr15610⟩, rfl⟩
          · refine WP_aload_n dX5_next_94 rfl ?_
            refine WP_callV0 (k := 5) dX5_next_95 ⟨⟨⟨by decide, by decide⟩, zX5_readWord⟩, lX5_32, by decide, rfl, vX5_readWord.1, vX5_readWord.2⟩ (lyx_is hy 1 5 rfl) (sx_readWordf hy hr hI15574  ) (Nat.le_of_ble_eq_true rfl) ?_
            intro r I15613 J15614 Ra hq
            obtain ⟨⟨hI15613, ec, fiI15613⟩, rfl⟩ := hq
            rw [ec]
            clear ec Ra
            have fr15615 : fz 74 g [1] I I15613 := fz_tr fr15578 (fz_mono fiI15613 (by decide))
            have e15616 : I15613 (ad g 1) 1 = L := hI15613.2
            have b15617 := BT_get hI15613.1 1 1 2 (0) (0) (900) (by decide) 1 (by decide) (by decide)
            rw [e15616] at b15617
            refine WP_goto 156 dX5_next_98 rfl ?_
            exact WP_vret dX5_next_156 rfl ⟨⟨hI15613, rfl, fr15615⟩, rfl⟩
        · refine WP_aload_n dX5_next_71 rfl ?_
          refine WQ_iconst (0) (0) dX5_next_72 rfl rfl (fun v15618 hv15618 => ?_)
          refine WQ_puti dX5_next_73 fX5_25 rfl rfl (lyx_is hy 1 5 rfl) (fun I15619 eI15619 => ?_)
          have hI15619 : XI g n L I15619 := by rw [eI15619]; exact (xi_f hy hI15574 (c := 1) (0) (0) (4) (by decide) (Or.inr (by decide)) (by decide) (by omega) (by omega))
          have e15620 : I15619 (ad g 1) 6 = w15569 := by rw [eI15619, pp_ne _ _ (Or.inr (by decide))]; exact e15575
          have e15621 : I15619 (ad g 1) 1 = L := by rw [eI15619, pp_ne _ _ (Or.inr (by decide))]; exact e15576
          have e15622 : I15619 (ad g 1) 3 = w15569 := by rw [eI15619, pp_ne _ _ (Or.inr (by decide))]; exact e15577
          have e15623 : I15619 (ad g 1) 2 = v15618 := by rw [eI15619, pp_self]
          have fr15624 : fz 74 g [1] I I15619 := by rw [eI15619]; exact fzx_pp hy fr15578 (by decide) (by decide)
          clear eI15619
          refine WP_goto 156 dX5_next_76 rfl ?_
          exact WP_vret dX5_next_156 rfl ⟨⟨hI15619, rfl, fr15624⟩, rfl⟩
      · refine WP_aload_n dX5_next_11 rfl ?_
        refine WP_getr dX5_next_12 fX5_9 rfl (lyx_is hy 1 5 rfl) (rfx hr 1 0 2 (by decide)) ?_
        refine WP_aload_n dX5_next_15 rfl ?_
        refine WQ_getim dX5_next_16 fX5_19 rfl (lyx_is hy 1 5 rfl) ew15569 ?_
        refine WQ_baldu dX5_next_19 (lyx_is hy 2 12 rfl) (lyx_n hy 2 900 rfl) (by omega) (by omega) (fun v15625 => ?_)
        refine WQ_bipush (32) (32) dX5_next_20 rfl rfl (fun v15626 hv15626 => ?_)
        refine WX_icmp_eq 39 dX5_next_22 rfl ?_ ?_
        · refine WP_aload_n dX5_next_39 rfl ?_
          refine WP_dup dX5_next_40 rfl ?_
          refine WQ_getim dX5_next_41 fX5_19 rfl (lyx_is hy 1 5 rfl) ew15569 ?_
          refine WQ_iconst (1) (1) dX5_next_44 rfl rfl (fun v15627 hv15627 => ?_)
          refine WQ_iadd dX5_next_45 (by omega) (by omega) (fun v15628 hv15628 => ?_)
          refine WQ_puti dX5_next_46 fX5_19 rfl rfl (lyx_is hy 1 5 rfl) (fun I15629 eI15629 => ?_)
          have hI15629 : XI g n L I15629 := by rw [eI15629]; exact (xi_f hy hI15567 (c := 1) (0) (0) (900) (by decide) (Or.inr (by decide)) (by decide) (by omega) (by omega))
          have e15630 : I15629 (ad g 1) 1 = L := by rw [eI15629, pp_ne _ _ (Or.inr (by decide))]; exact e15571
          have e15631 : I15629 (ad g 1) 6 = v15628 := by rw [eI15629, pp_self]
          have fr15632 : fz 74 g [1] I I15629 := by rw [eI15629]; exact fzx_pp hy fiI15567 (by decide) (by decide)
          clear eI15629
          refine WP_goto 0 dX5_next_49 rfl ?_
          exact WP_sub (fc rfl fn) (ihlp0_15569 I15629 J15568 hI15629 fr15632 v15628 e15631 (by omega))
        · refine WP_aload_n dX5_next_25 rfl ?_
          refine WP_getr dX5_next_26 fX5_9 rfl (lyx_is hy 1 5 rfl) (rfx hr 1 0 2 (by decide)) ?_
          refine WP_aload_n dX5_next_29 rfl ?_
          refine WQ_getim dX5_next_30 fX5_19 rfl (lyx_is hy 1 5 rfl) ew15569 ?_
          refine WQ_baldu dX5_next_33 (lyx_is hy 2 12 rfl) (lyx_n hy 2 900 rfl) (by omega) (by omega) (fun v15633 => ?_)
          refine WQ_bipush (10) (10) dX5_next_34 rfl rfl (fun v15634 hv15634 => ?_)
          refine WX_icmp_ne 52 dX5_next_36 rfl ?_ ?_
          · refine WP_aload_n dX5_next_52 rfl ?_
            refine WP_aload_n dX5_next_53 rfl ?_
            refine WQ_getim dX5_next_54 fX5_19 rfl (lyx_is hy 1 5 rfl) ew15569 ?_
            refine WQ_puti dX5_next_57 fX5_22 rfl rfl (lyx_is hy 1 5 rfl) (fun I15635 eI15635 => ?_)
            have hI15635 : XI g n L I15635 := by rw [eI15635]; exact (xi_f hy hI15567 (c := 1) (0) (0) (900) (by decide) (Or.inr (by decide)) (by decide) (by omega) (by omega))
            have e15636 : I15635 (ad g 1) 6 = w15569 := by rw [eI15635, pp_ne _ _ (Or.inr (by decide))]; exact ew15569
            have e15637 : I15635 (ad g 1) 1 = L := by rw [eI15635, pp_ne _ _ (Or.inr (by decide))]; exact e15571
            have e15638 : I15635 (ad g 1) 3 = w15569 := by rw [eI15635, pp_self]
            have fr15639 : fz 74 g [1] I I15635 := by rw [eI15635]; exact fzx_pp hy fiI15567 (by decide) (by decide)
            clear eI15635
            refine WP_aload_n dX5_next_60 rfl ?_
            refine WQ_getim dX5_next_61 fX5_19 rfl (lyx_is hy 1 5 rfl) e15636 ?_
            refine WP_aload_n dX5_next_64 rfl ?_
            refine WQ_getim dX5_next_65 fX5_15 rfl (lyx_is hy 1 5 rfl) e15637 ?_
            refine WQ_icmp_lt 79 dX5_next_68 rfl (fun c15639 => ?_) (fun c15639 => ?_)
            · refine WP_aload_n dX5_next_79 rfl ?_
              refine WP_getr dX5_next_80 fX5_9 rfl (lyx_is hy 1 5 rfl) (rfx hr 1 0 2 (by decide)) ?_
              refine WP_aload_n dX5_next_83 rfl ?_
              refine WQ_getim dX5_next_84 fX5_19 rfl (lyx_is hy 1 5 rfl) e15636 ?_
              refine WQ_baldu dX5_next_87 (lyx_is hy 2 12 rfl) (lyx_n hy 2 900 rfl) (by omega) (by omega) (fun v15641 => ?_)
              refine WP_callS1 dX5_next_88 ⟨⟨⟨by decide, by decide⟩, zX5_isLetter⟩, lX5_28, tX5_isLetter⟩ (sx_isLetter hy hr hI15635 v15641 ) (Nat.le_of_ble_eq_true rfl) ?_
              intro r Ia Ja Ra hq
              obtain ⟨⟨ea, eb, ec⟩, v15642, rfl, av15642, bv15642⟩ := hq
              show WP _ _ _ _ (.int _ :: _) _ _ _ _
              rw [ea, eb, ec]
              clear ea eb ec Ia Ja Ra
              refine WQ_if_eq 101 dX5_next_91 rfl (fun c15642 => ?_) (fun c15642 => ?_)
              · refine WP_aload_n dX5_next_101 rfl ?_
                refine WP_getr dX5_next_102 fX5_9 rfl (lyx_is hy 1 5 rfl) (rfx hr 1 0 2 (by decide)) ?_
                refine WP_aload_n dX5_next_105 rfl ?_
                refine WQ_getim dX5_next_106 fX5_19 rfl (lyx_is hy 1 5 rfl) e15636 ?_
                refine WQ_baldu dX5_next_109 (lyx_is hy 2 12 rfl) (lyx_n hy 2 900 rfl) (by omega) (by omega) (fun v15644 => ?_)
                refine WP_callS1 dX5_next_110 ⟨⟨⟨by decide, by decide⟩, zX5_isDigit⟩, lX5_35, tX5_isDigit⟩ (sx_isDigit hy hr hI15635 v15644 ) (Nat.le_of_ble_eq_true rfl) ?_
                intro r Ia Ja Ra hq
                obtain ⟨⟨ea, eb, ec⟩, v15645, rfl, av15645, bv15645⟩ := hq
                show WP _ _ _ _ (.int _ :: _) _ _ _ _
                rw [ea, eb, ec]
                clear ea eb ec Ia Ja Ra
                refine WQ_if_eq 123 dX5_next_113 rfl (fun c15645 => ?_) (fun c15645 => ?_)
                · refine WP_aload_n dX5_next_123 rfl ?_
                  refine WP_aload_n dX5_next_124 rfl ?_
                  refine WP_getr dX5_next_125 fX5_9 rfl (lyx_is hy 1 5 rfl) (rfx hr 1 0 2 (by decide)) ?_
                  refine WP_aload_n dX5_next_128 rfl ?_
                  refine WQ_getim dX5_next_129 fX5_19 rfl (lyx_is hy 1 5 rfl) e15636 ?_
                  refine WQ_baldu dX5_next_132 (lyx_is hy 2 12 rfl) (lyx_n hy 2 900 rfl) (by omega) (by omega) (fun v15647 => ?_)
                  refine WQ_bipush (59) (59) dX5_next_133 rfl rfl (fun v15648 hv15648 => ?_)
                  have jn143_15651 : ∀ (v15651 : Int32), 3 ≤ v15651.toInt → v15651.toInt ≤ 4 → WP g mX5_next 143 [(0, .ref (ad g 1))] [.int v15651, .ref (ad g 1)] I15635 J15568 R (fun r I' J' R' => (XI g n L I' ∧ R' = R ∧ fz 74 g [1] I I') ∧ r = none) := by
                    intro v15651 av15651 bv15651
                    refine WQ_puti dX5_next_143 fX5_25 rfl rfl (lyx_is hy 1 5 rfl) (fun I15653 eI15653 => ?_)
                    have hI15653 : XI g n L I15653 := by rw [eI15653]; exact (xi_f hy hI15635 (c := 1) (0) (0) (4) (by decide) (Or.inr (by decide)) (by decide) (by omega) (by omega))
                    have e15654 : I15653 (ad g 1) 6 = w15569 := by rw [eI15653, pp_ne _ _ (Or.inr (by decide))]; exact e15636
                    have e15655 : I15653 (ad g 1) 1 = L := by rw [eI15653, pp_ne _ _ (Or.inr (by decide))]; exact e15637
                    have e15656 : I15653 (ad g 1) 3 = w15569 := by rw [eI15653, pp_ne _ _ (Or.inr (by decide))]; exact e15638
                    have e15657 : I15653 (ad g 1) 2 = v15651 := by rw [eI15653, pp_self]
                    have fr15658 : fz 74 g [1] I I15653 := by rw [eI15653]; exact fzx_pp hy fr15639 (by decide) (by decide)
                    clear eI15653
                    refine WP_aload_n dX5_next_146 rfl ?_
                    refine WP_dup dX5_next_147 rfl ?_
                    refine WQ_getim dX5_next_148 fX5_19 rfl (lyx_is hy 1 5 rfl) e15654 ?_
                    refine WQ_iconst (1) (1) dX5_next_151 rfl rfl (fun v15659 hv15659 => ?_)
                    refine WQ_iadd dX5_next_152 (by omega) (by omega) (fun v15660 hv15660 => ?_)
                    refine WQ_puti dX5_next_153 fX5_19 rfl rfl (lyx_is hy 1 5 rfl) (fun I15661 eI15661 => ?_)
                    have hI15661 : XI g n L I15661 := by rw [eI15661]; exact (xi_f hy hI15653 (c := 1) (0) (0) (900) (by decide) (Or.inr (by decide)) (by decide) (by omega) (by omega))
                    have e15662 : I15661 (ad g 1) 1 = L := by rw [eI15661, pp_ne _ _ (Or.inr (by decide))]; exact e15655
                    have e15663 : I15661 (ad g 1) 3 = w15569 := by rw [eI15661, pp_ne _ _ (Or.inr (by decide))]; exact e15656
                    have e15664 : I15661 (ad g 1) 2 = v15651 := by rw [eI15661, pp_ne _ _ (Or.inr (by decide))]; exact e15657
                    have e15665 : I15661 (ad g 1) 6 = v15660 := by rw [eI15661, pp_self]
                    have fr15666 : fz 74 g [1] I I15661 := by rw [eI15661]; exact fzx_pp hy fr15658 (by decide) (by decide)
                    clear eI15661
                    exact WP_vret dX5_next_156 rfl ⟨⟨hI15661, rfl, fr15666⟩, rfl⟩
                  refine WX_icmp_ne 142 dX5_next_135 rfl ?_ ?_
                  · refine WQ_iconst (4) (4) dX5_next_142 rfl rfl (fun v15667 hv15667 => ?_)
                    exact WP_sub (fc rfl fn) (jn143_15651 v15667 (by omega) (by omega))
                  · refine WQ_iconst (3) (3) dX5_next_138 rfl rfl (fun v15668 hv15668 => ?_)
                    refine WP_goto 143 dX5_next_139 rfl ?_
                    exact WP_sub (fc rfl fn) (jn143_15651 v15668 (by omega) (by omega))
                · refine WP_aload_n dX5_next_116 rfl ?_
                  refine WP_callV0 (k := 5) dX5_next_117 ⟨⟨⟨by decide, by decide⟩, zX5_readNumber⟩, lX5_38, by decide, rfl, vX5_readNumber.1, vX5_readNumber.2⟩ (lyx_is hy 1 5 rfl) (sx_readNumberf hy hr hI15635  ) (Nat.le_of_ble_eq_true rfl) ?_
                  intro r I15669 J15670 Ra hq
                  obtain ⟨⟨hI15669, ec, fiI15669⟩, rfl⟩ := hq
                  rw [ec]
                  clear ec Ra
                  have fr15671 : fz 74 g [1] I I15669 := fz_tr fr15639 (fz_mono fiI15669 (by decide))
                  have e15672 : I15669 (ad g 1) 1 = L := hI15669.2
                  have b15673 := BT_get hI15669.1 1 1 2 (0) (0) (900) (by decide) 1 (by decide) (by decide)
                  rw [e15672] at b15673
                  refine WP_goto 156 dX5_next_120 rfl ?_
                  exact WP_vret dX5_next_156 rfl ⟨⟨hI15669, rfl, fr15671⟩, rfl⟩
              · refine WP_aload_n dX5_next_94 rfl ?_
                refine WP_callV0 (k := 5) dX5_next_95 ⟨⟨⟨by decide, by decide⟩, zX5_readWord⟩, lX5_32, by decide, rfl, vX5_readWord.1, vX5_readWord.2⟩ (lyx_is hy 1 5 rfl) (sx_readWordf hy hr hI15635  ) (Nat.le_of_ble_eq_true rfl) ?_
                intro r I15674 J15675 Ra hq
                obtain ⟨⟨hI15674, ec, fiI15674⟩, rfl⟩ := hq
                rw [ec]
                clear ec Ra
                have fr15676 : fz 74 g [1] I I15674 := fz_tr fr15639 (fz_mono fiI15674 (by decide))
                have e15677 : I15674 (ad g 1) 1 = L := hI15674.2
                have b15678 := BT_get hI15674.1 1 1 2 (0) (0) (900) (by decide) 1 (by decide) (by decide)
                rw [e15677] at b15678
                refine WP_goto 156 dX5_next_98 rfl ?_
                exact WP_vret dX5_next_156 rfl ⟨⟨hI15674, rfl, fr15676⟩, rfl⟩
            · refine WP_aload_n dX5_next_71 rfl ?_
              refine WQ_iconst (0) (0) dX5_next_72 rfl rfl (fun v15679 hv15679 => ?_)
              refine WQ_puti dX5_next_73 fX5_25 rfl rfl (lyx_is hy 1 5 rfl) (fun I15680 eI15680 => ?_)
              have hI15680 : XI g n L I15680 := by rw [eI15680]; exact (xi_f hy hI15635 (c := 1) (0) (0) (4) (by decide) (Or.inr (by decide)) (by decide) (by omega) (by omega))
              have e15681 : I15680 (ad g 1) 6 = w15569 := by rw [eI15680, pp_ne _ _ (Or.inr (by decide))]; exact e15636
              have e15682 : I15680 (ad g 1) 1 = L := by rw [eI15680, pp_ne _ _ (Or.inr (by decide))]; exact e15637
              have e15683 : I15680 (ad g 1) 3 = w15569 := by rw [eI15680, pp_ne _ _ (Or.inr (by decide))]; exact e15638
              have e15684 : I15680 (ad g 1) 2 = v15679 := by rw [eI15680, pp_self]
              have fr15685 : fz 74 g [1] I I15680 := by rw [eI15680]; exact fzx_pp hy fr15639 (by decide) (by decide)
              clear eI15680
              refine WP_goto 156 dX5_next_76 rfl ?_
              exact WP_vret dX5_next_156 rfl ⟨⟨hI15680, rfl, fr15685⟩, rfl⟩
          · refine WP_aload_n dX5_next_39 rfl ?_
            refine WP_dup dX5_next_40 rfl ?_
            refine WQ_getim dX5_next_41 fX5_19 rfl (lyx_is hy 1 5 rfl) ew15569 ?_
            refine WQ_iconst (1) (1) dX5_next_44 rfl rfl (fun v15686 hv15686 => ?_)
            refine WQ_iadd dX5_next_45 (by omega) (by omega) (fun v15687 hv15687 => ?_)
            refine WQ_puti dX5_next_46 fX5_19 rfl rfl (lyx_is hy 1 5 rfl) (fun I15688 eI15688 => ?_)
            have hI15688 : XI g n L I15688 := by rw [eI15688]; exact (xi_f hy hI15567 (c := 1) (0) (0) (900) (by decide) (Or.inr (by decide)) (by decide) (by omega) (by omega))
            have e15689 : I15688 (ad g 1) 1 = L := by rw [eI15688, pp_ne _ _ (Or.inr (by decide))]; exact e15571
            have e15690 : I15688 (ad g 1) 6 = v15687 := by rw [eI15688, pp_self]
            have fr15691 : fz 74 g [1] I I15688 := by rw [eI15688]; exact fzx_pp hy fiI15567 (by decide) (by decide)
            clear eI15688
            refine WP_goto 0 dX5_next_49 rfl ?_
            exact WP_sub (fc rfl fn) (ihlp0_15569 I15688 J15568 hI15688 fr15691 v15687 e15690 (by omega))
  obtain ⟨w15692, ew15692⟩ : ∃ w : Int32, I (ad g 1) 6 = w := ⟨_, rfl⟩
  have bw15692 := BT_get hI.1 1 6 7 (0) (0) (900) (by decide) 6 (by decide) (by decide)
  rw [ew15692] at bw15692
  exact WP_sub (fc rfl fn) (lp0_15569 _ I J hI fr0 w15692 ew15692 (Nat.lt_succ_self _))
set_option maxHeartbeats 4000000 in
set_option maxRecDepth 100000 in
theorem sx_notef {g : GG} {n : Int} {L : Int32} (hy : LyX g)  {I : pI} {J : pJ} {R : pR} (hr : RfX g R) (hI : XI g n L I) (k : Int32)  : SP g mX3_note [.ref (ad g 3), .int k] I J R (fun r I' J' R' => (XI g n L I' ∧ R' = R ∧ fz 74 g [3] I I') ∧ r = none) := by
  refine SP_of ⟨by decide, rfl⟩ (Nat.le_of_ble_eq_true rfl) ?_
  have e15693 : I (ad g 1) 1 = L := hI.2
  have b15694 := BT_get hI.1 1 1 2 (0) (0) (900) (by decide) 1 (by decide) (by decide)
  rw [e15693] at b15694
  have fr0 : fz 74 g [3] I I := fz_rf
  refine WP_aload_n dX3_note_0 rfl ?_
  refine WP_iload_n dX3_note_1 rfl ?_
  refine WQ_puti dX3_note_2 fX3_19 rfl rfl (lyx_is hy 3 3 rfl) (fun I15695 eI15695 => ?_)
  have hI15695 : XI g n L I15695 := by rw [eI15695]; exact (xi_f0 hy hI (c := 3) (by decide) (Or.inl (by decide)) (by decide))
  have e15696 : I15695 (ad g 1) 1 = L := by rw [eI15695, pp_ne _ _ (Or.inl (lyx_ne hy (by decide) (by decide) (by decide)))]; exact e15693
  have e15697 : I15695 (ad g 3) 0 = k := by rw [eI15695, pp_self]
  have fr15698 : fz 74 g [3] I I15695 := by rw [eI15695]; exact fzx_pp hy fr0 (by decide) (by decide)
  clear eI15695
  refine WP_aload_n dX3_note_5 rfl ?_
  refine WP_iload_n dX3_note_6 rfl ?_
  have jn21_15701 : ∀ (v15701 : Int32), -1 ≤ v15701.toInt → v15701.toInt ≤ 900 → WP g mX3_note 21 [(0, .ref (ad g 3)), (1, .int k)] [.int v15701, .ref (ad g 3)] I15695 J R (fun r I' J' R' => (XI g n L I' ∧ R' = R ∧ fz 74 g [3] I I') ∧ r = none) := by
    intro v15701 av15701 bv15701
    refine WQ_puti dX3_note_21 fX3_23 rfl rfl (lyx_is hy 3 3 rfl) (fun I15703 eI15703 => ?_)
    have hI15703 : XI g n L I15703 := by rw [eI15703]; exact (xi_f0 hy hI15695 (c := 3) (by decide) (Or.inl (by decide)) (by decide))
    have e15704 : I15703 (ad g 1) 1 = L := by rw [eI15703, pp_ne _ _ (Or.inl (lyx_ne hy (by decide) (by decide) (by decide)))]; exact e15696
    have e15705 : I15703 (ad g 3) 0 = k := by rw [eI15703, pp_ne _ _ (Or.inr (by decide))]; exact e15697
    have e15706 : I15703 (ad g 3) 1 = v15701 := by rw [eI15703, pp_self]
    have fr15707 : fz 74 g [3] I I15703 := by rw [eI15703]; exact fzx_pp hy fr15698 (by decide) (by decide)
    clear eI15703
    exact WP_vret dX3_note_24 rfl ⟨⟨hI15703, rfl, fr15707⟩, rfl⟩
  refine WX_if_ne 14 dX3_note_7 rfl ?_ ?_
  · refine WP_aload_n dX3_note_14 rfl ?_
    refine WP_getr dX3_note_15 fX3_15 rfl (lyx_is hy 3 3 rfl) (rfx hr 3 2 1 (by decide)) ?_
    refine WQ_geti dX3_note_18 fX3_69 rfl (lyx_is hy 1 5 rfl) (BT_get hI15695.1 1 3 4 (0) (0) (900) (by decide) 3 (by decide) (by decide)) (fun v15708 ev15708 av15708 bv15708 => ?_)
    exact WP_sub (fc rfl (fc rfl fn)) (jn21_15701 v15708 (by omega) (by omega))
  · refine WQ_iconst (-1) (-1) dX3_note_10 rfl rfl (fun v15709 hv15709 => ?_)
    refine WP_goto 21 dX3_note_11 rfl ?_
    exact WP_sub (fc rfl (fc rfl fn)) (jn21_15701 v15709 (by omega) (by omega))
set_option maxHeartbeats 4000000 in
set_option maxRecDepth 100000 in
theorem sx_wordOf {g : GG} {n : Int} {L : Int32} (hy : LyX g) {aK aV : Nat → Nat} {fo : Option Nat} (hz : HZ g aK aV fo)  {I : pI} {J : pJ} {R : pR} (hr : RfX g R) (hI : XI g n L I) (cz : Int32) (cz_lo : 0 ≤ cz.toInt) (cz_hi : cz.toInt ≤ 9) : SP g mX3_wordOf [.int cz] I J R (fun r I' J' R' => (I' = I ∧ J' = J ∧ R' = R) ∧ r = some (.ref (aK (cz.toInt.toNat)))) := by
  refine SP_of ⟨by decide, rfl⟩ (Nat.le_of_ble_eq_true rfl) ?_
  have e15710 : I (ad g 1) 1 = L := hI.2
  have b15711 := BT_get hI.1 1 1 2 (0) (0) (900) (by decide) 1 (by decide) (by decide)
  rw [e15710] at b15711
  refine WP_iload_n dX3_wordOf_0 rfl ?_
  refine WP_tab 79 dX3_wordOf_1 rfl rfl (fun c15711 => ?_) (fun j off c15711 hj => ?_) (by decide)
  · refine WS_ldc hz 9 rfl dX3_wordOf_79 ?_
    exact WP_aret dX3_wordOf_81 rfl ⟨⟨rfl, rfl, rfl⟩, by rw [show cz.toInt.toNat = 9 by omega]⟩
  · have hlt : j < 9 := by have := (Array.getElem?_eq_some_iff.mp hj).1; simpa using this
    have hcs : (j = 0 ∧ off = 51) ∨ (j = 1 ∧ off = 54) ∨ (j = 2 ∧ off = 57) ∨ (j = 3 ∧ off = 60) ∨ (j = 4 ∧ off = 63) ∨ (j = 5 ∧ off = 66) ∨ (j = 6 ∧ off = 69) ∨ (j = 7 ∧ off = 72) ∨ (j = 8 ∧ off = 75) := by
      match j, hlt, hj with
      | 0, _, hj => exact Or.inl ⟨rfl, (Option.some.inj hj).symm⟩
      | 1, _, hj => exact Or.inr (Or.inl ⟨rfl, (Option.some.inj hj).symm⟩)
      | 2, _, hj => exact Or.inr (Or.inr (Or.inl ⟨rfl, (Option.some.inj hj).symm⟩))
      | 3, _, hj => exact Or.inr (Or.inr (Or.inr (Or.inl ⟨rfl, (Option.some.inj hj).symm⟩)))
      | 4, _, hj => exact Or.inr (Or.inr (Or.inr (Or.inr (Or.inl ⟨rfl, (Option.some.inj hj).symm⟩))))
      | 5, _, hj => exact Or.inr (Or.inr (Or.inr (Or.inr (Or.inr (Or.inl ⟨rfl, (Option.some.inj hj).symm⟩)))))
      | 6, _, hj => exact Or.inr (Or.inr (Or.inr (Or.inr (Or.inr (Or.inr (Or.inl ⟨rfl, (Option.some.inj hj).symm⟩))))))
      | 7, _, hj => exact Or.inr (Or.inr (Or.inr (Or.inr (Or.inr (Or.inr (Or.inr (Or.inl ⟨rfl, (Option.some.inj hj).symm⟩)))))))
      | 8, _, hj => exact Or.inr (Or.inr (Or.inr (Or.inr (Or.inr (Or.inr (Or.inr (Or.inr (⟨rfl, (Option.some.inj hj).symm⟩))))))))
    clear hj hlt
    rcases hcs with ⟨rfl, rfl⟩ | ⟨rfl, rfl⟩ | ⟨rfl, rfl⟩ | ⟨rfl, rfl⟩ | ⟨rfl, rfl⟩ | ⟨rfl, rfl⟩ | ⟨rfl, rfl⟩ | ⟨rfl, rfl⟩ | ⟨rfl, rfl⟩
    · show WP _ _ 52 _ _ _ _ _ _
      refine WS_ldc hz 0 rfl dX3_wordOf_52 ?_
      exact WP_aret dX3_wordOf_54 rfl ⟨⟨rfl, rfl, rfl⟩, by rw [show cz.toInt.toNat = 0 by omega]⟩
    · show WP _ _ 55 _ _ _ _ _ _
      refine WS_ldc hz 1 rfl dX3_wordOf_55 ?_
      exact WP_aret dX3_wordOf_57 rfl ⟨⟨rfl, rfl, rfl⟩, by rw [show cz.toInt.toNat = 1 by omega]⟩
    · show WP _ _ 58 _ _ _ _ _ _
      refine WS_ldc hz 2 rfl dX3_wordOf_58 ?_
      exact WP_aret dX3_wordOf_60 rfl ⟨⟨rfl, rfl, rfl⟩, by rw [show cz.toInt.toNat = 2 by omega]⟩
    · show WP _ _ 61 _ _ _ _ _ _
      refine WS_ldc hz 3 rfl dX3_wordOf_61 ?_
      exact WP_aret dX3_wordOf_63 rfl ⟨⟨rfl, rfl, rfl⟩, by rw [show cz.toInt.toNat = 3 by omega]⟩
    · show WP _ _ 64 _ _ _ _ _ _
      refine WS_ldc hz 4 rfl dX3_wordOf_64 ?_
      exact WP_aret dX3_wordOf_66 rfl ⟨⟨rfl, rfl, rfl⟩, by rw [show cz.toInt.toNat = 4 by omega]⟩
    · show WP _ _ 67 _ _ _ _ _ _
      refine WS_ldc hz 5 rfl dX3_wordOf_67 ?_
      exact WP_aret dX3_wordOf_69 rfl ⟨⟨rfl, rfl, rfl⟩, by rw [show cz.toInt.toNat = 5 by omega]⟩
    · show WP _ _ 70 _ _ _ _ _ _
      refine WS_ldc hz 6 rfl dX3_wordOf_70 ?_
      exact WP_aret dX3_wordOf_72 rfl ⟨⟨rfl, rfl, rfl⟩, by rw [show cz.toInt.toNat = 6 by omega]⟩
    · show WP _ _ 73 _ _ _ _ _ _
      refine WS_ldc hz 7 rfl dX3_wordOf_73 ?_
      exact WP_aret dX3_wordOf_75 rfl ⟨⟨rfl, rfl, rfl⟩, by rw [show cz.toInt.toNat = 7 by omega]⟩
    · show WP _ _ 76 _ _ _ _ _ _
      refine WS_ldc hz 8 rfl dX3_wordOf_76 ?_
      exact WP_aret dX3_wordOf_78 rfl ⟨⟨rfl, rfl, rfl⟩, by rw [show cz.toInt.toNat = 8 by omega]⟩
set_option maxHeartbeats 4000000 in
set_option maxRecDepth 100000 in
theorem sx_shapeOf {g : GG} {n : Int} {L : Int32} (hy : LyX g) {aK aV : Nat → Nat} {fo : Option Nat} (hz : HZ g aK aV fo)  {I : pI} {J : pJ} {R : pR} (hr : RfX g R) (hI : XI g n L I) (cz : Int32) (cz_lo : 0 ≤ cz.toInt) (cz_hi : cz.toInt ≤ 11) : SP g mX3_shapeOf [.int cz] I J R (fun r I' J' R' => (I' = I ∧ J' = J ∧ R' = R) ∧ r = some (.ref (aK (10 + cz.toInt.toNat)))) := by
  refine SP_of ⟨by decide, rfl⟩ (Nat.le_of_ble_eq_true rfl) ?_
  have e15713 : I (ad g 1) 1 = L := hI.2
  have b15714 := BT_get hI.1 1 1 2 (0) (0) (900) (by decide) 1 (by decide) (by decide)
  rw [e15713] at b15714
  refine WP_iload_n dX3_shapeOf_0 rfl ?_
  refine WP_tab 93 dX3_shapeOf_1 rfl rfl (fun c15714 => ?_) (fun j off c15714 hj => ?_) (by decide)
  · refine WS_ldc hz 21 rfl dX3_shapeOf_93 ?_
    exact WP_aret dX3_shapeOf_95 rfl ⟨⟨rfl, rfl, rfl⟩, by rw [show 10 + cz.toInt.toNat = 21 by omega]⟩
  · have hlt : j < 11 := by have := (Array.getElem?_eq_some_iff.mp hj).1; simpa using this
    have hcs : (j = 0 ∧ off = 59) ∨ (j = 1 ∧ off = 62) ∨ (j = 2 ∧ off = 65) ∨ (j = 3 ∧ off = 68) ∨ (j = 4 ∧ off = 71) ∨ (j = 5 ∧ off = 74) ∨ (j = 6 ∧ off = 77) ∨ (j = 7 ∧ off = 80) ∨ (j = 8 ∧ off = 83) ∨ (j = 9 ∧ off = 86) ∨ (j = 10 ∧ off = 89) := by
      match j, hlt, hj with
      | 0, _, hj => exact Or.inl ⟨rfl, (Option.some.inj hj).symm⟩
      | 1, _, hj => exact Or.inr (Or.inl ⟨rfl, (Option.some.inj hj).symm⟩)
      | 2, _, hj => exact Or.inr (Or.inr (Or.inl ⟨rfl, (Option.some.inj hj).symm⟩))
      | 3, _, hj => exact Or.inr (Or.inr (Or.inr (Or.inl ⟨rfl, (Option.some.inj hj).symm⟩)))
      | 4, _, hj => exact Or.inr (Or.inr (Or.inr (Or.inr (Or.inl ⟨rfl, (Option.some.inj hj).symm⟩))))
      | 5, _, hj => exact Or.inr (Or.inr (Or.inr (Or.inr (Or.inr (Or.inl ⟨rfl, (Option.some.inj hj).symm⟩)))))
      | 6, _, hj => exact Or.inr (Or.inr (Or.inr (Or.inr (Or.inr (Or.inr (Or.inl ⟨rfl, (Option.some.inj hj).symm⟩))))))
      | 7, _, hj => exact Or.inr (Or.inr (Or.inr (Or.inr (Or.inr (Or.inr (Or.inr (Or.inl ⟨rfl, (Option.some.inj hj).symm⟩)))))))
      | 8, _, hj => exact Or.inr (Or.inr (Or.inr (Or.inr (Or.inr (Or.inr (Or.inr (Or.inr (Or.inl ⟨rfl, (Option.some.inj hj).symm⟩))))))))
      | 9, _, hj => exact Or.inr (Or.inr (Or.inr (Or.inr (Or.inr (Or.inr (Or.inr (Or.inr (Or.inr (Or.inl ⟨rfl, (Option.some.inj hj).symm⟩)))))))))
      | 10, _, hj => exact Or.inr (Or.inr (Or.inr (Or.inr (Or.inr (Or.inr (Or.inr (Or.inr (Or.inr (Or.inr (⟨rfl, (Option.some.inj hj).symm⟩))))))))))
    clear hj hlt
    rcases hcs with ⟨rfl, rfl⟩ | ⟨rfl, rfl⟩ | ⟨rfl, rfl⟩ | ⟨rfl, rfl⟩ | ⟨rfl, rfl⟩ | ⟨rfl, rfl⟩ | ⟨rfl, rfl⟩ | ⟨rfl, rfl⟩ | ⟨rfl, rfl⟩ | ⟨rfl, rfl⟩ | ⟨rfl, rfl⟩
    · show WP _ _ 60 _ _ _ _ _ _
      refine WS_ldc hz 10 rfl dX3_shapeOf_60 ?_
      exact WP_aret dX3_shapeOf_62 rfl ⟨⟨rfl, rfl, rfl⟩, by rw [show 10 + cz.toInt.toNat = 10 by omega]⟩
    · show WP _ _ 63 _ _ _ _ _ _
      refine WS_ldc hz 11 rfl dX3_shapeOf_63 ?_
      exact WP_aret dX3_shapeOf_65 rfl ⟨⟨rfl, rfl, rfl⟩, by rw [show 10 + cz.toInt.toNat = 11 by omega]⟩
    · show WP _ _ 66 _ _ _ _ _ _
      refine WS_ldc hz 12 rfl dX3_shapeOf_66 ?_
      exact WP_aret dX3_shapeOf_68 rfl ⟨⟨rfl, rfl, rfl⟩, by rw [show 10 + cz.toInt.toNat = 12 by omega]⟩
    · show WP _ _ 69 _ _ _ _ _ _
      refine WS_ldc hz 13 rfl dX3_shapeOf_69 ?_
      exact WP_aret dX3_shapeOf_71 rfl ⟨⟨rfl, rfl, rfl⟩, by rw [show 10 + cz.toInt.toNat = 13 by omega]⟩
    · show WP _ _ 72 _ _ _ _ _ _
      refine WS_ldc hz 14 rfl dX3_shapeOf_72 ?_
      exact WP_aret dX3_shapeOf_74 rfl ⟨⟨rfl, rfl, rfl⟩, by rw [show 10 + cz.toInt.toNat = 14 by omega]⟩
    · show WP _ _ 75 _ _ _ _ _ _
      refine WS_ldc hz 15 rfl dX3_shapeOf_75 ?_
      exact WP_aret dX3_shapeOf_77 rfl ⟨⟨rfl, rfl, rfl⟩, by rw [show 10 + cz.toInt.toNat = 15 by omega]⟩
    · show WP _ _ 78 _ _ _ _ _ _
      refine WS_ldc hz 16 rfl dX3_shapeOf_78 ?_
      exact WP_aret dX3_shapeOf_80 rfl ⟨⟨rfl, rfl, rfl⟩, by rw [show 10 + cz.toInt.toNat = 16 by omega]⟩
    · show WP _ _ 81 _ _ _ _ _ _
      refine WS_ldc hz 17 rfl dX3_shapeOf_81 ?_
      exact WP_aret dX3_shapeOf_83 rfl ⟨⟨rfl, rfl, rfl⟩, by rw [show 10 + cz.toInt.toNat = 17 by omega]⟩
    · show WP _ _ 84 _ _ _ _ _ _
      refine WS_ldc hz 18 rfl dX3_shapeOf_84 ?_
      exact WP_aret dX3_shapeOf_86 rfl ⟨⟨rfl, rfl, rfl⟩, by rw [show 10 + cz.toInt.toNat = 18 by omega]⟩
    · show WP _ _ 87 _ _ _ _ _ _
      refine WS_ldc hz 19 rfl dX3_shapeOf_87 ?_
      exact WP_aret dX3_shapeOf_89 rfl ⟨⟨rfl, rfl, rfl⟩, by rw [show 10 + cz.toInt.toNat = 19 by omega]⟩
    · show WP _ _ 90 _ _ _ _ _ _
      refine WS_ldc hz 20 rfl dX3_shapeOf_90 ?_
      exact WP_aret dX3_shapeOf_92 rfl ⟨⟨rfl, rfl, rfl⟩, by rw [show 10 + cz.toInt.toNat = 20 by omega]⟩
set_option maxHeartbeats 4000000 in
set_option maxRecDepth 100000 in
theorem sx_lettersOf {g : GG} {n : Int} {L : Int32} (hy : LyX g) {aK aV : Nat → Nat} {fo : Option Nat} (hz : HZ g aK aV fo)  {I : pI} {J : pJ} {R : pR} (hr : RfX g R) (hI : XI g n L I) (ii : Nat) (ii_lt : ii < 32) : SP g mX3_lettersOf [.ref (aK (ii))] I J R (fun r I' J' R' => (I' = I ∧ J' = J ∧ R' = R) ∧ ∃ v : Int64, r = some (.long v)) := by
  refine SP_of ⟨by decide, rfl⟩ (Nat.le_of_ble_eq_true rfl) ?_
  have e15716 : I (ad g 1) 1 = L := hI.2
  have b15717 := BT_get hI.1 1 1 2 (0) (0) (900) (by decide) 1 (by decide) (by decide)
  rw [e15716] at b15717
  refine WP_lconst (0) dX3_lettersOf_0 rfl ?_
  obtain ⟨l15718, hl15718, el15718⟩ : ∃ v : Int64, v.toInt = 0 ∧ (0 : Int64) = v := ⟨_, rfl, rfl⟩
  rw [el15718]; clear el15718
  refine WP_lstore_n (ls' := [(0, _), (1, _)]) dX3_lettersOf_1 (by decide) rfl ?_
  refine WQ_iconst (0) (0) dX3_lettersOf_2 rfl rfl (fun v15719 hv15719 => ?_)
  refine WP_istore_n (ls' := [(0, _), (1, _), (3, _)]) dX3_lettersOf_3 (by decide) rfl ?_
  have lp4_15721 : ∀ (mz : Nat) (l15720 : Int64) (i15721 : Int32), 0 ≤ i15721.toInt → i15721.toInt ≤ 5 → (6 - i15721.toInt).toNat < mz → WP g mX3_lettersOf 4 [(0, .ref (aK (ii))), (1, .long l15720), (3, .int i15721)] [] I J R (fun r I' J' R' => (I' = I ∧ J' = J ∧ R' = R) ∧ ∃ v : Int64, r = some (.long v)) := by
    intro mz
    induction mz with
    | zero =>
      intro l15720 i15721 ai15721 bi15721 hmlp4_15721
      exact absurd hmlp4_15721 (Nat.not_lt_zero _)
    | succ mz ihlp4_15721 =>
      intro l15720 i15721 ai15721 bi15721 hmlp4_15721
      refine WP_iload_n dX3_lettersOf_4 rfl ?_
      refine WP_aload_n dX3_lettersOf_5 rfl ?_
      refine WS_call hz (i := ii) (by omega) dX3_lettersOf_6 ⟨⟨by decide, by decide⟩, zJ0_length_8abf5⟩ lX3_87 vJ0_length_8abf5 (As := []) (rest := [.int i15721]) (j_length hz (i := ii) (by omega)) rfl rfl (Nat.le_of_ble_eq_true rfl) ?_
      intro r Ia Ja Ra hq
      obtain ⟨⟨ea, eb, ec⟩, v15723, rfl, cv15723⟩ := hq
      show WP _ _ _ _ (.int _ :: _) _ _ _ _
      rw [ea, eb, ec]
      clear ea eb ec Ia Ja Ra
      have lv15723 := (li_len (ii) (by omega)).2.2
      refine WQ_icmp_ge 30 dX3_lettersOf_9 rfl (fun c15723 => ?_) (fun c15723 => ?_)
      · refine WP_lload_n dX3_lettersOf_30 rfl ?_
        exact WP_lret dX3_lettersOf_31 rfl ⟨⟨rfl, rfl, rfl⟩, _, rfl⟩
      · refine WP_lload_n dX3_lettersOf_12 rfl ?_
        refine WQ_bipush (8) (8) dX3_lettersOf_13 rfl rfl (fun v15725 hv15725 => ?_)
        refine WQ_lshl dX3_lettersOf_15 (fun l15726 => ?_)
        refine WP_aload_n dX3_lettersOf_16 rfl ?_
        refine WP_iload_n dX3_lettersOf_17 rfl ?_
        refine WS_call hz (i := ii) (by omega) dX3_lettersOf_18 ⟨⟨by decide, by decide⟩, zJ0_charAt_5068e⟩ lX3_92 vJ0_charAt_5068e (As := [.int i15721]) (rest := [.long l15726]) (j_charAt hz (i := ii) (k := i15721) (by omega) (by omega) (by omega)) rfl rfl (Nat.le_of_ble_eq_true rfl) ?_
        intro r Ia Ja Ra hq
        obtain ⟨⟨ea, eb, ec⟩, v15727, rfl, cv15727⟩ := hq
        show WP _ _ _ _ (.int _ :: _) _ _ _ _
        rw [ea, eb, ec]
        clear ea eb ec Ia Ja Ra
        refine WQ_i2l dX3_lettersOf_21 (fun l15728 hl15728 => ?_)
        refine WQ_lor dX3_lettersOf_22 (fun l15729 => ?_)
        refine WP_lstore_n (ls' := [(0, _), (1, _), (3, _)]) dX3_lettersOf_23 (by decide) rfl ?_
        refine WP_iinc (ls' := [(0, _), (1, _), (3, _)]) dX3_lettersOf_24 rfl (by decide) rfl ?_
        have hv15730 : (i15721 + Int32.ofInt (1)).toInt = i15721.toInt + (1) := ia_n rfl (by omega) (by omega)
        generalize i15721 + Int32.ofInt (1) = v15730 at hv15730 ⊢
        refine WP_goto 4 dX3_lettersOf_27 rfl ?_
        exact WP_sub (fc rfl (fc rfl (fc rfl fn))) (ihlp4_15721 l15729 v15730 (by omega) (by omega) (by omega))
  exact WP_sub (fc rfl (fc rfl (fc rfl fn))) (lp4_15721 _ l15718 v15719 (by omega) (by omega) (Nat.lt_succ_self _))
set_option maxHeartbeats 4000000 in
set_option maxRecDepth 100000 in
theorem sx_clauseAtHand {g : GG} {n : Int} {L : Int32} (hy : LyX g) {aK aV : Nat → Nat} {fo : Option Nat} (hz : HZ g aK aV fo)  {I : pI} {J : pJ} {R : pR} (hr : RfX g R) (hI : XI g n L I)   : SP g mX3_clauseAtHand [.ref (ad g 3)] I J R (fun r I' J' R' => (I' = I ∧ J' = J ∧ R' = R) ∧ ∃ v : Int32, r = some (.int v) ∧ -1 ≤ v.toInt ∧ v.toInt ≤ 9) := by
  refine SP_of ⟨by decide, rfl⟩ (Nat.le_of_ble_eq_true rfl) ?_
  have e15731 : I (ad g 1) 1 = L := hI.2
  have b15732 := BT_get hI.1 1 1 2 (0) (0) (900) (by decide) 1 (by decide) (by decide)
  rw [e15731] at b15732
  refine WQ_iconst (0) (0) dX3_clauseAtHand_0 rfl rfl (fun v15733 hv15733 => ?_)
  refine WP_istore_n (ls' := [(0, _), (1, _)]) dX3_clauseAtHand_1 (by decide) rfl ?_
  have lp2_15734 : ∀ (mz : Nat) (i15734 : Int32), 0 ≤ i15734.toInt → i15734.toInt ≤ 10 → (11 - i15734.toInt).toNat < mz → WP g mX3_clauseAtHand 2 [(0, .ref (ad g 3)), (1, .int i15734)] [] I J R (fun r I' J' R' => (I' = I ∧ J' = J ∧ R' = R) ∧ ∃ v : Int32, r = some (.int v) ∧ -1 ≤ v.toInt ∧ v.toInt ≤ 9) := by
    intro mz
    induction mz with
    | zero =>
      intro i15734 ai15734 bi15734 hmlp2_15734
      exact absurd hmlp2_15734 (Nat.not_lt_zero _)
    | succ mz ihlp2_15734 =>
      intro i15734 ai15734 bi15734 hmlp2_15734
      refine WP_aload_n dX3_clauseAtHand_2 rfl ?_
      refine WP_getr dX3_clauseAtHand_3 fX3_15 rfl (lyx_is hy 3 3 rfl) (rfx hr 3 2 1 (by decide)) ?_
      refine WQ_geti dX3_clauseAtHand_6 fX3_43 rfl (lyx_is hy 1 5 rfl) (BT_get hI.1 1 2 3 (0) (0) (4) (by decide) 2 (by decide) (by decide)) (fun v15736 ev15736 av15736 bv15736 => ?_)
      refine WQ_iconst (1) (1) dX3_clauseAtHand_9 rfl rfl (fun v15737 hv15737 => ?_)
      refine WQ_icmp_ne 45 dX3_clauseAtHand_10 rfl (fun c15737 => ?_) (fun c15737 => ?_)
      · refine WQ_iconst (-1) (-1) dX3_clauseAtHand_45 rfl rfl (fun v15739 hv15739 => ?_)
        exact WP_iret dX3_clauseAtHand_46 rfl ⟨⟨rfl, rfl, rfl⟩, _, rfl, by omega, by omega⟩
      · refine WP_iload_n dX3_clauseAtHand_13 rfl ?_
        refine WQ_bipush (10) (10) dX3_clauseAtHand_14 rfl rfl (fun v15740 hv15740 => ?_)
        refine WQ_icmp_ge 45 dX3_clauseAtHand_16 rfl (fun c15740 => ?_) (fun c15740 => ?_)
        · refine WQ_iconst (-1) (-1) dX3_clauseAtHand_45 rfl rfl (fun v15742 hv15742 => ?_)
          exact WP_iret dX3_clauseAtHand_46 rfl ⟨⟨rfl, rfl, rfl⟩, _, rfl, by omega, by omega⟩
        · refine WP_iload_n dX3_clauseAtHand_19 rfl ?_
          refine WP_callS1 dX3_clauseAtHand_20 ⟨⟨⟨by decide, by decide⟩, zX3_wordOf⟩, lX3_72, tX3_wordOf⟩ (sx_wordOf hy hz hr hI i15734 (by omega) (by omega)) (Nat.le_of_ble_eq_true rfl) ?_
          intro r Ia Ja Ra hq
          obtain ⟨⟨ea, eb, ec⟩, rfl⟩ := hq
          show WP _ _ _ _ (.ref _ :: _) _ _ _ _
          rw [ea, eb, ec]
          clear ea eb ec Ia Ja Ra
          refine WP_callS1 dX3_clauseAtHand_23 ⟨⟨⟨by decide, by decide⟩, zX3_lettersOf⟩, lX3_76, tX3_lettersOf⟩ (sx_lettersOf hy hz hr hI (i15734.toInt.toNat) (by omega)) (Nat.le_of_ble_eq_true rfl) ?_
          intro r Ia Ja Ra hq
          obtain ⟨⟨ea, eb, ec⟩, l15743, rfl⟩ := hq
          show WP _ _ _ _ (.long _ :: _) _ _ _ _
          rw [ea, eb, ec]
          clear ea eb ec Ia Ja Ra
          refine WP_aload_n dX3_clauseAtHand_26 rfl ?_
          refine WP_getr dX3_clauseAtHand_27 fX3_15 rfl (lyx_is hy 3 3 rfl) (rfx hr 3 2 1 (by decide)) ?_
          refine WQ_getl dX3_clauseAtHand_30 fX3_80 rfl (lyx_is hy 1 5 rfl) (fun l15744 el15744 => ?_)
          refine WQ_lcmpu dX3_clauseAtHand_33 (fun v15745 => ?_)
          refine WQ_if_ne 39 dX3_clauseAtHand_34 rfl (fun c15745 => ?_) (fun c15745 => ?_)
          · refine WP_iinc (ls' := [(0, _), (1, _)]) dX3_clauseAtHand_39 rfl (by decide) rfl ?_
            have hv15747 : (i15734 + Int32.ofInt (1)).toInt = i15734.toInt + (1) := ia_n rfl (by omega) (by omega)
            generalize i15734 + Int32.ofInt (1) = v15747 at hv15747 ⊢
            refine WP_goto 2 dX3_clauseAtHand_42 rfl ?_
            exact WP_sub (fc rfl (fc rfl fn)) (ihlp2_15734 v15747 (by omega) (by omega) (by omega))
          · refine WP_iload_n dX3_clauseAtHand_37 rfl ?_
            exact WP_iret dX3_clauseAtHand_38 rfl ⟨⟨rfl, rfl, rfl⟩, _, rfl, by omega, by omega⟩
  exact WP_sub (fc rfl (fc rfl fn)) (lp2_15734 _ v15733 (by omega) (by omega) (Nat.lt_succ_self _))
