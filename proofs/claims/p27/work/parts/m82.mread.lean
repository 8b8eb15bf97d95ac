set_option maxHeartbeats 4000000 in
set_option maxRecDepth 100000 in
theorem sm_bad2 {g : GG} {n : Int} {L : Int32} (hy : Ly g)  {I : pI} {J : pJ} {R : pR} (hr : Rf g R) (hI : MP g n L I) (k : Int32)  (hb : (I (ad g 0) 4).toInt ≤ (I (ad g 0) 2).toInt) : SP g mX11_bad [.ref (ad g 0), .int k] I J R (fun r I' J' R' => (MP g n L I' ∧ R' = R ∧ (I' (ad g 0) 4).toInt ≤ (I' (ad g 0) 2).toInt ∧ I' (ad g 0) 15 = I (ad g 0) 15 ∧ I' (ad g 0) 16 = I (ad g 0) 16) ∧ ∃ v : Int32, r = some (.int v) ∧ 0 ≤ v.toInt ∧ v.toInt ≤ 0) := by
  refine SP_of ⟨by decide, rfl⟩ (Nat.le_of_ble_eq_true rfl) ?_
  have e505 : I (ad g 0) 1 = L := hI.1.2
  have b506 := BT_get hI.1.1 0 1 2 (0) (0) (900) (by decide) 1 (by decide) (by decide)
  rw [e505] at b506
  obtain ⟨w507, ew507⟩ : ∃ w : Int32, I (ad g 0) 15 = w := ⟨_, rfl⟩
  have bw507 := BT_get hI.1.1 0 15 16 (0) (0) (4) (by decide) 15 (by decide) (by decide)
  rw [ew507] at bw507
  obtain ⟨w508, ew508⟩ : ∃ w : Int32, I (ad g 0) 16 = w := ⟨_, rfl⟩
  have bw508 := BT_get hI.1.1 0 16 17 (0) (0) (3) (by decide) 16 (by decide) (by decide)
  rw [ew508] at bw508
  obtain ⟨w509, ew509⟩ : ∃ w : Int32, I (ad g 0) 4 = w := ⟨_, rfl⟩
  have bw509 := BT_get hI.1.1 0 4 5 (0) (0) (900) (by decide) 4 (by decide) (by decide)
  rw [ew509] at bw509
  obtain ⟨w510, ew510⟩ : ∃ w : Int32, I (ad g 0) 2 = w := ⟨_, rfl⟩
  have bw510 := BT_get hI.1.1 0 2 3 (0) (0) (900) (by decide) 2 (by decide) (by decide)
  rw [ew510] at bw510
  rw [ew509, ew510] at hb
  refine WP_aload_n dX11_bad_0 rfl ?_
  refine WP_iload_n dX11_bad_1 rfl ?_
  refine WQ_puti dX11_bad_2 fX11_3 rfl rfl (ly_is hy 0 11 rfl) (fun I511 eI511 => ?_)
  have hI511 : MP g n L I511 := by rw [eI511]; exact (mp_w hy hI (c := 0) (mi_f0 hy hI.1 (c := 0) (by decide) (Or.inr (by decide)) (by decide)) (by decide) (by decide) (Or.inr (by decide)))
  have e512 : I511 (ad g 0) 1 = L := by rw [eI511, pp_ne _ _ (Or.inr (by decide))]; exact e505
  have e513 : I511 (ad g 0) 15 = w507 := by rw [eI511, pp_ne _ _ (Or.inr (by decide))]; exact ew507
  have e514 : I511 (ad g 0) 16 = w508 := by rw [eI511, pp_ne _ _ (Or.inr (by decide))]; exact ew508
  have e515 : I511 (ad g 0) 4 = w509 := by rw [eI511, pp_ne _ _ (Or.inr (by decide))]; exact ew509
  have e516 : I511 (ad g 0) 2 = w510 := by rw [eI511, pp_ne _ _ (Or.inr (by decide))]; exact ew510
  have e517 : I511 (ad g 0) 8 = k := by rw [eI511, pp_self]
  clear eI511
  refine WP_aload_n dX11_bad_5 rfl ?_
  refine WP_aload_n dX11_bad_6 rfl ?_
  refine WQ_geti dX11_bad_7 fX11_7 rfl (ly_is hy 0 11 rfl) (BT_get hI511.1.1 0 3 4 (0) (0) (900) (by decide) 3 (by decide) (by decide)) (fun v518 ev518 av518 bv518 => ?_)
  refine WQ_puti dX11_bad_10 fX11_10 rfl rfl (ly_is hy 0 11 rfl) (fun I519 eI519 => ?_)
  have hI519 : MP g n L I519 := by rw [eI519]; exact (mp_w hy hI511 (c := 0) (mi_f0 hy hI511.1 (c := 0) (by decide) (Or.inr (by decide)) (by decide)) (by decide) (by decide) (Or.inr (by decide)))
  have e520 : I519 (ad g 0) 1 = L := by rw [eI519, pp_ne _ _ (Or.inr (by decide))]; exact e512
  have e521 : I519 (ad g 0) 15 = w507 := by rw [eI519, pp_ne _ _ (Or.inr (by decide))]; exact e513
  have e522 : I519 (ad g 0) 16 = w508 := by rw [eI519, pp_ne _ _ (Or.inr (by decide))]; exact e514
  have e523 : I519 (ad g 0) 4 = w509 := by rw [eI519, pp_ne _ _ (Or.inr (by decide))]; exact e515
  have e524 : I519 (ad g 0) 2 = w510 := by rw [eI519, pp_ne _ _ (Or.inr (by decide))]; exact e516
  have e525 : I519 (ad g 0) 8 = k := by rw [eI519, pp_ne _ _ (Or.inr (by decide))]; exact e517
  have e526 : I519 (ad g 0) 3 = v518 := by rw [eI519, pp_ne _ _ (Or.inr (by decide))]; exact ev518
  have e527 : I519 (ad g 0) 9 = v518 := by rw [eI519, pp_self]
  clear eI519
  refine WQ_iconst (0) (0) dX11_bad_13 rfl rfl (fun v528 hv528 => ?_)
  exact WP_zret dX11_bad_14 rfl (nar_z (by omega)) ⟨⟨hI519, rfl, ⟨(by rw [e523, e524]; omega), (by rw [e521, ew507] <;> exact (eq32 _ _).mpr (by omega)), (by rw [e522, ew508] <;> exact (eq32 _ _).mpr (by omega))⟩⟩, _, rfl, by omega, by omega⟩
set_option maxHeartbeats 4000000 in
set_option maxRecDepth 100000 in
theorem sm_name {g : GG} {n : Int} {L : Int32} (hy : Ly g)  {I : pI} {J : pJ} {R : pR} (hr : Rf g R) (hI : MP g n L I)   : SP g mX11_name [.ref (ad g 0)] I J R (fun r I' J' R' => (I' = I ∧ J' = J ∧ R' = R) ∧ ∃ v : Int64, r = some (.long v)) := by
  refine SP_of ⟨by decide, rfl⟩ (Nat.le_of_ble_eq_true rfl) ?_
  have e529 : I (ad g 0) 1 = L := hI.1.2
  have b530 := BT_get hI.1.1 0 1 2 (0) (0) (900) (by decide) 1 (by decide) (by decide)
  rw [e529] at b530
  refine WP_lconst (0) dX11_name_0 rfl ?_
  obtain ⟨l531, hl531, el531⟩ : ∃ v : Int64, v.toInt = 0 ∧ (0 : Int64) = v := ⟨_, rfl, rfl⟩
  rw [el531]; clear el531
  refine WP_lstore_n (ls' := [(0, _), (1, _)]) dX11_name_1 (by decide) rfl ?_
  refine WP_aload_n dX11_name_2 rfl ?_
  refine WQ_geti dX11_name_3 fX11_7 rfl (ly_is hy 0 11 rfl) (BT_get hI.1.1 0 3 4 (0) (0) (900) (by decide) 3 (by decide) (by decide)) (fun v532 ev532 av532 bv532 => ?_)
  refine WP_istore_n (ls' := [(0, _), (1, _), (3, _)]) dX11_name_6 (by decide) rfl ?_
  have lp7_534 : ∀ (mz : Nat) (l533 : Int64) (i534 : Int32), 0 ≤ i534.toInt → i534.toInt ≤ 900 → (901 - i534.toInt).toNat < mz → WP g mX11_name 7 [(0, .ref (ad g 0)), (1, .long l533), (3, .int i534)] [] I J R (fun r I' J' R' => (I' = I ∧ J' = J ∧ R' = R) ∧ ∃ v : Int64, r = some (.long v)) := by
    intro mz
    induction mz with
    | zero =>
      intro l533 i534 ai534 bi534 hmlp7_534
      exact absurd hmlp7_534 (Nat.not_lt_zero _)
    | succ mz ihlp7_534 =>
      intro l533 i534 ai534 bi534 hmlp7_534
      refine WP_iload_n dX11_name_7 rfl ?_
      refine WP_aload_n dX11_name_8 rfl ?_
      refine WQ_geti dX11_name_9 fX11_20 rfl (ly_is hy 0 11 rfl) (BT_get hI.1.1 0 4 5 (0) (0) (900) (by decide) 4 (by decide) (by decide)) (fun v536 ev536 av536 bv536 => ?_)
      refine WQ_icmp_ge 35 dX11_name_12 rfl (fun c536 => ?_) (fun c536 => ?_)
      · refine WP_lload_n dX11_name_35 rfl ?_
        exact WP_lret dX11_name_36 rfl ⟨⟨rfl, rfl, rfl⟩, _, rfl⟩
      · refine WP_lload_n dX11_name_15 rfl ?_
        refine WQ_iconst (5) (5) dX11_name_16 rfl rfl (fun v538 hv538 => ?_)
        refine WQ_lshl dX11_name_17 (fun l539 => ?_)
        refine WP_aload_n dX11_name_18 rfl ?_
        refine WP_iload_n dX11_name_19 rfl ?_
        refine WP_callV1 (k := 11) dX11_name_20 ⟨⟨⟨by decide, by decide⟩, zX11_byteAt⟩, lX11_23, by decide, rfl, vX11_byteAt.1, vX11_byteAt.2⟩ (ly_is hy 0 11 rfl) (sm_byteAt hy hr hI i534 (by omega) (by omega)) (Nat.le_of_ble_eq_true rfl) ?_
        intro r Ia Ja Ra hq
        obtain ⟨⟨ea, eb, ec⟩, v540, rfl, cv540⟩ := hq
        show WP _ _ _ _ (.int _ :: _) _ _ _ _
        rw [ea, eb, ec]
        clear ea eb ec Ia Ja Ra
        obtain ⟨w541, ew541⟩ : ∃ w : Int32, I (ad g 0) 2 = w := ⟨_, rfl⟩
        have bw541 := BT_get hI.1.1 0 2 3 (0) (0) (900) (by decide) 2 (by decide) (by decide)
        rw [ew541] at bw541
        rw [ew541] at cv540
        refine WQ_bipush (96) (96) dX11_name_23 rfl rfl (fun v542 hv542 => ?_)
        refine WQ_isubu dX11_name_25 (fun v543 => ?_)
        refine WQ_i2l dX11_name_26 (fun l544 hl544 => ?_)
        refine WQ_lor dX11_name_27 (fun l545 => ?_)
        refine WP_lstore_n (ls' := [(0, _), (1, _), (3, _)]) dX11_name_28 (by decide) rfl ?_
        refine WP_iinc (ls' := [(0, _), (1, _), (3, _)]) dX11_name_29 rfl (by decide) rfl ?_
        have hv546 : (i534 + Int32.ofInt (1)).toInt = i534.toInt + (1) := ia_n rfl (by omega) (by omega)
        generalize i534 + Int32.ofInt (1) = v546 at hv546 ⊢
        refine WP_goto 7 dX11_name_32 rfl ?_
        exact WP_sub (fc rfl (fc rfl (fc rfl fn))) (ihlp7_534 l545 v546 (by omega) (by omega) (by omega))
  exact WP_sub (fc rfl (fc rfl (fc rfl fn))) (lp7_534 _ l531 v532 (by omega) (by omega) (Nat.lt_succ_self _))
set_option maxHeartbeats 4000000 in
set_option maxRecDepth 100000 in
theorem sm_find_2 {g : GG} {n : Int} {L : Int32} (hy : Ly g)  {I : pI} {J : pJ} {R : pR} (hr : Rf g R) (hI : MP g n L I) (ma : Int32) (ma_lo : 0 ≤ ma.toInt) (ma_hi : ma.toInt ≤ 4) : SP g mX11_find [.ref (ad g 0), .ref (ad g 2), .int ma] I J R (fun r I' J' R' => (I' = I ∧ J' = J ∧ R' = R) ∧ ∃ v : Int32, r = some (.int v) ∧ -1 ≤ v.toInt ∧ v.toInt ≤ 3 ∧ (v.toInt < ma.toInt ∨ v.toInt = -1)) := by
  refine SP_of ⟨by decide, rfl⟩ (Nat.le_of_ble_eq_true rfl) ?_
  have e547 : I (ad g 0) 1 = L := hI.1.2
  have b548 := BT_get hI.1.1 0 1 2 (0) (0) (900) (by decide) 1 (by decide) (by decide)
  rw [e547] at b548
  refine WQ_iconst (0) (0) dX11_find_0 rfl rfl (fun v549 hv549 => ?_)
  refine WP_istore_n (ls' := [(0, _), (1, _), (2, _), (3, _)]) dX11_find_1 (by decide) rfl ?_
  have lp2_550 : ∀ (mz : Nat) (i550 : Int32), 0 ≤ i550.toInt → i550.toInt ≤ 4 → i550.toInt ≤ ma.toInt → (5 - i550.toInt).toNat < mz → WP g mX11_find 2 [(0, .ref (ad g 0)), (1, .ref (ad g 2)), (2, .int ma), (3, .int i550)] [] I J R (fun r I' J' R' => (I' = I ∧ J' = J ∧ R' = R) ∧ ∃ v : Int32, r = some (.int v) ∧ -1 ≤ v.toInt ∧ v.toInt ≤ 3 ∧ (v.toInt < ma.toInt ∨ v.toInt = -1)) := by
    intro mz
    induction mz with
    | zero =>
      intro i550 ai550 bi550 j0_I hmlp2_550
      exact absurd hmlp2_550 (Nat.not_lt_zero _)
    | succ mz ihlp2_550 =>
      intro i550 ai550 bi550 j0_I hmlp2_550
      refine WP_iload_n dX11_find_2 rfl ?_
      refine WP_iload_n dX11_find_3 rfl ?_
      refine WQ_icmp_ge 26 dX11_find_4 rfl (fun c551 => ?_) (fun c551 => ?_)
      · refine WQ_iconst (-1) (-1) dX11_find_26 rfl rfl (fun v553 hv553 => ?_)
        exact WP_iret dX11_find_27 rfl ⟨⟨rfl, rfl, rfl⟩, _, rfl, by omega, by omega, by omega⟩
      · refine WP_aload_n dX11_find_7 rfl ?_
        refine WP_iload_n dX11_find_8 rfl ?_
        refine WQ_laldu dX11_find_9 (ly_is hy 2 14 rfl) (ly_n hy 2 4 rfl) (by omega) (by omega) (fun l554 => ?_)
        refine WP_aload_n dX11_find_10 rfl ?_
        refine WP_callV0 (k := 11) dX11_find_11 ⟨⟨⟨by decide, by decide⟩, zX11_name⟩, lX11_67, by decide, rfl, vX11_name.1, vX11_name.2⟩ (ly_is hy 0 11 rfl) (sm_name hy hr hI  ) (Nat.le_of_ble_eq_true rfl) ?_
        intro r Ia Ja Ra hq
        obtain ⟨⟨ea, eb, ec⟩, l555, rfl⟩ := hq
        show WP _ _ _ _ (.long _ :: _) _ _ _ _
        rw [ea, eb, ec]
        clear ea eb ec Ia Ja Ra
        refine WQ_lcmpu dX11_find_14 (fun v556 => ?_)
        refine WX_if_ne 20 dX11_find_15 rfl ?_ ?_
        · refine WP_iinc (ls' := [(0, _), (1, _), (2, _), (3, _)]) dX11_find_20 rfl (by decide) rfl ?_
          have hv557 : (i550 + Int32.ofInt (1)).toInt = i550.toInt + (1) := ia_n rfl (by omega) (by omega)
          generalize i550 + Int32.ofInt (1) = v557 at hv557 ⊢
          refine WP_goto 2 dX11_find_23 rfl ?_
          exact WP_sub (fc rfl (fc rfl (fc rfl (fc rfl fn)))) (ihlp2_550 v557 (by omega) (by omega) (by omega) (by omega))
        · refine WP_iload_n dX11_find_18 rfl ?_
          exact WP_iret dX11_find_19 rfl ⟨⟨rfl, rfl, rfl⟩, _, rfl, by omega, by omega, by omega⟩
  exact WP_sub (fc rfl (fc rfl (fc rfl (fc rfl fn)))) (lp2_550 _ v549 (by omega) (by omega) (by omega) (Nat.lt_succ_self _))
set_option maxHeartbeats 4000000 in
set_option maxRecDepth 100000 in
theorem sm_find_3 {g : GG} {n : Int} {L : Int32} (hy : Ly g)  {I : pI} {J : pJ} {R : pR} (hr : Rf g R) (hI : MP g n L I) (ma : Int32) (ma_lo : 0 ≤ ma.toInt) (ma_hi : ma.toInt ≤ 3) : SP g mX11_find [.ref (ad g 0), .ref (ad g 3), .int ma] I J R (fun r I' J' R' => (I' = I ∧ J' = J ∧ R' = R) ∧ ∃ v : Int32, r = some (.int v) ∧ -1 ≤ v.toInt ∧ v.toInt ≤ 2 ∧ (v.toInt < ma.toInt ∨ v.toInt = -1)) := by
  refine SP_of ⟨by decide, rfl⟩ (Nat.le_of_ble_eq_true rfl) ?_
  have e558 : I (ad g 0) 1 = L := hI.1.2
  have b559 := BT_get hI.1.1 0 1 2 (0) (0) (900) (by decide) 1 (by decide) (by decide)
  rw [e558] at b559
  refine WQ_iconst (0) (0) dX11_find_0 rfl rfl (fun v560 hv560 => ?_)
  refine WP_istore_n (ls' := [(0, _), (1, _), (2, _), (3, _)]) dX11_find_1 (by decide) rfl ?_
  have lp2_561 : ∀ (mz : Nat) (i561 : Int32), 0 ≤ i561.toInt → i561.toInt ≤ 3 → i561.toInt ≤ ma.toInt → (4 - i561.toInt).toNat < mz → WP g mX11_find 2 [(0, .ref (ad g 0)), (1, .ref (ad g 3)), (2, .int ma), (3, .int i561)] [] I J R (fun r I' J' R' => (I' = I ∧ J' = J ∧ R' = R) ∧ ∃ v : Int32, r = some (.int v) ∧ -1 ≤ v.toInt ∧ v.toInt ≤ 2 ∧ (v.toInt < ma.toInt ∨ v.toInt = -1)) := by
    intro mz
    induction mz with
    | zero =>
      intro i561 ai561 bi561 j0_I hmlp2_561
      exact absurd hmlp2_561 (Nat.not_lt_zero _)
    | succ mz ihlp2_561 =>
      intro i561 ai561 bi561 j0_I hmlp2_561
      refine WP_iload_n dX11_find_2 rfl ?_
      refine WP_iload_n dX11_find_3 rfl ?_
      refine WQ_icmp_ge 26 dX11_find_4 rfl (fun c562 => ?_) (fun c562 => ?_)
      · refine WQ_iconst (-1) (-1) dX11_find_26 rfl rfl (fun v564 hv564 => ?_)
        exact WP_iret dX11_find_27 rfl ⟨⟨rfl, rfl, rfl⟩, _, rfl, by omega, by omega, by omega⟩
      · refine WP_aload_n dX11_find_7 rfl ?_
        refine WP_iload_n dX11_find_8 rfl ?_
        refine WQ_laldu dX11_find_9 (ly_is hy 3 14 rfl) (ly_n hy 3 3 rfl) (by omega) (by omega) (fun l565 => ?_)
        refine WP_aload_n dX11_find_10 rfl ?_
        refine WP_callV0 (k := 11) dX11_find_11 ⟨⟨⟨by decide, by decide⟩, zX11_name⟩, lX11_67, by decide, rfl, vX11_name.1, vX11_name.2⟩ (ly_is hy 0 11 rfl) (sm_name hy hr hI  ) (Nat.le_of_ble_eq_true rfl) ?_
        intro r Ia Ja Ra hq
        obtain ⟨⟨ea, eb, ec⟩, l566, rfl⟩ := hq
        show WP _ _ _ _ (.long _ :: _) _ _ _ _
        rw [ea, eb, ec]
        clear ea eb ec Ia Ja Ra
        refine WQ_lcmpu dX11_find_14 (fun v567 => ?_)
        refine WX_if_ne 20 dX11_find_15 rfl ?_ ?_
        · refine WP_iinc (ls' := [(0, _), (1, _), (2, _), (3, _)]) dX11_find_20 rfl (by decide) rfl ?_
          have hv568 : (i561 + Int32.ofInt (1)).toInt = i561.toInt + (1) := ia_n rfl (by omega) (by omega)
          generalize i561 + Int32.ofInt (1) = v568 at hv568 ⊢
          refine WP_goto 2 dX11_find_23 rfl ?_
          exact WP_sub (fc rfl (fc rfl (fc rfl (fc rfl fn)))) (ihlp2_561 v568 (by omega) (by omega) (by omega) (by omega))
        · refine WP_iload_n dX11_find_18 rfl ?_
          exact WP_iret dX11_find_19 rfl ⟨⟨rfl, rfl, rfl⟩, _, rfl, by omega, by omega, by omega⟩
  exact WP_sub (fc rfl (fc rfl (fc rfl (fc rfl fn)))) (lp2_561 _ v560 (by omega) (by omega) (by omega) (Nat.lt_succ_self _))
set_option maxHeartbeats 4000000 in
set_option maxRecDepth 100000 in
theorem sm_find_4 {g : GG} {n : Int} {L : Int32} (hy : Ly g)  {I : pI} {J : pJ} {R : pR} (hr : Rf g R) (hI : MP g n L I) (ma : Int32) (ma_lo : 0 ≤ ma.toInt) (ma_hi : ma.toInt ≤ 4) : SP g mX11_find [.ref (ad g 0), .ref (ad g 4), .int ma] I J R (fun r I' J' R' => (I' = I ∧ J' = J ∧ R' = R) ∧ ∃ v : Int32, r = some (.int v) ∧ -1 ≤ v.toInt ∧ v.toInt ≤ 3 ∧ (v.toInt < ma.toInt ∨ v.toInt = -1)) := by
  refine SP_of ⟨by decide, rfl⟩ (Nat.le_of_ble_eq_true rfl) ?_
  have e569 : I (ad g 0) 1 = L := hI.1.2
  have b570 := BT_get hI.1.1 0 1 2 (0) (0) (900) (by decide) 1 (by decide) (by decide)
  rw [e569] at b570
  refine WQ_iconst (0) (0) dX11_find_0 rfl rfl (fun v571 hv571 => ?_)
  refine WP_istore_n (ls' := [(0, _), (1, _), (2, _), (3, _)]) dX11_find_1 (by decide) rfl ?_
  have lp2_572 : ∀ (mz : Nat) (i572 : Int32), 0 ≤ i572.toInt → i572.toInt ≤ 4 → i572.toInt ≤ ma.toInt → (5 - i572.toInt).toNat < mz → WP g mX11_find 2 [(0, .ref (ad g 0)), (1, .ref (ad g 4)), (2, .int ma), (3, .int i572)] [] I J R (fun r I' J' R' => (I' = I ∧ J' = J ∧ R' = R) ∧ ∃ v : Int32, r = some (.int v) ∧ -1 ≤ v.toInt ∧ v.toInt ≤ 3 ∧ (v.toInt < ma.toInt ∨ v.toInt = -1)) := by
    intro mz
    induction mz with
    | zero =>
      intro i572 ai572 bi572 j0_I hmlp2_572
      exact absurd hmlp2_572 (Nat.not_lt_zero _)
    | succ mz ihlp2_572 =>
      intro i572 ai572 bi572 j0_I hmlp2_572
      refine WP_iload_n dX11_find_2 rfl ?_
      refine WP_iload_n dX11_find_3 rfl ?_
      refine WQ_icmp_ge 26 dX11_find_4 rfl (fun c573 => ?_) (fun c573 => ?_)
      · refine WQ_iconst (-1) (-1) dX11_find_26 rfl rfl (fun v575 hv575 => ?_)
        exact WP_iret dX11_find_27 rfl ⟨⟨rfl, rfl, rfl⟩, _, rfl, by omega, by omega, by omega⟩
      · refine WP_aload_n dX11_find_7 rfl ?_
        refine WP_iload_n dX11_find_8 rfl ?_
        refine WQ_laldu dX11_find_9 (ly_is hy 4 14 rfl) (ly_n hy 4 4 rfl) (by omega) (by omega) (fun l576 => ?_)
        refine WP_aload_n dX11_find_10 rfl ?_
        refine WP_callV0 (k := 11) dX11_find_11 ⟨⟨⟨by decide, by decide⟩, zX11_name⟩, lX11_67, by decide, rfl, vX11_name.1, vX11_name.2⟩ (ly_is hy 0 11 rfl) (sm_name hy hr hI  ) (Nat.le_of_ble_eq_true rfl) ?_
        intro r Ia Ja Ra hq
        obtain ⟨⟨ea, eb, ec⟩, l577, rfl⟩ := hq
        show WP _ _ _ _ (.long _ :: _) _ _ _ _
        rw [ea, eb, ec]
        clear ea eb ec Ia Ja Ra
        refine WQ_lcmpu dX11_find_14 (fun v578 => ?_)
        refine WX_if_ne 20 dX11_find_15 rfl ?_ ?_
        · refine WP_iinc (ls' := [(0, _), (1, _), (2, _), (3, _)]) dX11_find_20 rfl (by decide) rfl ?_
          have hv579 : (i572 + Int32.ofInt (1)).toInt = i572.toInt + (1) := ia_n rfl (by omega) (by omega)
          generalize i572 + Int32.ofInt (1) = v579 at hv579 ⊢
          refine WP_goto 2 dX11_find_23 rfl ?_
          exact WP_sub (fc rfl (fc rfl (fc rfl (fc rfl fn)))) (ihlp2_572 v579 (by omega) (by omega) (by omega) (by omega))
        · refine WP_iload_n dX11_find_18 rfl ?_
          exact WP_iret dX11_find_19 rfl ⟨⟨rfl, rfl, rfl⟩, _, rfl, by omega, by omega, by omega⟩
  exact WP_sub (fc rfl (fc rfl (fc rfl (fc rfl fn)))) (lp2_572 _ v571 (by omega) (by omega) (by omega) (Nat.lt_succ_self _))
set_option maxHeartbeats 4000000 in
set_option maxRecDepth 100000 in
theorem sm_find_5 {g : GG} {n : Int} {L : Int32} (hy : Ly g)  {I : pI} {J : pJ} {R : pR} (hr : Rf g R) (hI : MP g n L I) (ma : Int32) (ma_lo : 0 ≤ ma.toInt) (ma_hi : ma.toInt ≤ 3) : SP g mX11_find [.ref (ad g 0), .ref (ad g 5), .int ma] I J R (fun r I' J' R' => (I' = I ∧ J' = J ∧ R' = R) ∧ ∃ v : Int32, r = some (.int v) ∧ -1 ≤ v.toInt ∧ v.toInt ≤ 2 ∧ (v.toInt < ma.toInt ∨ v.toInt = -1)) := by
  refine SP_of ⟨by decide, rfl⟩ (Nat.le_of_ble_eq_true rfl) ?_
  have e580 : I (ad g 0) 1 = L := hI.1.2
  have b581 := BT_get hI.1.1 0 1 2 (0) (0) (900) (by decide) 1 (by decide) (by decide)
  rw [e580] at b581
  refine WQ_iconst (0) (0) dX11_find_0 rfl rfl (fun v582 hv582 => ?_)
  refine WP_istore_n (ls' := [(0, _), (1, _), (2, _), (3, _)]) dX11_find_1 (by decide) rfl ?_
  have lp2_583 : ∀ (mz : Nat) (i583 : Int32), 0 ≤ i583.toInt → i583.toInt ≤ 3 → i583.toInt ≤ ma.toInt → (4 - i583.toInt).toNat < mz → WP g mX11_find 2 [(0, .ref (ad g 0)), (1, .ref (ad g 5)), (2, .int ma), (3, .int i583)] [] I J R (fun r I' J' R' => (I' = I ∧ J' = J ∧ R' = R) ∧ ∃ v : Int32, r = some (.int v) ∧ -1 ≤ v.toInt ∧ v.toInt ≤ 2 ∧ (v.toInt < ma.toInt ∨ v.toInt = -1)) := by
    intro mz
    induction mz with
    | zero =>
      intro i583 ai583 bi583 j0_I hmlp2_583
      exact absurd hmlp2_583 (Nat.not_lt_zero _)
    | succ mz ihlp2_583 =>
      intro i583 ai583 bi583 j0_I hmlp2_583
      refine WP_iload_n dX11_find_2 rfl ?_
      refine WP_iload_n dX11_find_3 rfl ?_
      refine WQ_icmp_ge 26 dX11_find_4 rfl (fun c584 => ?_) (fun c584 => ?_)
      · refine WQ_iconst (-1) (-1) dX11_find_26 rfl rfl (fun v586 hv586 => ?_)
        exact WP_iret dX11_find_27 rfl ⟨⟨rfl, rfl, rfl⟩, _, rfl, by omega, by omega, by omega⟩
      · refine WP_aload_n dX11_find_7 rfl ?_
        refine WP_iload_n dX11_find_8 rfl ?_
        refine WQ_laldu dX11_find_9 (ly_is hy 5 14 rfl) (ly_n hy 5 3 rfl) (by omega) (by omega) (fun l587 => ?_)
        refine WP_aload_n dX11_find_10 rfl ?_
        refine WP_callV0 (k := 11) dX11_find_11 ⟨⟨⟨by decide, by decide⟩, zX11_name⟩, lX11_67, by decide, rfl, vX11_name.1, vX11_name.2⟩ (ly_is hy 0 11 rfl) (sm_name hy hr hI  ) (Nat.le_of_ble_eq_true rfl) ?_
        intro r Ia Ja Ra hq
        obtain ⟨⟨ea, eb, ec⟩, l588, rfl⟩ := hq
        show WP _ _ _ _ (.long _ :: _) _ _ _ _
        rw [ea, eb, ec]
        clear ea eb ec Ia Ja Ra
        refine WQ_lcmpu dX11_find_14 (fun v589 => ?_)
        refine WX_if_ne 20 dX11_find_15 rfl ?_ ?_
        · refine WP_iinc (ls' := [(0, _), (1, _), (2, _), (3, _)]) dX11_find_20 rfl (by decide) rfl ?_
          have hv590 : (i583 + Int32.ofInt (1)).toInt = i583.toInt + (1) := ia_n rfl (by omega) (by omega)
          generalize i583 + Int32.ofInt (1) = v590 at hv590 ⊢
          refine WP_goto 2 dX11_find_23 rfl ?_
          exact WP_sub (fc rfl (fc rfl (fc rfl (fc rfl fn)))) (ihlp2_583 v590 (by omega) (by omega) (by omega) (by omega))
        · refine WP_iload_n dX11_find_18 rfl ?_
          exact WP_iret dX11_find_19 rfl ⟨⟨rfl, rfl, rfl⟩, _, rfl, by omega, by omega, by omega⟩
  exact WP_sub (fc rfl (fc rfl (fc rfl (fc rfl fn)))) (lp2_583 _ v582 (by omega) (by omega) (by omega) (Nat.lt_succ_self _))
set_option maxHeartbeats 4000000 in
set_option maxRecDepth 100000 in
theorem sm_peek {g : GG} {n : Int} {L : Int32} (hy : Ly g)  {I : pI} {J : pJ} {R : pR} (hr : Rf g R) (hI : MP g n L I) (lo : Int32) (hi : Int32) (lo_lo : -1 ≤ lo.toInt) (lo_hi : lo.toInt ≤ 1000) (hi_lo : -1 ≤ hi.toInt) (hi_hi : hi.toInt ≤ 1000) (hb : (I (ad g 0) 4).toInt ≤ (I (ad g 0) 2).toInt) : SP g mX11_peek [.ref (ad g 0), .int lo, .int hi] I J R (fun r I' J' R' => (MP g n L I' ∧ R' = R ∧ (I' (ad g 0) 4).toInt ≤ (I' (ad g 0) 2).toInt ∧ I' (ad g 0) 15 = I (ad g 0) 15 ∧ I' (ad g 0) 16 = I (ad g 0) 16) ∧ ∃ v : Int32, r = some (.int v) ∧ 0 ≤ v.toInt ∧ v.toInt ≤ 1 ∧ (v.toInt = 1 → lo.toInt ≤ (I' (ad g 0) 7).toInt ∧ (I' (ad g 0) 7).toInt ≤ hi.toInt)) := by
  refine SP_of ⟨by decide, rfl⟩ (Nat.le_of_ble_eq_true rfl) ?_
  have e591 : I (ad g 0) 1 = L := hI.1.2
  have b592 := BT_get hI.1.1 0 1 2 (0) (0) (900) (by decide) 1 (by decide) (by decide)
  rw [e591] at b592
  obtain ⟨w593, ew593⟩ : ∃ w : Int32, I (ad g 0) 15 = w := ⟨_, rfl⟩
  have bw593 := BT_get hI.1.1 0 15 16 (0) (0) (4) (by decide) 15 (by decide) (by decide)
  rw [ew593] at bw593
  obtain ⟨w594, ew594⟩ : ∃ w : Int32, I (ad g 0) 16 = w := ⟨_, rfl⟩
  have bw594 := BT_get hI.1.1 0 16 17 (0) (0) (3) (by decide) 16 (by decide) (by decide)
  rw [ew594] at bw594
  obtain ⟨w595, ew595⟩ : ∃ w : Int32, I (ad g 0) 4 = w := ⟨_, rfl⟩
  have bw595 := BT_get hI.1.1 0 4 5 (0) (0) (900) (by decide) 4 (by decide) (by decide)
  rw [ew595] at bw595
  obtain ⟨w596, ew596⟩ : ∃ w : Int32, I (ad g 0) 2 = w := ⟨_, rfl⟩
  have bw596 := BT_get hI.1.1 0 2 3 (0) (0) (900) (by decide) 2 (by decide) (by decide)
  rw [ew596] at bw596
  rw [ew595, ew596] at hb
  refine WP_aload_n dX11_peek_0 rfl ?_
  refine WQ_geti dX11_peek_1 fX11_27 rfl (ly_is hy 0 11 rfl) (BT_get hI.1.1 0 5 6 (0) (0) (4) (by decide) 5 (by decide) (by decide)) (fun v597 ev597 av597 bv597 => ?_)
  refine WQ_iconst (2) (2) dX11_peek_4 rfl rfl (fun v598 hv598 => ?_)
  refine WQ_icmp_eq 14 dX11_peek_5 rfl (fun c598 => ?_) (fun c598 => ?_)
  · refine WP_aload_n dX11_peek_14 rfl ?_
    refine WQ_getiu dX11_peek_15 fX11_37 rfl (ly_is hy 0 11 rfl) (fun v600 ev600 => ?_)
    refine WQ_i2l dX11_peek_18 (fun l601 hl601 => ?_)
    refine WP_iload_n dX11_peek_19 rfl ?_
    refine WQ_i2l dX11_peek_20 (fun l602 hl602 => ?_)
    refine WP_iload_n dX11_peek_21 rfl ?_
    refine WQ_i2l dX11_peek_22 (fun l603 hl603 => ?_)
    refine WP_callS3 dX11_peek_23 ⟨⟨⟨by decide, by decide⟩, zX11_in⟩, lX11_52, tX11_in⟩ (sm_in hy hr hI l601 l602 l603 ) (Nat.le_of_ble_eq_true rfl) ?_
    intro r Ia Ja Ra hq
    obtain ⟨⟨ea, eb, ec⟩, v604, rfl, av604, bv604, cv604⟩ := hq
    show WP _ _ _ _ (.int _ :: _) _ _ _ _
    rw [ea, eb, ec]
    clear ea eb ec Ia Ja Ra
    refine WQ_if_ne 35 dX11_peek_26 rfl (fun c604 => ?_) (fun c604 => ?_)
    · refine WP_aload_n dX11_peek_35 rfl ?_
      refine WP_aload_n dX11_peek_36 rfl ?_
      refine WQ_getim dX11_peek_37 fX11_37 rfl (ly_is hy 0 11 rfl) ev600 ?_
      refine WQ_puti dX11_peek_40 fX11_56 rfl rfl (ly_is hy 0 11 rfl) (fun I606 eI606 => ?_)
      have hI606 : MP g n L I606 := by rw [eI606]; exact (mp_w hy hI (c := 0) (mi_f hy hI.1 (c := 0) (-1) (0) (1000) (by decide) (Or.inr (by decide)) (by decide) (by omega) (by omega)) (by decide) (by decide) (Or.inr (by decide)))
      have e607 : I606 (ad g 0) 1 = L := by rw [eI606, pp_ne _ _ (Or.inr (by decide))]; exact e591
      have e608 : I606 (ad g 0) 15 = w593 := by rw [eI606, pp_ne _ _ (Or.inr (by decide))]; exact ew593
      have e609 : I606 (ad g 0) 16 = w594 := by rw [eI606, pp_ne _ _ (Or.inr (by decide))]; exact ew594
      have e610 : I606 (ad g 0) 4 = w595 := by rw [eI606, pp_ne _ _ (Or.inr (by decide))]; exact ew595
      have e611 : I606 (ad g 0) 2 = w596 := by rw [eI606, pp_ne _ _ (Or.inr (by decide))]; exact ew596
      have e612 : I606 (ad g 0) 5 = v597 := by rw [eI606, pp_ne _ _ (Or.inr (by decide))]; exact ev597
      have e613 : I606 (ad g 0) 6 = v600 := by rw [eI606, pp_ne _ _ (Or.inr (by decide))]; exact ev600
      have e614 : I606 (ad g 0) 7 = v600 := by rw [eI606, pp_self]
      clear eI606
      refine WQ_iconst (1) (1) dX11_peek_43 rfl rfl (fun v615 hv615 => ?_)
      exact WP_zret dX11_peek_44 rfl (nar_z (by omega)) ⟨⟨hI606, rfl, ⟨(by rw [e610, e611]; omega), (by rw [e608, ew593] <;> exact (eq32 _ _).mpr (by omega)), (by rw [e609, ew594] <;> exact (eq32 _ _).mpr (by omega))⟩⟩, _, rfl, by omega, by omega, by (try rw [e614]); omega⟩
    · refine WP_aload_n dX11_peek_29 rfl ?_
      refine WQ_iconst (2) (2) dX11_peek_30 rfl rfl (fun v616 hv616 => ?_)
      refine WP_callV1 (k := 11) dX11_peek_31 ⟨⟨⟨by decide, by decide⟩, zX11_bad⟩, lX11_49, by decide, rfl, vX11_bad.1, vX11_bad.2⟩ (ly_is hy 0 11 rfl) (sm_bad2 hy hr hI v616  (by rw [ew595, ew596]; omega)) (Nat.le_of_ble_eq_true rfl) ?_
      intro r I617 J618 Ra hq
      obtain ⟨⟨hI617, ec, ⟨pI617, sI617_0_15, sI617_0_16⟩⟩, v619, rfl, av619, bv619⟩ := hq
      show WP _ _ _ _ (.int _ :: _) _ _ _ _
      rw [ec]
      clear ec Ra
      have e620 : I617 (ad g 0) 15 = w593 := by rw [sI617_0_15]; exact ew593
      have e621 : I617 (ad g 0) 16 = w594 := by rw [sI617_0_16]; exact ew594
      have e622 : I617 (ad g 0) 1 = L := hI617.1.2
      have b623 := BT_get hI617.1.1 0 1 2 (0) (0) (900) (by decide) 1 (by decide) (by decide)
      rw [e622] at b623
      obtain ⟨w624, ew624⟩ : ∃ w : Int32, I617 (ad g 0) 4 = w := ⟨_, rfl⟩
      have bw624 := BT_get hI617.1.1 0 4 5 (0) (0) (900) (by decide) 4 (by decide) (by decide)
      rw [ew624] at bw624
      obtain ⟨w625, ew625⟩ : ∃ w : Int32, I617 (ad g 0) 2 = w := ⟨_, rfl⟩
      have bw625 := BT_get hI617.1.1 0 2 3 (0) (0) (900) (by decide) 2 (by decide) (by decide)
      rw [ew625] at bw625
      rw [ew624, ew625] at pI617
      obtain ⟨w626, ew626⟩ : ∃ w : Int32, I617 (ad g 0) 7 = w := ⟨_, rfl⟩
      have bw626 := BT_get hI617.1.1 0 7 8 (-1) (0) (1000) (by decide) 7 (by decide) (by decide)
      rw [ew626] at bw626
      exact WP_zret dX11_peek_34 rfl (nar_z (by omega)) ⟨⟨hI617, rfl, ⟨(by rw [ew624, ew625]; omega), (by rw [e620, ew593] <;> exact (eq32 _ _).mpr (by omega)), (by rw [e621, ew594] <;> exact (eq32 _ _).mpr (by omega))⟩⟩, _, rfl, by omega, by omega, by (try rw [ew626]); omega⟩
  · refine WP_aload_n dX11_peek_8 rfl ?_
    refine WQ_iconst (1) (1) dX11_peek_9 rfl rfl (fun v627 hv627 => ?_)
    refine WP_callV1 (k := 11) dX11_peek_10 ⟨⟨⟨by decide, by decide⟩, zX11_bad⟩, lX11_49, by decide, rfl, vX11_bad.1, vX11_bad.2⟩ (ly_is hy 0 11 rfl) (sm_bad2 hy hr hI v627  (by rw [ew595, ew596]; omega)) (Nat.le_of_ble_eq_true rfl) ?_
    intro r I628 J629 Ra hq
    obtain ⟨⟨hI628, ec, ⟨pI628, sI628_0_15, sI628_0_16⟩⟩, v630, rfl, av630, bv630⟩ := hq
    show WP _ _ _ _ (.int _ :: _) _ _ _ _
    rw [ec]
    clear ec Ra
    have e631 : I628 (ad g 0) 15 = w593 := by rw [sI628_0_15]; exact ew593
    have e632 : I628 (ad g 0) 16 = w594 := by rw [sI628_0_16]; exact ew594
    have e633 : I628 (ad g 0) 1 = L := hI628.1.2
    have b634 := BT_get hI628.1.1 0 1 2 (0) (0) (900) (by decide) 1 (by decide) (by decide)
    rw [e633] at b634
    obtain ⟨w635, ew635⟩ : ∃ w : Int32, I628 (ad g 0) 4 = w := ⟨_, rfl⟩
    have bw635 := BT_get hI628.1.1 0 4 5 (0) (0) (900) (by decide) 4 (by decide) (by decide)
    rw [ew635] at bw635
    obtain ⟨w636, ew636⟩ : ∃ w : Int32, I628 (ad g 0) 2 = w := ⟨_, rfl⟩
    have bw636 := BT_get hI628.1.1 0 2 3 (0) (0) (900) (by decide) 2 (by decide) (by decide)
    rw [ew636] at bw636
    rw [ew635, ew636] at pI628
    obtain ⟨w637, ew637⟩ : ∃ w : Int32, I628 (ad g 0) 7 = w := ⟨_, rfl⟩
    have bw637 := BT_get hI628.1.1 0 7 8 (-1) (0) (1000) (by decide) 7 (by decide) (by decide)
    rw [ew637] at bw637
    exact WP_zret dX11_peek_13 rfl (nar_z (by omega)) ⟨⟨hI628, rfl, ⟨(by rw [ew635, ew636]; omega), (by rw [e631, ew593] <;> exact (eq32 _ _).mpr (by omega)), (by rw [e632, ew594] <;> exact (eq32 _ _).mpr (by omega))⟩⟩, _, rfl, by omega, by omega, by (try rw [ew637]); omega⟩
set_option maxHeartbeats 4000000 in
set_option maxRecDepth 100000 in
theorem sm_number {g : GG} {n : Int} {L : Int32} (hy : Ly g)  {I : pI} {J : pJ} {R : pR} (hr : Rf g R) (hI : MP g n L I) (lo : Int32) (hi : Int32) (lo_lo : -1 ≤ lo.toInt) (lo_hi : lo.toInt ≤ 1000) (hi_lo : -1 ≤ hi.toInt) (hi_hi : hi.toInt ≤ 1000) (hb : (I (ad g 0) 4).toInt ≤ (I (ad g 0) 2).toInt) : SP g mX11_number [.ref (ad g 0), .int lo, .int hi] I J R (fun r I' J' R' => (MP g n L I' ∧ R' = R ∧ (I' (ad g 0) 4).toInt ≤ (I' (ad g 0) 2).toInt ∧ I' (ad g 0) 15 = I (ad g 0) 15 ∧ I' (ad g 0) 16 = I (ad g 0) 16) ∧ ∃ v : Int32, r = some (.int v) ∧ 0 ≤ v.toInt ∧ v.toInt ≤ 1 ∧ (v.toInt = 1 → lo.toInt ≤ (I' (ad g 0) 7).toInt ∧ (I' (ad g 0) 7).toInt ≤ hi.toInt)) := by
  refine SP_of ⟨by decide, rfl⟩ (Nat.le_of_ble_eq_true rfl) ?_
  have e638 : I (ad g 0) 1 = L := hI.1.2
  have b639 := BT_get hI.1.1 0 1 2 (0) (0) (900) (by decide) 1 (by decide) (by decide)
  rw [e638] at b639
  obtain ⟨w640, ew640⟩ : ∃ w : Int32, I (ad g 0) 15 = w := ⟨_, rfl⟩
  have bw640 := BT_get hI.1.1 0 15 16 (0) (0) (4) (by decide) 15 (by decide) (by decide)
  rw [ew640] at bw640
  obtain ⟨w641, ew641⟩ : ∃ w : Int32, I (ad g 0) 16 = w := ⟨_, rfl⟩
  have bw641 := BT_get hI.1.1 0 16 17 (0) (0) (3) (by decide) 16 (by decide) (by decide)
  rw [ew641] at bw641
  obtain ⟨w642, ew642⟩ : ∃ w : Int32, I (ad g 0) 4 = w := ⟨_, rfl⟩
  have bw642 := BT_get hI.1.1 0 4 5 (0) (0) (900) (by decide) 4 (by decide) (by decide)
  rw [ew642] at bw642
  obtain ⟨w643, ew643⟩ : ∃ w : Int32, I (ad g 0) 2 = w := ⟨_, rfl⟩
  have bw643 := BT_get hI.1.1 0 2 3 (0) (0) (900) (by decide) 2 (by decide) (by decide)
  rw [ew643] at bw643
  rw [ew642, ew643] at hb
  refine WP_aload_n dX11_number_0 rfl ?_
  refine WP_iload_n dX11_number_1 rfl ?_
  refine WP_iload_n dX11_number_2 rfl ?_
  refine WP_callV2 (k := 11) dX11_number_3 ⟨⟨⟨by decide, by decide⟩, zX11_peek⟩, lX11_59, by decide, rfl, vX11_peek.1, vX11_peek.2⟩ (ly_is hy 0 11 rfl) (sm_peek hy hr hI lo hi (by omega) (by omega) (by omega) (by omega) (by rw [ew642, ew643]; omega)) (Nat.le_of_ble_eq_true rfl) ?_
  intro r I644 J645 Ra hq
  obtain ⟨⟨hI644, ec, ⟨pI644, sI644_0_15, sI644_0_16⟩⟩, v646, rfl, av646, bv646, cv646⟩ := hq
  show WP _ _ _ _ (.int _ :: _) _ _ _ _
  rw [ec]
  clear ec Ra
  have e647 : I644 (ad g 0) 15 = w640 := by rw [sI644_0_15]; exact ew640
  have e648 : I644 (ad g 0) 16 = w641 := by rw [sI644_0_16]; exact ew641
  have e649 : I644 (ad g 0) 1 = L := hI644.1.2
  have b650 := BT_get hI644.1.1 0 1 2 (0) (0) (900) (by decide) 1 (by decide) (by decide)
  rw [e649] at b650
  obtain ⟨w651, ew651⟩ : ∃ w : Int32, I644 (ad g 0) 4 = w := ⟨_, rfl⟩
  have bw651 := BT_get hI644.1.1 0 4 5 (0) (0) (900) (by decide) 4 (by decide) (by decide)
  rw [ew651] at bw651
  obtain ⟨w652, ew652⟩ : ∃ w : Int32, I644 (ad g 0) 2 = w := ⟨_, rfl⟩
  have bw652 := BT_get hI644.1.1 0 2 3 (0) (0) (900) (by decide) 2 (by decide) (by decide)
  rw [ew652] at bw652
  rw [ew651, ew652] at pI644
  obtain ⟨w653, ew653⟩ : ∃ w : Int32, I644 (ad g 0) 7 = w := ⟨_, rfl⟩
  have bw653 := BT_get hI644.1.1 0 7 8 (-1) (0) (1000) (by decide) 7 (by decide) (by decide)
  rw [ew653] at bw653
  rw [ew653] at cv646
  refine WQ_if_ne 11 dX11_number_6 rfl (fun c653 => ?_) (fun c653 => ?_)
  · refine WP_aload_n dX11_number_11 rfl ?_
    refine WP_callV0 (k := 11) dX11_number_12 ⟨⟨⟨by decide, by decide⟩, zX11_scan⟩, lX11_63, by decide, rfl, vX11_scan.1, vX11_scan.2⟩ (ly_is hy 0 11 rfl) (sm_scan hy hr hI644   (by rw [ew651, ew652]; omega)) (Nat.le_of_ble_eq_true rfl) ?_
    intro r I655 J656 Ra hq
    obtain ⟨⟨hI655, ec, ⟨pI655, sI655_0_7, sI655_0_15, sI655_0_16⟩⟩, rfl⟩ := hq
    rw [ec]
    clear ec Ra
    have e657 : I655 (ad g 0) 7 = w653 := by rw [sI655_0_7]; exact ew653
    have e658 : I655 (ad g 0) 15 = w640 := by rw [sI655_0_15]; exact e647
    have e659 : I655 (ad g 0) 16 = w641 := by rw [sI655_0_16]; exact e648
    have e660 : I655 (ad g 0) 1 = L := hI655.1.2
    have b661 := BT_get hI655.1.1 0 1 2 (0) (0) (900) (by decide) 1 (by decide) (by decide)
    rw [e660] at b661
    obtain ⟨w662, ew662⟩ : ∃ w : Int32, I655 (ad g 0) 4 = w := ⟨_, rfl⟩
    have bw662 := BT_get hI655.1.1 0 4 5 (0) (0) (900) (by decide) 4 (by decide) (by decide)
    rw [ew662] at bw662
    obtain ⟨w663, ew663⟩ : ∃ w : Int32, I655 (ad g 0) 2 = w := ⟨_, rfl⟩
    have bw663 := BT_get hI655.1.1 0 2 3 (0) (0) (900) (by decide) 2 (by decide) (by decide)
    rw [ew663] at bw663
    rw [ew662, ew663] at pI655
    refine WQ_iconst (1) (1) dX11_number_15 rfl rfl (fun v664 hv664 => ?_)
    exact WP_zret dX11_number_16 rfl (nar_z (by omega)) ⟨⟨hI655, rfl, ⟨(by rw [ew662, ew663]; omega), (by rw [e658, ew640] <;> exact (eq32 _ _).mpr (by omega)), (by rw [e659, ew641] <;> exact (eq32 _ _).mpr (by omega))⟩⟩, _, rfl, by omega, by omega, by (try rw [e657]); omega⟩
  · refine WQ_iconst (0) (0) dX11_number_9 rfl rfl (fun v665 hv665 => ?_)
    exact WP_zret dX11_number_10 rfl (nar_z (by omega)) ⟨⟨hI644, rfl, ⟨(by rw [ew651, ew652]; omega), (by rw [e647, ew640] <;> exact (eq32 _ _).mpr (by omega)), (by rw [e648, ew641] <;> exact (eq32 _ _).mpr (by omega))⟩⟩, _, rfl, by omega, by omega, by (try rw [ew653]); omega⟩
set_option maxHeartbeats 4000000 in
set_option maxRecDepth 100000 in
theorem sm_close {g : GG} {n : Int} {L : Int32} (hy : Ly g)  {I : pI} {J : pJ} {R : pR} (hr : Rf g R) (hI : MP g n L I)   (hb : (I (ad g 0) 4).toInt ≤ (I (ad g 0) 2).toInt) : SP g mX11_close [.ref (ad g 0)] I J R (fun r I' J' R' => (MP g n L I' ∧ R' = R ∧ (I' (ad g 0) 4).toInt ≤ (I' (ad g 0) 2).toInt ∧ I' (ad g 0) 15 = I (ad g 0) 15 ∧ I' (ad g 0) 16 = I (ad g 0) 16) ∧ ∃ v : Int32, r = some (.int v) ∧ 0 ≤ v.toInt ∧ v.toInt ≤ 1) := by
  refine SP_of ⟨by decide, rfl⟩ (Nat.le_of_ble_eq_true rfl) ?_
  have e666 : I (ad g 0) 1 = L := hI.1.2
  have b667 := BT_get hI.1.1 0 1 2 (0) (0) (900) (by decide) 1 (by decide) (by decide)
  rw [e666] at b667
  obtain ⟨w668, ew668⟩ : ∃ w : Int32, I (ad g 0) 15 = w := ⟨_, rfl⟩
  have bw668 := BT_get hI.1.1 0 15 16 (0) (0) (4) (by decide) 15 (by decide) (by decide)
  rw [ew668] at bw668
  obtain ⟨w669, ew669⟩ : ∃ w : Int32, I (ad g 0) 16 = w := ⟨_, rfl⟩
  have bw669 := BT_get hI.1.1 0 16 17 (0) (0) (3) (by decide) 16 (by decide) (by decide)
  rw [ew669] at bw669
  obtain ⟨w670, ew670⟩ : ∃ w : Int32, I (ad g 0) 4 = w := ⟨_, rfl⟩
  have bw670 := BT_get hI.1.1 0 4 5 (0) (0) (900) (by decide) 4 (by decide) (by decide)
  rw [ew670] at bw670
  obtain ⟨w671, ew671⟩ : ∃ w : Int32, I (ad g 0) 2 = w := ⟨_, rfl⟩
  have bw671 := BT_get hI.1.1 0 2 3 (0) (0) (900) (by decide) 2 (by decide) (by decide)
  rw [ew671] at bw671
  rw [ew670, ew671] at hb
  refine WP_aload_n dX11_close_0 rfl ?_
  refine WQ_geti dX11_close_1 fX11_27 rfl (ly_is hy 0 11 rfl) (BT_get hI.1.1 0 5 6 (0) (0) (4) (by decide) 5 (by decide) (by decide)) (fun v672 ev672 av672 bv672 => ?_)
  refine WQ_iconst (3) (3) dX11_close_4 rfl rfl (fun v673 hv673 => ?_)
  refine WQ_icmp_eq 14 dX11_close_5 rfl (fun c673 => ?_) (fun c673 => ?_)
  · refine WP_aload_n dX11_close_14 rfl ?_
    refine WP_callV0 (k := 11) dX11_close_15 ⟨⟨⟨by decide, by decide⟩, zX11_scan⟩, lX11_63, by decide, rfl, vX11_scan.1, vX11_scan.2⟩ (ly_is hy 0 11 rfl) (sm_scan hy hr hI   (by rw [ew670, ew671]; omega)) (Nat.le_of_ble_eq_true rfl) ?_
    intro r I675 J676 Ra hq
    obtain ⟨⟨hI675, ec, ⟨pI675, sI675_0_7, sI675_0_15, sI675_0_16⟩⟩, rfl⟩ := hq
    rw [ec]
    clear ec Ra
    have e677 : I675 (ad g 0) 15 = w668 := by rw [sI675_0_15]; exact ew668
    have e678 : I675 (ad g 0) 16 = w669 := by rw [sI675_0_16]; exact ew669
    have e679 : I675 (ad g 0) 1 = L := hI675.1.2
    have b680 := BT_get hI675.1.1 0 1 2 (0) (0) (900) (by decide) 1 (by decide) (by decide)
    rw [e679] at b680
    obtain ⟨w681, ew681⟩ : ∃ w : Int32, I675 (ad g 0) 4 = w := ⟨_, rfl⟩
    have bw681 := BT_get hI675.1.1 0 4 5 (0) (0) (900) (by decide) 4 (by decide) (by decide)
    rw [ew681] at bw681
    obtain ⟨w682, ew682⟩ : ∃ w : Int32, I675 (ad g 0) 2 = w := ⟨_, rfl⟩
    have bw682 := BT_get hI675.1.1 0 2 3 (0) (0) (900) (by decide) 2 (by decide) (by decide)
    rw [ew682] at bw682
    rw [ew681, ew682] at pI675
    refine WQ_iconst (1) (1) dX11_close_18 rfl rfl (fun v683 hv683 => ?_)
    exact WP_zret dX11_close_19 rfl (nar_z (by omega)) ⟨⟨hI675, rfl, ⟨(by rw [ew681, ew682]; omega), (by rw [e677, ew668] <;> exact (eq32 _ _).mpr (by omega)), (by rw [e678, ew669] <;> exact (eq32 _ _).mpr (by omega))⟩⟩, _, rfl, by omega, by omega⟩
  · refine WP_aload_n dX11_close_8 rfl ?_
    refine WQ_iconst (1) (1) dX11_close_9 rfl rfl (fun v684 hv684 => ?_)
    refine WP_callV1 (k := 11) dX11_close_10 ⟨⟨⟨by decide, by decide⟩, zX11_bad⟩, lX11_49, by decide, rfl, vX11_bad.1, vX11_bad.2⟩ (ly_is hy 0 11 rfl) (sm_bad2 hy hr hI v684  (by rw [ew670, ew671]; omega)) (Nat.le_of_ble_eq_true rfl) ?_
    intro r I685 J686 Ra hq
    obtain ⟨⟨hI685, ec, ⟨pI685, sI685_0_15, sI685_0_16⟩⟩, v687, rfl, av687, bv687⟩ := hq
    show WP _ _ _ _ (.int _ :: _) _ _ _ _
    rw [ec]
    clear ec Ra
    have e688 : I685 (ad g 0) 15 = w668 := by rw [sI685_0_15]; exact ew668
    have e689 : I685 (ad g 0) 16 = w669 := by rw [sI685_0_16]; exact ew669
    have e690 : I685 (ad g 0) 1 = L := hI685.1.2
    have b691 := BT_get hI685.1.1 0 1 2 (0) (0) (900) (by decide) 1 (by decide) (by decide)
    rw [e690] at b691
    obtain ⟨w692, ew692⟩ : ∃ w : Int32, I685 (ad g 0) 4 = w := ⟨_, rfl⟩
    have bw692 := BT_get hI685.1.1 0 4 5 (0) (0) (900) (by decide) 4 (by decide) (by decide)
    rw [ew692] at bw692
    obtain ⟨w693, ew693⟩ : ∃ w : Int32, I685 (ad g 0) 2 = w := ⟨_, rfl⟩
    have bw693 := BT_get hI685.1.1 0 2 3 (0) (0) (900) (by decide) 2 (by decide) (by decide)
    rw [ew693] at bw693
    rw [ew692, ew693] at pI685
    exact WP_zret dX11_close_13 rfl (nar_z (by omega)) ⟨⟨hI685, rfl, ⟨(by rw [ew692, ew693]; omega), (by rw [e688, ew668] <;> exact (eq32 _ _).mpr (by omega)), (by rw [e689, ew669] <;> exact (eq32 _ _).mpr (by omega))⟩⟩, _, rfl, by omega, by omega⟩
set_option maxHeartbeats 4000000 in
set_option maxRecDepth 100000 in
theorem sm_known_2 {g : GG} {n : Int} {L : Int32} (hy : Ly g)  {I : pI} {J : pJ} {R : pR} (hr : Rf g R) (hI : MP g n L I) (ma : Int32) (ma_lo : 0 ≤ ma.toInt) (ma_hi : ma.toInt ≤ 4) (hb : (I (ad g 0) 4).toInt ≤ (I (ad g 0) 2).toInt) : SP g mX11_known [.ref (ad g 0), .ref (ad g 2), .int ma] I J R (fun r I' J' R' => (MP g n L I' ∧ R' = R ∧ (I' (ad g 0) 4).toInt ≤ (I' (ad g 0) 2).toInt ∧ I' (ad g 0) 15 = I (ad g 0) 15 ∧ I' (ad g 0) 16 = I (ad g 0) 16) ∧ ∃ v : Int32, r = some (.int v) ∧ 0 ≤ v.toInt ∧ v.toInt ≤ 1 ∧ (v.toInt = 1 → 0 ≤ (I' (ad g 0) 7).toInt ∧ (I' (ad g 0) 7).toInt ≤ 3)) := by
  refine SP_of ⟨by decide, rfl⟩ (Nat.le_of_ble_eq_true rfl) ?_
  have e694 : I (ad g 0) 1 = L := hI.1.2
  have b695 := BT_get hI.1.1 0 1 2 (0) (0) (900) (by decide) 1 (by decide) (by decide)
  rw [e694] at b695
  obtain ⟨w696, ew696⟩ : ∃ w : Int32, I (ad g 0) 15 = w := ⟨_, rfl⟩
  have bw696 := BT_get hI.1.1 0 15 16 (0) (0) (4) (by decide) 15 (by decide) (by decide)
  rw [ew696] at bw696
  obtain ⟨w697, ew697⟩ : ∃ w : Int32, I (ad g 0) 16 = w := ⟨_, rfl⟩
  have bw697 := BT_get hI.1.1 0 16 17 (0) (0) (3) (by decide) 16 (by decide) (by decide)
  rw [ew697] at bw697
  obtain ⟨w698, ew698⟩ : ∃ w : Int32, I (ad g 0) 4 = w := ⟨_, rfl⟩
  have bw698 := BT_get hI.1.1 0 4 5 (0) (0) (900) (by decide) 4 (by decide) (by decide)
  rw [ew698] at bw698
  obtain ⟨w699, ew699⟩ : ∃ w : Int32, I (ad g 0) 2 = w := ⟨_, rfl⟩
  have bw699 := BT_get hI.1.1 0 2 3 (0) (0) (900) (by decide) 2 (by decide) (by decide)
  rw [ew699] at bw699
  rw [ew698, ew699] at hb
  refine WP_aload_n dX11_known_0 rfl ?_
  refine WQ_geti dX11_known_1 fX11_27 rfl (ly_is hy 0 11 rfl) (BT_get hI.1.1 0 5 6 (0) (0) (4) (by decide) 5 (by decide) (by decide)) (fun v700 ev700 av700 bv700 => ?_)
  refine WQ_iconst (1) (1) dX11_known_4 rfl rfl (fun v701 hv701 => ?_)
  refine WQ_icmp_eq 14 dX11_known_5 rfl (fun c701 => ?_) (fun c701 => ?_)
  · refine WP_aload_n dX11_known_14 rfl ?_
    refine WP_aload_n dX11_known_15 rfl ?_
    refine WP_aload_n dX11_known_16 rfl ?_
    refine WP_iload_n dX11_known_17 rfl ?_
    refine WP_callV2 (k := 11) dX11_known_18 ⟨⟨⟨by decide, by decide⟩, zX11_find⟩, lX11_71, by decide, rfl, vX11_find.1, vX11_find.2⟩ (ly_is hy 0 11 rfl) (sm_find_2 hy hr hI ma (by omega) (by omega)) (Nat.le_of_ble_eq_true rfl) ?_
    intro r Ia Ja Ra hq
    obtain ⟨⟨ea, eb, ec⟩, v703, rfl, av703, bv703, cv703⟩ := hq
    show WP _ _ _ _ (.int _ :: _) _ _ _ _
    rw [ea, eb, ec]
    clear ea eb ec Ia Ja Ra
    refine WQ_puti dX11_known_21 fX11_56 rfl rfl (ly_is hy 0 11 rfl) (fun I704 eI704 => ?_)
    have hI704 : MP g n L I704 := by rw [eI704]; exact (mp_w hy hI (c := 0) (mi_f hy hI.1 (c := 0) (-1) (0) (1000) (by decide) (Or.inr (by decide)) (by decide) (by omega) (by omega)) (by decide) (by decide) (Or.inr (by decide)))
    have e705 : I704 (ad g 0) 1 = L := by rw [eI704, pp_ne _ _ (Or.inr (by decide))]; exact e694
    have e706 : I704 (ad g 0) 15 = w696 := by rw [eI704, pp_ne _ _ (Or.inr (by decide))]; exact ew696
    have e707 : I704 (ad g 0) 16 = w697 := by rw [eI704, pp_ne _ _ (Or.inr (by decide))]; exact ew697
    have e708 : I704 (ad g 0) 4 = w698 := by rw [eI704, pp_ne _ _ (Or.inr (by decide))]; exact ew698
    have e709 : I704 (ad g 0) 2 = w699 := by rw [eI704, pp_ne _ _ (Or.inr (by decide))]; exact ew699
    have e710 : I704 (ad g 0) 5 = v700 := by rw [eI704, pp_ne _ _ (Or.inr (by decide))]; exact ev700
    have e711 : I704 (ad g 0) 7 = v703 := by rw [eI704, pp_self]
    clear eI704
    refine WP_aload_n dX11_known_24 rfl ?_
    refine WQ_getim dX11_known_25 fX11_56 rfl (ly_is hy 0 11 rfl) e711 ?_
    refine WQ_iconst (-1) (-1) dX11_known_28 rfl rfl (fun v712 hv712 => ?_)
    refine WQ_icmp_ne 38 dX11_known_29 rfl (fun c712 => ?_) (fun c712 => ?_)
    · refine WP_aload_n dX11_known_38 rfl ?_
      refine WP_callV0 (k := 11) dX11_known_39 ⟨⟨⟨by decide, by decide⟩, zX11_scan⟩, lX11_63, by decide, rfl, vX11_scan.1, vX11_scan.2⟩ (ly_is hy 0 11 rfl) (sm_scan hy hr hI704   (by rw [e708, e709]; omega)) (Nat.le_of_ble_eq_true rfl) ?_
      intro r I714 J715 Ra hq
      obtain ⟨⟨hI714, ec, ⟨pI714, sI714_0_7, sI714_0_15, sI714_0_16⟩⟩, rfl⟩ := hq
      rw [ec]
      clear ec Ra
      have e716 : I714 (ad g 0) 7 = v703 := by rw [sI714_0_7]; exact e711
      have e717 : I714 (ad g 0) 15 = w696 := by rw [sI714_0_15]; exact e706
      have e718 : I714 (ad g 0) 16 = w697 := by rw [sI714_0_16]; exact e707
      have e719 : I714 (ad g 0) 1 = L := hI714.1.2
      have b720 := BT_get hI714.1.1 0 1 2 (0) (0) (900) (by decide) 1 (by decide) (by decide)
      rw [e719] at b720
      obtain ⟨w721, ew721⟩ : ∃ w : Int32, I714 (ad g 0) 4 = w := ⟨_, rfl⟩
      have bw721 := BT_get hI714.1.1 0 4 5 (0) (0) (900) (by decide) 4 (by decide) (by decide)
      rw [ew721] at bw721
      obtain ⟨w722, ew722⟩ : ∃ w : Int32, I714 (ad g 0) 2 = w := ⟨_, rfl⟩
      have bw722 := BT_get hI714.1.1 0 2 3 (0) (0) (900) (by decide) 2 (by decide) (by decide)
      rw [ew722] at bw722
      rw [ew721, ew722] at pI714
      refine WQ_iconst (1) (1) dX11_known_42 rfl rfl (fun v723 hv723 => ?_)
      exact WP_zret dX11_known_43 rfl (nar_z (by omega)) ⟨⟨hI714, rfl, ⟨(by rw [ew721, ew722]; omega), (by rw [e717, ew696] <;> exact (eq32 _ _).mpr (by omega)), (by rw [e718, ew697] <;> exact (eq32 _ _).mpr (by omega))⟩⟩, _, rfl, by omega, by omega, by (try rw [e716]); omega⟩
    · refine WP_aload_n dX11_known_32 rfl ?_
      refine WQ_iconst (5) (5) dX11_known_33 rfl rfl (fun v724 hv724 => ?_)
      refine WP_callV1 (k := 11) dX11_known_34 ⟨⟨⟨by decide, by decide⟩, zX11_bad⟩, lX11_49, by decide, rfl, vX11_bad.1, vX11_bad.2⟩ (ly_is hy 0 11 rfl) (sm_bad2 hy hr hI704 v724  (by rw [e708, e709]; omega)) (Nat.le_of_ble_eq_true rfl) ?_
      intro r I725 J726 Ra hq
      obtain ⟨⟨hI725, ec, ⟨pI725, sI725_0_15, sI725_0_16⟩⟩, v727, rfl, av727, bv727⟩ := hq
      show WP _ _ _ _ (.int _ :: _) _ _ _ _
      rw [ec]
      clear ec Ra
      have e728 : I725 (ad g 0) 15 = w696 := by rw [sI725_0_15]; exact e706
      have e729 : I725 (ad g 0) 16 = w697 := by rw [sI725_0_16]; exact e707
      have e730 : I725 (ad g 0) 1 = L := hI725.1.2
      have b731 := BT_get hI725.1.1 0 1 2 (0) (0) (900) (by decide) 1 (by decide) (by decide)
      rw [e730] at b731
      obtain ⟨w732, ew732⟩ : ∃ w : Int32, I725 (ad g 0) 4 = w := ⟨_, rfl⟩
      have bw732 := BT_get hI725.1.1 0 4 5 (0) (0) (900) (by decide) 4 (by decide) (by decide)
      rw [ew732] at bw732
      obtain ⟨w733, ew733⟩ : ∃ w : Int32, I725 (ad g 0) 2 = w := ⟨_, rfl⟩
      have bw733 := BT_get hI725.1.1 0 2 3 (0) (0) (900) (by decide) 2 (by decide) (by decide)
      rw [ew733] at bw733
      rw [ew732, ew733] at pI725
      obtain ⟨w734, ew734⟩ : ∃ w : Int32, I725 (ad g 0) 7 = w := ⟨_, rfl⟩
      have bw734 := BT_get hI725.1.1 0 7 8 (-1) (0) (1000) (by decide) 7 (by decide) (by decide)
      rw [ew734] at bw734
      exact WP_zret dX11_known_37 rfl (nar_z (by omega)) ⟨⟨hI725, rfl, ⟨(by rw [ew732, ew733]; omega), (by rw [e728, ew696] <;> exact (eq32 _ _).mpr (by omega)), (by rw [e729, ew697] <;> exact (eq32 _ _).mpr (by omega))⟩⟩, _, rfl, by omega, by omega, by (try rw [ew734]); omega⟩
  · refine WP_aload_n dX11_known_8 rfl ?_
    refine WQ_iconst (1) (1) dX11_known_9 rfl rfl (fun v735 hv735 => ?_)
    refine WP_callV1 (k := 11) dX11_known_10 ⟨⟨⟨by decide, by decide⟩, zX11_bad⟩, lX11_49, by decide, rfl, vX11_bad.1, vX11_bad.2⟩ (ly_is hy 0 11 rfl) (sm_bad2 hy hr hI v735  (by rw [ew698, ew699]; omega)) (Nat.le_of_ble_eq_true rfl) ?_
    intro r I736 J737 Ra hq
    obtain ⟨⟨hI736, ec, ⟨pI736, sI736_0_15, sI736_0_16⟩⟩, v738, rfl, av738, bv738⟩ := hq
    show WP _ _ _ _ (.int _ :: _) _ _ _ _
    rw [ec]
    clear ec Ra
    have e739 : I736 (ad g 0) 15 = w696 := by rw [sI736_0_15]; exact ew696
    have e740 : I736 (ad g 0) 16 = w697 := by rw [sI736_0_16]; exact ew697
    have e741 : I736 (ad g 0) 1 = L := hI736.1.2
    have b742 := BT_get hI736.1.1 0 1 2 (0) (0) (900) (by decide) 1 (by decide) (by decide)
    rw [e741] at b742
    obtain ⟨w743, ew743⟩ : ∃ w : Int32, I736 (ad g 0) 4 = w := ⟨_, rfl⟩
    have bw743 := BT_get hI736.1.1 0 4 5 (0) (0) (900) (by decide) 4 (by decide) (by decide)
    rw [ew743] at bw743
    obtain ⟨w744, ew744⟩ : ∃ w : Int32, I736 (ad g 0) 2 = w := ⟨_, rfl⟩
    have bw744 := BT_get hI736.1.1 0 2 3 (0) (0) (900) (by decide) 2 (by decide) (by decide)
    rw [ew744] at bw744
    rw [ew743, ew744] at pI736
    obtain ⟨w745, ew745⟩ : ∃ w : Int32, I736 (ad g 0) 7 = w := ⟨_, rfl⟩
    have bw745 := BT_get hI736.1.1 0 7 8 (-1) (0) (1000) (by decide) 7 (by decide) (by decide)
    rw [ew745] at bw745
    exact WP_zret dX11_known_13 rfl (nar_z (by omega)) ⟨⟨hI736, rfl, ⟨(by rw [ew743, ew744]; omega), (by rw [e739, ew696] <;> exact (eq32 _ _).mpr (by omega)), (by rw [e740, ew697] <;> exact (eq32 _ _).mpr (by omega))⟩⟩, _, rfl, by omega, by omega, by (try rw [ew745]); omega⟩
set_option maxHeartbeats 4000000 in
set_option maxRecDepth 100000 in
theorem sm_known_3 {g : GG} {n : Int} {L : Int32} (hy : Ly g)  {I : pI} {J : pJ} {R : pR} (hr : Rf g R) (hI : MP g n L I) (ma : Int32) (ma_lo : 0 ≤ ma.toInt) (ma_hi : ma.toInt ≤ 3) (hb : (I (ad g 0) 4).toInt ≤ (I (ad g 0) 2).toInt) : SP g mX11_known [.ref (ad g 0), .ref (ad g 3), .int ma] I J R (fun r I' J' R' => (MP g n L I' ∧ R' = R ∧ (I' (ad g 0) 4).toInt ≤ (I' (ad g 0) 2).toInt ∧ I' (ad g 0) 15 = I (ad g 0) 15 ∧ I' (ad g 0) 16 = I (ad g 0) 16) ∧ ∃ v : Int32, r = some (.int v) ∧ 0 ≤ v.toInt ∧ v.toInt ≤ 1 ∧ (v.toInt = 1 → 0 ≤ (I' (ad g 0) 7).toInt ∧ (I' (ad g 0) 7).toInt ≤ 2)) := by
  refine SP_of ⟨by decide, rfl⟩ (Nat.le_of_ble_eq_true rfl) ?_
  have e746 : I (ad g 0) 1 = L := hI.1.2
  have b747 := BT_get hI.1.1 0 1 2 (0) (0) (900) (by decide) 1 (by decide) (by decide)
  rw [e746] at b747
  obtain ⟨w748, ew748⟩ : ∃ w : Int32, I (ad g 0) 15 = w := ⟨_, rfl⟩
  have bw748 := BT_get hI.1.1 0 15 16 (0) (0) (4) (by decide) 15 (by decide) (by decide)
  rw [ew748] at bw748
  obtain ⟨w749, ew749⟩ : ∃ w : Int32, I (ad g 0) 16 = w := ⟨_, rfl⟩
  have bw749 := BT_get hI.1.1 0 16 17 (0) (0) (3) (by decide) 16 (by decide) (by decide)
  rw [ew749] at bw749
  obtain ⟨w750, ew750⟩ : ∃ w : Int32, I (ad g 0) 4 = w := ⟨_, rfl⟩
  have bw750 := BT_get hI.1.1 0 4 5 (0) (0) (900) (by decide) 4 (by decide) (by decide)
  rw [ew750] at bw750
  obtain ⟨w751, ew751⟩ : ∃ w : Int32, I (ad g 0) 2 = w := ⟨_, rfl⟩
  have bw751 := BT_get hI.1.1 0 2 3 (0) (0) (900) (by decide) 2 (by decide) (by decide)
  rw [ew751] at bw751
  rw [ew750, ew751] at hb
  refine WP_aload_n dX11_known_0 rfl ?_
  refine WQ_geti dX11_known_1 fX11_27 rfl (ly_is hy 0 11 rfl) (BT_get hI.1.1 0 5 6 (0) (0) (4) (by decide) 5 (by decide) (by decide)) (fun v752 ev752 av752 bv752 => ?_)
  refine WQ_iconst (1) (1) dX11_known_4 rfl rfl (fun v753 hv753 => ?_)
  refine WQ_icmp_eq 14 dX11_known_5 rfl (fun c753 => ?_) (fun c753 => ?_)
  · refine WP_aload_n dX11_known_14 rfl ?_
    refine WP_aload_n dX11_known_15 rfl ?_
    refine WP_aload_n dX11_known_16 rfl ?_
    refine WP_iload_n dX11_known_17 rfl ?_
    refine WP_callV2 (k := 11) dX11_known_18 ⟨⟨⟨by decide, by decide⟩, zX11_find⟩, lX11_71, by decide, rfl, vX11_find.1, vX11_find.2⟩ (ly_is hy 0 11 rfl) (sm_find_3 hy hr hI ma (by omega) (by omega)) (Nat.le_of_ble_eq_true rfl) ?_
    intro r Ia Ja Ra hq
    obtain ⟨⟨ea, eb, ec⟩, v755, rfl, av755, bv755, cv755⟩ := hq
    show WP _ _ _ _ (.int _ :: _) _ _ _ _
    rw [ea, eb, ec]
    clear ea eb ec Ia Ja Ra
    refine WQ_puti dX11_known_21 fX11_56 rfl rfl (ly_is hy 0 11 rfl) (fun I756 eI756 => ?_)
    have hI756 : MP g n L I756 := by rw [eI756]; exact (mp_w hy hI (c := 0) (mi_f hy hI.1 (c := 0) (-1) (0) (1000) (by decide) (Or.inr (by decide)) (by decide) (by omega) (by omega)) (by decide) (by decide) (Or.inr (by decide)))
    have e757 : I756 (ad g 0) 1 = L := by rw [eI756, pp_ne _ _ (Or.inr (by decide))]; exact e746
    have e758 : I756 (ad g 0) 15 = w748 := by rw [eI756, pp_ne _ _ (Or.inr (by decide))]; exact ew748
    have e759 : I756 (ad g 0) 16 = w749 := by rw [eI756, pp_ne _ _ (Or.inr (by decide))]; exact ew749
    have e760 : I756 (ad g 0) 4 = w750 := by rw [eI756, pp_ne _ _ (Or.inr (by decide))]; exact ew750
    have e761 : I756 (ad g 0) 2 = w751 := by rw [eI756, pp_ne _ _ (Or.inr (by decide))]; exact ew751
    have e762 : I756 (ad g 0) 5 = v752 := by rw [eI756, pp_ne _ _ (Or.inr (by decide))]; exact ev752
    have e763 : I756 (ad g 0) 7 = v755 := by rw [eI756, pp_self]
    clear eI756
    refine WP_aload_n dX11_known_24 rfl ?_
    refine WQ_getim dX11_known_25 fX11_56 rfl (ly_is hy 0 11 rfl) e763 ?_
    refine WQ_iconst (-1) (-1) dX11_known_28 rfl rfl (fun v764 hv764 => ?_)
    refine WQ_icmp_ne 38 dX11_known_29 rfl (fun c764 => ?_) (fun c764 => ?_)
    · refine WP_aload_n dX11_known_38 rfl ?_
      refine WP_callV0 (k := 11) dX11_known_39 ⟨⟨⟨by decide, by decide⟩, zX11_scan⟩, lX11_63, by decide, rfl, vX11_scan.1, vX11_scan.2⟩ (ly_is hy 0 11 rfl) (sm_scan hy hr hI756   (by rw [e760, e761]; omega)) (Nat.le_of_ble_eq_true rfl) ?_
      intro r I766 J767 Ra hq
      obtain ⟨⟨hI766, ec, ⟨pI766, sI766_0_7, sI766_0_15, sI766_0_16⟩⟩, rfl⟩ := hq
      rw [ec]
      clear ec Ra
      have e768 : I766 (ad g 0) 7 = v755 := by rw [sI766_0_7]; exact e763
      have e769 : I766 (ad g 0) 15 = w748 := by rw [sI766_0_15]; exact e758
      have e770 : I766 (ad g 0) 16 = w749 := by rw [sI766_0_16]; exact e759
      have e771 : I766 (ad g 0) 1 = L := hI766.1.2
      have b772 := BT_get hI766.1.1 0 1 2 (0) (0) (900) (by decide) 1 (by decide) (by decide)
      rw [e771] at b772
      obtain ⟨w773, ew773⟩ : ∃ w : Int32, I766 (ad g 0) 4 = w := ⟨_, rfl⟩
      have bw773 := BT_get hI766.1.1 0 4 5 (0) (0) (900) (by decide) 4 (by decide) (by decide)
      rw [ew773] at bw773
      obtain ⟨w774, ew774⟩ : ∃ w : Int32, I766 (ad g 0) 2 = w := ⟨_, rfl⟩
      have bw774 := BT_get hI766.1.1 0 2 3 (0) (0) (900) (by decide) 2 (by decide) (by decide)
      rw [ew774] at bw774
      rw [ew773, ew774] at pI766
      refine WQ_iconst (1) (1) dX11_known_42 rfl rfl (fun v775 hv775 => ?_)
      exact WP_zret dX11_known_43 rfl (nar_z (by omega)) ⟨⟨hI766, rfl, ⟨(by rw [ew773, ew774]; omega), (by rw [e769, ew748] <;> exact (eq32 _ _).mpr (by omega)), (by rw [e770, ew749] <;> exact (eq32 _ _).mpr (by omega))⟩⟩, _, rfl, by omega, by omega, by (try rw [e768]); omega⟩
    · refine WP_aload_n dX11_known_32 rfl ?_
      refine WQ_iconst (5) (5) dX11_known_33 rfl rfl (fun v776 hv776 => ?_)
      refine WP_callV1 (k := 11) dX11_known_34 ⟨⟨⟨by decide, by decide⟩, zX11_bad⟩, lX11_49, by decide, rfl, vX11_bad.1, vX11_bad.2⟩ (ly_is hy 0 11 rfl) (sm_bad2 hy hr hI756 v776  (by rw [e760, e761]; omega)) (Nat.le_of_ble_eq_true rfl) ?_
      intro r I777 J778 Ra hq
      obtain ⟨⟨hI777, ec, ⟨pI777, sI777_0_15, sI777_0_16⟩⟩, v779, rfl, av779, bv779⟩ := hq
      show WP _ _ _ _ (.int _ :: _) _ _ _ _
      rw [ec]
      clear ec Ra
      have e780 : I777 (ad g 0) 15 = w748 := by rw [sI777_0_15]; exact e758
      have e781 : I777 (ad g 0) 16 = w749 := by rw [sI777_0_16]; exact e759
      have e782 : I777 (ad g 0) 1 = L := hI777.1.2
      have b783 := BT_get hI777.1.1 0 1 2 (0) (0) (900) (by decide) 1 (by decide) (by decide)
      rw [e782] at b783
      obtain ⟨w784, ew784⟩ : ∃ w : Int32, I777 (ad g 0) 4 = w := ⟨_, rfl⟩
      have bw784 := BT_get hI777.1.1 0 4 5 (0) (0) (900) (by decide) 4 (by decide) (by decide)
      rw [ew784] at bw784
      obtain ⟨w785, ew785⟩ : ∃ w : Int32, I777 (ad g 0) 2 = w := ⟨_, rfl⟩
      have bw785 := BT_get hI777.1.1 0 2 3 (0) (0) (900) (by decide) 2 (by decide) (by decide)
      rw [ew785] at bw785
      rw [ew784, ew785] at pI777
      obtain ⟨w786, ew786⟩ : ∃ w : Int32, I777 (ad g 0) 7 = w := ⟨_, rfl⟩
      have bw786 := BT_get hI777.1.1 0 7 8 (-1) (0) (1000) (by decide) 7 (by decide) (by decide)
      rw [ew786] at bw786
      exact WP_zret dX11_known_37 rfl (nar_z (by omega)) ⟨⟨hI777, rfl, ⟨(by rw [ew784, ew785]; omega), (by rw [e780, ew748] <;> exact (eq32 _ _).mpr (by omega)), (by rw [e781, ew749] <;> exact (eq32 _ _).mpr (by omega))⟩⟩, _, rfl, by omega, by omega, by (try rw [ew786]); omega⟩
  · refine WP_aload_n dX11_known_8 rfl ?_
    refine WQ_iconst (1) (1) dX11_known_9 rfl rfl (fun v787 hv787 => ?_)
    refine WP_callV1 (k := 11) dX11_known_10 ⟨⟨⟨by decide, by decide⟩, zX11_bad⟩, lX11_49, by decide, rfl, vX11_bad.1, vX11_bad.2⟩ (ly_is hy 0 11 rfl) (sm_bad2 hy hr hI v787  (by rw [ew750, ew751]; omega)) (Nat.le_of_ble_eq_true rfl) ?_
    intro r I788 J789 Ra hq
    obtain ⟨⟨hI788, ec, ⟨pI788, sI788_0_15, sI788_0_16⟩⟩, v790, rfl, av790, bv790⟩ := hq
    show WP _ _ _ _ (.int _ :: _) _ _ _ _
    rw [ec]
    clear ec Ra
    have e791 : I788 (ad g 0) 15 = w748 := by rw [sI788_0_15]; exact ew748
    have e792 : I788 (ad g 0) 16 = w749 := by rw [sI788_0_16]; exact ew749
    have e793 : I788 (ad g 0) 1 = L := hI788.1.2
    have b794 := BT_get hI788.1.1 0 1 2 (0) (0) (900) (by decide) 1 (by decide) (by decide)
    rw [e793] at b794
    obtain ⟨w795, ew795⟩ : ∃ w : Int32, I788 (ad g 0) 4 = w := ⟨_, rfl⟩
    have bw795 := BT_get hI788.1.1 0 4 5 (0) (0) (900) (by decide) 4 (by decide) (by decide)
    rw [ew795] at bw795
    obtain ⟨w796, ew796⟩ : ∃ w : Int32, I788 (ad g 0) 2 = w := ⟨_, rfl⟩
    have bw796 := BT_get hI788.1.1 0 2 3 (0) (0) (900) (by decide) 2 (by decide) (by decide)
    rw [ew796] at bw796
    rw [ew795, ew796] at pI788
    obtain ⟨w797, ew797⟩ : ∃ w : Int32, I788 (ad g 0) 7 = w := ⟨_, rfl⟩
    have bw797 := BT_get hI788.1.1 0 7 8 (-1) (0) (1000) (by decide) 7 (by decide) (by decide)
    rw [ew797] at bw797
    exact WP_zret dX11_known_13 rfl (nar_z (by omega)) ⟨⟨hI788, rfl, ⟨(by rw [ew795, ew796]; omega), (by rw [e791, ew748] <;> exact (eq32 _ _).mpr (by omega)), (by rw [e792, ew749] <;> exact (eq32 _ _).mpr (by omega))⟩⟩, _, rfl, by omega, by omega, by (try rw [ew797]); omega⟩
set_option maxHeartbeats 4000000 in
set_option maxRecDepth 100000 in
theorem sm_known_4 {g : GG} {n : Int} {L : Int32} (hy : Ly g)  {I : pI} {J : pJ} {R : pR} (hr : Rf g R) (hI : MP g n L I) (ma : Int32) (ma_lo : 0 ≤ ma.toInt) (ma_hi : ma.toInt ≤ 4) (hb : (I (ad g 0) 4).toInt ≤ (I (ad g 0) 2).toInt) : SP g mX11_known [.ref (ad g 0), .ref (ad g 4), .int ma] I J R (fun r I' J' R' => (MP g n L I' ∧ R' = R ∧ (I' (ad g 0) 4).toInt ≤ (I' (ad g 0) 2).toInt ∧ I' (ad g 0) 15 = I (ad g 0) 15 ∧ I' (ad g 0) 16 = I (ad g 0) 16) ∧ ∃ v : Int32, r = some (.int v) ∧ 0 ≤ v.toInt ∧ v.toInt ≤ 1 ∧ (v.toInt = 1 → 0 ≤ (I' (ad g 0) 7).toInt ∧ (I' (ad g 0) 7).toInt ≤ 3)) := by
  refine SP_of ⟨by decide, rfl⟩ (Nat.le_of_ble_eq_true rfl) ?_
  have e798 : I (ad g 0) 1 = L := hI.1.2
  have b799 := BT_get hI.1.1 0 1 2 (0) (0) (900) (by decide) 1 (by decide) (by decide)
  rw [e798] at b799
  obtain ⟨w800, ew800⟩ : ∃ w : Int32, I (ad g 0) 15 = w := ⟨_, rfl⟩
  have bw800 := BT_get hI.1.1 0 15 16 (0) (0) (4) (by decide) 15 (by decide) (by decide)
  rw [ew800] at bw800
  obtain ⟨w801, ew801⟩ : ∃ w : Int32, I (ad g 0) 16 = w := ⟨_, rfl⟩
  have bw801 := BT_get hI.1.1 0 16 17 (0) (0) (3) (by decide) 16 (by decide) (by decide)
  rw [ew801] at bw801
  obtain ⟨w802, ew802⟩ : ∃ w : Int32, I (ad g 0) 4 = w := ⟨_, rfl⟩
  have bw802 := BT_get hI.1.1 0 4 5 (0) (0) (900) (by decide) 4 (by decide) (by decide)
  rw [ew802] at bw802
  obtain ⟨w803, ew803⟩ : ∃ w : Int32, I (ad g 0) 2 = w := ⟨_, rfl⟩
  have bw803 := BT_get hI.1.1 0 2 3 (0) (0) (900) (by decide) 2 (by decide) (by decide)
  rw [ew803] at bw803
  rw [ew802, ew803] at hb
  refine WP_aload_n dX11_known_0 rfl ?_
  refine WQ_geti dX11_known_1 fX11_27 rfl (ly_is hy 0 11 rfl) (BT_get hI.1.1 0 5 6 (0) (0) (4) (by decide) 5 (by decide) (by decide)) (fun v804 ev804 av804 bv804 => ?_)
  refine WQ_iconst (1) (1) dX11_known_4 rfl rfl (fun v805 hv805 => ?_)
  refine WQ_icmp_eq 14 dX11_known_5 rfl (fun c805 => ?_) (fun c805 => ?_)
  · refine WP_aload_n dX11_known_14 rfl ?_
    refine WP_aload_n dX11_known_15 rfl ?_
    refine WP_aload_n dX11_known_16 rfl ?_
    refine WP_iload_n dX11_known_17 rfl ?_
    refine WP_callV2 (k := 11) dX11_known_18 ⟨⟨⟨by decide, by decide⟩, zX11_find⟩, lX11_71, by decide, rfl, vX11_find.1, vX11_find.2⟩ (ly_is hy 0 11 rfl) (sm_find_4 hy hr hI ma (by omega) (by omega)) (Nat.le_of_ble_eq_true rfl) ?_
    intro r Ia Ja Ra hq
    obtain ⟨⟨ea, eb, ec⟩, v807, rfl, av807, bv807, cv807⟩ := hq
    show WP _ _ _ _ (.int _ :: _) _ _ _ _
    rw [ea, eb, ec]
    clear ea eb ec Ia Ja Ra
    refine WQ_puti dX11_known_21 fX11_56 rfl rfl (ly_is hy 0 11 rfl) (fun I808 eI808 => ?_)
    have hI808 : MP g n L I808 := by rw [eI808]; exact (mp_w hy hI (c := 0) (mi_f hy hI.1 (c := 0) (-1) (0) (1000) (by decide) (Or.inr (by decide)) (by decide) (by omega) (by omega)) (by decide) (by decide) (Or.inr (by decide)))
    have e809 : I808 (ad g 0) 1 = L := by rw [eI808, pp_ne _ _ (Or.inr (by decide))]; exact e798
    have e810 : I808 (ad g 0) 15 = w800 := by rw [eI808, pp_ne _ _ (Or.inr (by decide))]; exact ew800
    have e811 : I808 (ad g 0) 16 = w801 := by rw [eI808, pp_ne _ _ (Or.inr (by decide))]; exact ew801
    have e812 : I808 (ad g 0) 4 = w802 := by rw [eI808, pp_ne _ _ (Or.inr (by decide))]; exact ew802
    have e813 : I808 (ad g 0) 2 = w803 := by rw [eI808, pp_ne _ _ (Or.inr (by decide))]; exact ew803
    have e814 : I808 (ad g 0) 5 = v804 := by rw [eI808, pp_ne _ _ (Or.inr (by decide))]; exact ev804
    have e815 : I808 (ad g 0) 7 = v807 := by rw [eI808, pp_self]
    clear eI808
    refine WP_aload_n dX11_known_24 rfl ?_
    refine WQ_getim dX11_known_25 fX11_56 rfl (ly_is hy 0 11 rfl) e815 ?_
    refine WQ_iconst (-1) (-1) dX11_known_28 rfl rfl (fun v816 hv816 => ?_)
    refine WQ_icmp_ne 38 dX11_known_29 rfl (fun c816 => ?_) (fun c816 => ?_)
    · refine WP_aload_n dX11_known_38 rfl ?_
      refine WP_callV0 (k := 11) dX11_known_39 ⟨⟨⟨by decide, by decide⟩, zX11_scan⟩, lX11_63, by decide, rfl, vX11_scan.1, vX11_scan.2⟩ (ly_is hy 0 11 rfl) (sm_scan hy hr hI808   (by rw [e812, e813]; omega)) (Nat.le_of_ble_eq_true rfl) ?_
      intro r I818 J819 Ra hq
      obtain ⟨⟨hI818, ec, ⟨pI818, sI818_0_7, sI818_0_15, sI818_0_16⟩⟩, rfl⟩ := hq
      rw [ec]
      clear ec Ra
      have e820 : I818 (ad g 0) 7 = v807 := by rw [sI818_0_7]; exact e815
      have e821 : I818 (ad g 0) 15 = w800 := by rw [sI818_0_15]; exact e810
      have e822 : I818 (ad g 0) 16 = w801 := by rw [sI818_0_16]; exact e811
      have e823 : I818 (ad g 0) 1 = L := hI818.1.2
      have b824 := BT_get hI818.1.1 0 1 2 (0) (0) (900) (by decide) 1 (by decide) (by decide)
      rw [e823] at b824
      obtain ⟨w825, ew825⟩ : ∃ w : Int32, I818 (ad g 0) 4 = w := ⟨_, rfl⟩
      have bw825 := BT_get hI818.1.1 0 4 5 (0) (0) (900) (by decide) 4 (by decide) (by decide)
      rw [ew825] at bw825
      obtain ⟨w826, ew826⟩ : ∃ w : Int32, I818 (ad g 0) 2 = w := ⟨_, rfl⟩
      have bw826 := BT_get hI818.1.1 0 2 3 (0) (0) (900) (by decide) 2 (by decide) (by decide)
      rw [ew826] at bw826
      rw [ew825, ew826] at pI818
      refine WQ_iconst (1) (1) dX11_known_42 rfl rfl (fun v827 hv827 => ?_)
      exact WP_zret dX11_known_43 rfl (nar_z (by omega)) ⟨⟨hI818, rfl, ⟨(by rw [ew825, ew826]; omega), (by rw [e821, ew800] <;> exact (eq32 _ _).mpr (by omega)), (by rw [e822, ew801] <;> exact (eq32 _ _).mpr (by omega))⟩⟩, _, rfl, by omega, by omega, by (try rw [e820]); omega⟩
    · refine WP_aload_n dX11_known_32 rfl ?_
      refine WQ_iconst (5) (5) dX11_known_33 rfl rfl (fun v828 hv828 => ?_)
      refine WP_callV1 (k := 11) dX11_known_34 ⟨⟨⟨by decide, by decide⟩, zX11_bad⟩, lX11_49, by decide, rfl, vX11_bad.1, vX11_bad.2⟩ (ly_is hy 0 11 rfl) (sm_bad2 hy hr hI808 v828  (by rw [e812, e813]; omega)) (Nat.le_of_ble_eq_true rfl) ?_
      intro r I829 J830 Ra hq
      obtain ⟨⟨hI829, ec, ⟨pI829, sI829_0_15, sI829_0_16⟩⟩, v831, rfl, av831, bv831⟩ := hq
      show WP _ _ _ _ (.int _ :: _) _ _ _ _
      rw [ec]
      clear ec Ra
      have e832 : I829 (ad g 0) 15 = w800 := by rw [sI829_0_15]; exact e810
      have e833 : I829 (ad g 0) 16 = w801 := by rw [sI829_0_16]; exact e811
      have e834 : I829 (ad g 0) 1 = L := hI829.1.2
      have b835 := BT_get hI829.1.1 0 1 2 (0) (0) (900) (by decide) 1 (by decide) (by decide)
      rw [e834] at b835
      obtain ⟨w836, ew836⟩ : ∃ w : Int32, I829 (ad g 0) 4 = w := ⟨_, rfl⟩
      have bw836 := BT_get hI829.1.1 0 4 5 (0) (0) (900) (by decide) 4 (by decide) (by decide)
      rw [ew836] at bw836
      obtain ⟨w837, ew837⟩ : ∃ w : Int32, I829 (ad g 0) 2 = w := ⟨_, rfl⟩
      have bw837 := BT_get hI829.1.1 0 2 3 (0) (0) (900) (by decide) 2 (by decide) (by decide)
      rw [ew837] at bw837
      rw [ew836, ew837] at pI829
      obtain ⟨w838, ew838⟩ : ∃ w : Int32, I829 (ad g 0) 7 = w := ⟨_, rfl⟩
      have bw838 := BT_get hI829.1.1 0 7 8 (-1) (0) (1000) (by decide) 7 (by decide) (by decide)
      rw [ew838] at bw838
      exact WP_zret dX11_known_37 rfl (nar_z (by omega)) ⟨⟨hI829, rfl, ⟨(by rw [ew836, ew837]; omega), (by rw [e832, ew800] <;> exact (eq32 _ _).mpr (by omega)), (by rw [e833, ew801] <;> exact (eq32 _ _).mpr (by omega))⟩⟩, _, rfl, by omega, by omega, by (try rw [ew838]); omega⟩
  · refine WP_aload_n dX11_known_8 rfl ?_
    refine WQ_iconst (1) (1) dX11_known_9 rfl rfl (fun v839 hv839 => ?_)
    refine WP_callV1 (k := 11) dX11_known_10 ⟨⟨⟨by decide, by decide⟩, zX11_bad⟩, lX11_49, by decide, rfl, vX11_bad.1, vX11_bad.2⟩ (ly_is hy 0 11 rfl) (sm_bad2 hy hr hI v839  (by rw [ew802, ew803]; omega)) (Nat.le_of_ble_eq_true rfl) ?_
    intro r I840 J841 Ra hq
    obtain ⟨⟨hI840, ec, ⟨pI840, sI840_0_15, sI840_0_16⟩⟩, v842, rfl, av842, bv842⟩ := hq
    show WP _ _ _ _ (.int _ :: _) _ _ _ _
    rw [ec]
    clear ec Ra
    have e843 : I840 (ad g 0) 15 = w800 := by rw [sI840_0_15]; exact ew800
    have e844 : I840 (ad g 0) 16 = w801 := by rw [sI840_0_16]; exact ew801
    have e845 : I840 (ad g 0) 1 = L := hI840.1.2
    have b846 := BT_get hI840.1.1 0 1 2 (0) (0) (900) (by decide) 1 (by decide) (by decide)
    rw [e845] at b846
    obtain ⟨w847, ew847⟩ : ∃ w : Int32, I840 (ad g 0) 4 = w := ⟨_, rfl⟩
    have bw847 := BT_get hI840.1.1 0 4 5 (0) (0) (900) (by decide) 4 (by decide) (by decide)
    rw [ew847] at bw847
    obtain ⟨w848, ew848⟩ : ∃ w : Int32, I840 (ad g 0) 2 = w := ⟨_, rfl⟩
    have bw848 := BT_get hI840.1.1 0 2 3 (0) (0) (900) (by decide) 2 (by decide) (by decide)
    rw [ew848] at bw848
    rw [ew847, ew848] at pI840
    obtain ⟨w849, ew849⟩ : ∃ w : Int32, I840 (ad g 0) 7 = w := ⟨_, rfl⟩
    have bw849 := BT_get hI840.1.1 0 7 8 (-1) (0) (1000) (by decide) 7 (by decide) (by decide)
    rw [ew849] at bw849
    exact WP_zret dX11_known_13 rfl (nar_z (by omega)) ⟨⟨hI840, rfl, ⟨(by rw [ew847, ew848]; omega), (by rw [e843, ew800] <;> exact (eq32 _ _).mpr (by omega)), (by rw [e844, ew801] <;> exact (eq32 _ _).mpr (by omega))⟩⟩, _, rfl, by omega, by omega, by (try rw [ew849]); omega⟩
set_option maxHeartbeats 4000000 in
set_option maxRecDepth 100000 in
theorem sm_known_5 {g : GG} {n : Int} {L : Int32} (hy : Ly g)  {I : pI} {J : pJ} {R : pR} (hr : Rf g R) (hI : MP g n L I) (ma : Int32) (ma_lo : 0 ≤ ma.toInt) (ma_hi : ma.toInt ≤ 3) (hb : (I (ad g 0) 4).toInt ≤ (I (ad g 0) 2).toInt) : SP g mX11_known [.ref (ad g 0), .ref (ad g 5), .int ma] I J R (fun r I' J' R' => (MP g n L I' ∧ R' = R ∧ (I' (ad g 0) 4).toInt ≤ (I' (ad g 0) 2).toInt ∧ I' (ad g 0) 15 = I (ad g 0) 15 ∧ I' (ad g 0) 16 = I (ad g 0) 16) ∧ ∃ v : Int32, r = some (.int v) ∧ 0 ≤ v.toInt ∧ v.toInt ≤ 1 ∧ (v.toInt = 1 → 0 ≤ (I' (ad g 0) 7).toInt ∧ (I' (ad g 0) 7).toInt ≤ 2)) := by
  refine SP_of ⟨by decide, rfl⟩ (Nat.le_of_ble_eq_true rfl) ?_
  have e850 : I (ad g 0) 1 = L := hI.1.2
  have b851 := BT_get hI.1.1 0 1 2 (0) (0) (900) (by decide) 1 (by decide) (by decide)
  rw [e850] at b851
  obtain ⟨w852, ew852⟩ : ∃ w : Int32, I (ad g 0) 15 = w := ⟨_, rfl⟩
  have bw852 := BT_get hI.1.1 0 15 16 (0) (0) (4) (by decide) 15 (by decide) (by decide)
  rw [ew852] at bw852
  obtain ⟨w853, ew853⟩ : ∃ w : Int32, I (ad g 0) 16 = w := ⟨_, rfl⟩
  have bw853 := BT_get hI.1.1 0 16 17 (0) (0) (3) (by decide) 16 (by decide) (by decide)
  rw [ew853] at bw853
  obtain ⟨w854, ew854⟩ : ∃ w : Int32, I (ad g 0) 4 = w := ⟨_, rfl⟩
  have bw854 := BT_get hI.1.1 0 4 5 (0) (0) (900) (by decide) 4 (by decide) (by decide)
  rw [ew854] at bw854
  obtain ⟨w855, ew855⟩ : ∃ w : Int32, I (ad g 0) 2 = w := ⟨_, rfl⟩
  have bw855 := BT_get hI.1.1 0 2 3 (0) (0) (900) (by decide) 2 (by decide) (by decide)
  rw [ew855] at bw855
  rw [ew854, ew855] at hb
  refine WP_aload_n dX11_known_0 rfl ?_
  refine WQ_geti dX11_known_1 fX11_27 rfl (ly_is hy 0 11 rfl) (BT_get hI.1.1 0 5 6 (0) (0) (4) (by decide) 5 (by decide) (by decide)) (fun v856 ev856 av856 bv856 => ?_)
  refine WQ_iconst (1) (1) dX11_known_4 rfl rfl (fun v857 hv857 => ?_)
  refine WQ_icmp_eq 14 dX11_known_5 rfl (fun c857 => ?_) (fun c857 => ?_)
  · refine WP_aload_n dX11_known_14 rfl ?_
    refine WP_aload_n dX11_known_15 rfl ?_
    refine WP_aload_n dX11_known_16 rfl ?_
    refine WP_iload_n dX11_known_17 rfl ?_
    refine WP_callV2 (k := 11) dX11_known_18 ⟨⟨⟨by decide, by decide⟩, zX11_find⟩, lX11_71, by decide, rfl, vX11_find.1, vX11_find.2⟩ (ly_is hy 0 11 rfl) (sm_find_5 hy hr hI ma (by omega) (by omega)) (Nat.le_of_ble_eq_true rfl) ?_
    intro r Ia Ja Ra hq
    obtain ⟨⟨ea, eb, ec⟩, v859, rfl, av859, bv859, cv859⟩ := hq
    show WP _ _ _ _ (.int _ :: _) _ _ _ _
    rw [ea, eb, ec]
    clear ea eb ec Ia Ja Ra
    refine WQ_puti dX11_known_21 fX11_56 rfl rfl (ly_is hy 0 11 rfl) (fun I860 eI860 => ?_)
    have hI860 : MP g n L I860 := by rw [eI860]; exact (mp_w hy hI (c := 0) (mi_f hy hI.1 (c := 0) (-1) (0) (1000) (by decide) (Or.inr (by decide)) (by decide) (by omega) (by omega)) (by decide) (by decide) (Or.inr (by decide)))
    have e861 : I860 (ad g 0) 1 = L := by rw [eI860, pp_ne _ _ (Or.inr (by decide))]; exact e850
    have e862 : I860 (ad g 0) 15 = w852 := by rw [eI860, pp_ne _ _ (Or.inr (by decide))]; exact ew852
    have e863 : I860 (ad g 0) 16 = w853 := by rw [eI860, pp_ne _ _ (Or.inr (by decide))]; exact ew853
    have e864 : I860 (ad g 0) 4 = w854 := by rw [eI860, pp_ne _ _ (Or.inr (by decide))]; exact ew854
    have e865 : I860 (ad g 0) 2 = w855 := by rw [eI860, pp_ne _ _ (Or.inr (by decide))]; exact ew855
    have e866 : I860 (ad g 0) 5 = v856 := by rw [eI860, pp_ne _ _ (Or.inr (by decide))]; exact ev856
    have e867 : I860 (ad g 0) 7 = v859 := by rw [eI860, pp_self]
    clear eI860
    refine WP_aload_n dX11_known_24 rfl ?_
    refine WQ_getim dX11_known_25 fX11_56 rfl (ly_is hy 0 11 rfl) e867 ?_
    refine WQ_iconst (-1) (-1) dX11_known_28 rfl rfl (fun v868 hv868 => ?_)
    refine WQ_icmp_ne 38 dX11_known_29 rfl (fun c868 => ?_) (fun c868 => ?_)
    · refine WP_aload_n dX11_known_38 rfl ?_
      refine WP_callV0 (k := 11) dX11_known_39 ⟨⟨⟨by decide, by decide⟩, zX11_scan⟩, lX11_63, by decide, rfl, vX11_scan.1, vX11_scan.2⟩ (ly_is hy 0 11 rfl) (sm_scan hy hr hI860   (by rw [e864, e865]; omega)) (Nat.le_of_ble_eq_true rfl) ?_
      intro r I870 J871 Ra hq
      obtain ⟨⟨hI870, ec, ⟨pI870, sI870_0_7, sI870_0_15, sI870_0_16⟩⟩, rfl⟩ := hq
      rw [ec]
      clear ec Ra
      have e872 : I870 (ad g 0) 7 = v859 := by rw [sI870_0_7]; exact e867
      have e873 : I870 (ad g 0) 15 = w852 := by rw [sI870_0_15]; exact e862
      have e874 : I870 (ad g 0) 16 = w853 := by rw [sI870_0_16]; exact e863
      have e875 : I870 (ad g 0) 1 = L := hI870.1.2
      have b876 := BT_get hI870.1.1 0 1 2 (0) (0) (900) (by decide) 1 (by decide) (by decide)
      rw [e875] at b876
      obtain ⟨w877, ew877⟩ : ∃ w : Int32, I870 (ad g 0) 4 = w := ⟨_, rfl⟩
      have bw877 := BT_get hI870.1.1 0 4 5 (0) (0) (900) (by decide) 4 (by decide) (by decide)
      rw [ew877] at bw877
      obtain ⟨w878, ew878⟩ : ∃ w : Int32, I870 (ad g 0) 2 = w := ⟨_, rfl⟩
      have bw878 := BT_get hI870.1.1 0 2 3 (0) (0) (900) (by decide) 2 (by decide) (by decide)
      rw [ew878] at bw878
      rw [ew877, ew878] at pI870
      refine WQ_iconst (1) (1) dX11_known_42 rfl rfl (fun v879 hv879 => ?_)
      exact WP_zret dX11_known_43 rfl (nar_z (by omega)) ⟨⟨hI870, rfl, ⟨(by rw [ew877, ew878]; omega), (by rw [e873, ew852] <;> exact (eq32 _ _).mpr (by omega)), (by rw [e874, ew853] <;> exact (eq32 _ _).mpr (by omega))⟩⟩, _, rfl, by omega, by omega, by (try rw [e872]); omega⟩
    · refine WP_aload_n dX11_known_32 rfl ?_
      refine WQ_iconst (5) (5) dX11_known_33 rfl rfl (fun v880 hv880 => ?_)
      refine WP_callV1 (k := 11) dX11_known_34 ⟨⟨⟨by decide, by decide⟩, zX11_bad⟩, lX11_49, by decide, rfl, vX11_bad.1, vX11_bad.2⟩ (ly_is hy 0 11 rfl) (sm_bad2 hy hr hI860 v880  (by rw [e864, e865]; omega)) (Nat.le_of_ble_eq_true rfl) ?_
      intro r I881 J882 Ra hq
      obtain ⟨⟨hI881, ec, ⟨pI881, sI881_0_15, sI881_0_16⟩⟩, v883, rfl, av883, bv883⟩ := hq
      show WP _ _ _ _ (.int _ :: _) _ _ _ _
      rw [ec]
      clear ec Ra
      have e884 : I881 (ad g 0) 15 = w852 := by rw [sI881_0_15]; exact e862
      have e885 : I881 (ad g 0) 16 = w853 := by rw [sI881_0_16]; exact e863
      have e886 : I881 (ad g 0) 1 = L := hI881.1.2
      have b887 := BT_get hI881.1.1 0 1 2 (0) (0) (900) (by decide) 1 (by decide) (by decide)
      rw [e886] at b887
      obtain ⟨w888, ew888⟩ : ∃ w : Int32, I881 (ad g 0) 4 = w := ⟨_, rfl⟩
      have bw888 := BT_get hI881.1.1 0 4 5 (0) (0) (900) (by decide) 4 (by decide) (by decide)
      rw [ew888] at bw888
      obtain ⟨w889, ew889⟩ : ∃ w : Int32, I881 (ad g 0) 2 = w := ⟨_, rfl⟩
      have bw889 := BT_get hI881.1.1 0 2 3 (0) (0) (900) (by decide) 2 (by decide) (by decide)
      rw [ew889] at bw889
      rw [ew888, ew889] at pI881
      obtain ⟨w890, ew890⟩ : ∃ w : Int32, I881 (ad g 0) 7 = w := ⟨_, rfl⟩
      have bw890 := BT_get hI881.1.1 0 7 8 (-1) (0) (1000) (by decide) 7 (by decide) (by decide)
      rw [ew890] at bw890
      exact WP_zret dX11_known_37 rfl (nar_z (by omega)) ⟨⟨hI881, rfl, ⟨(by rw [ew888, ew889]; omega), (by rw [e884, ew852] <;> exact (eq32 _ _).mpr (by omega)), (by rw [e885, ew853] <;> exact (eq32 _ _).mpr (by omega))⟩⟩, _, rfl, by omega, by omega, by (try rw [ew890]); omega⟩
  · refine WP_aload_n dX11_known_8 rfl ?_
    refine WQ_iconst (1) (1) dX11_known_9 rfl rfl (fun v891 hv891 => ?_)
    refine WP_callV1 (k := 11) dX11_known_10 ⟨⟨⟨by decide, by decide⟩, zX11_bad⟩, lX11_49, by decide, rfl, vX11_bad.1, vX11_bad.2⟩ (ly_is hy 0 11 rfl) (sm_bad2 hy hr hI v891  (by rw [ew854, ew855]; omega)) (Nat.le_of_ble_eq_true rfl) ?_
    intro r I892 J893 Ra hq
    obtain ⟨⟨hI892, ec, ⟨pI892, sI892_0_15, sI892_0_16⟩⟩, v894, rfl, av894, bv894⟩ := hq
    show WP _ _ _ _ (.int _ :: _) _ _ _ _
    rw [ec]
    clear ec Ra
    have e895 : I892 (ad g 0) 15 = w852 := by rw [sI892_0_15]; exact ew852
    have e896 : I892 (ad g 0) 16 = w853 := by rw [sI892_0_16]; exact ew853
    have e897 : I892 (ad g 0) 1 = L := hI892.1.2
    have b898 := BT_get hI892.1.1 0 1 2 (0) (0) (900) (by decide) 1 (by decide) (by decide)
    rw [e897] at b898
    obtain ⟨w899, ew899⟩ : ∃ w : Int32, I892 (ad g 0) 4 = w := ⟨_, rfl⟩
    have bw899 := BT_get hI892.1.1 0 4 5 (0) (0) (900) (by decide) 4 (by decide) (by decide)
    rw [ew899] at bw899
    obtain ⟨w900, ew900⟩ : ∃ w : Int32, I892 (ad g 0) 2 = w := ⟨_, rfl⟩
    have bw900 := BT_get hI892.1.1 0 2 3 (0) (0) (900) (by decide) 2 (by decide) (by decide)
    rw [ew900] at bw900
    rw [ew899, ew900] at pI892
    obtain ⟨w901, ew901⟩ : ∃ w : Int32, I892 (ad g 0) 7 = w := ⟨_, rfl⟩
    have bw901 := BT_get hI892.1.1 0 7 8 (-1) (0) (1000) (by decide) 7 (by decide) (by decide)
    rw [ew901] at bw901
    exact WP_zret dX11_known_13 rfl (nar_z (by omega)) ⟨⟨hI892, rfl, ⟨(by rw [ew899, ew900]; omega), (by rw [e895, ew852] <;> exact (eq32 _ _).mpr (by omega)), (by rw [e896, ew853] <;> exact (eq32 _ _).mpr (by omega))⟩⟩, _, rfl, by omega, by omega, by (try rw [ew901]); omega⟩
set_option maxHeartbeats 4000000 in
set_option maxRecDepth 100000 in
theorem sm_fresh_4 {g : GG} {n : Int} {L : Int32} (hy : Ly g)  {I : pI} {J : pJ} {R : pR} (hr : Rf g R) (hI : MP g n L I) (ma : Int32) (ma_lo : 0 ≤ ma.toInt) (ma_hi : ma.toInt ≤ 3) (hb : (I (ad g 0) 4).toInt ≤ (I (ad g 0) 2).toInt) : SP g mX11_fresh [.ref (ad g 0), .ref (ad g 4), .int ma] I J R (fun r I' J' R' => (MP g n L I' ∧ R' = R ∧ (I' (ad g 0) 4).toInt ≤ (I' (ad g 0) 2).toInt ∧ I' (ad g 0) 15 = I (ad g 0) 15 ∧ I' (ad g 0) 16 = I (ad g 0) 16) ∧ ∃ v : Int32, r = some (.int v) ∧ 0 ≤ v.toInt ∧ v.toInt ≤ 1) := by
  refine SP_of ⟨by decide, rfl⟩ (Nat.le_of_ble_eq_true rfl) ?_
  have e902 : I (ad g 0) 1 = L := hI.1.2
  have b903 := BT_get hI.1.1 0 1 2 (0) (0) (900) (by decide) 1 (by decide) (by decide)
  rw [e902] at b903
  obtain ⟨w904, ew904⟩ : ∃ w : Int32, I (ad g 0) 15 = w := ⟨_, rfl⟩
  have bw904 := BT_get hI.1.1 0 15 16 (0) (0) (4) (by decide) 15 (by decide) (by decide)
  rw [ew904] at bw904
  obtain ⟨w905, ew905⟩ : ∃ w : Int32, I (ad g 0) 16 = w := ⟨_, rfl⟩
  have bw905 := BT_get hI.1.1 0 16 17 (0) (0) (3) (by decide) 16 (by decide) (by decide)
  rw [ew905] at bw905
  obtain ⟨w906, ew906⟩ : ∃ w : Int32, I (ad g 0) 4 = w := ⟨_, rfl⟩
  have bw906 := BT_get hI.1.1 0 4 5 (0) (0) (900) (by decide) 4 (by decide) (by decide)
  rw [ew906] at bw906
  obtain ⟨w907, ew907⟩ : ∃ w : Int32, I (ad g 0) 2 = w := ⟨_, rfl⟩
  have bw907 := BT_get hI.1.1 0 2 3 (0) (0) (900) (by decide) 2 (by decide) (by decide)
  rw [ew907] at bw907
  rw [ew906, ew907] at hb
  refine WP_aload_n dX11_fresh_0 rfl ?_
  refine WQ_geti dX11_fresh_1 fX11_27 rfl (ly_is hy 0 11 rfl) (BT_get hI.1.1 0 5 6 (0) (0) (4) (by decide) 5 (by decide) (by decide)) (fun v908 ev908 av908 bv908 => ?_)
  refine WQ_iconst (1) (1) dX11_fresh_4 rfl rfl (fun v909 hv909 => ?_)
  refine WQ_icmp_eq 14 dX11_fresh_5 rfl (fun c909 => ?_) (fun c909 => ?_)
  · refine WP_aload_n dX11_fresh_14 rfl ?_
    refine WP_aload_n dX11_fresh_15 rfl ?_
    refine WP_iload_n dX11_fresh_16 rfl ?_
    refine WP_callV2 (k := 11) dX11_fresh_17 ⟨⟨⟨by decide, by decide⟩, zX11_find⟩, lX11_71, by decide, rfl, vX11_find.1, vX11_find.2⟩ (ly_is hy 0 11 rfl) (sm_find_4 hy hr hI ma (by omega) (by omega)) (Nat.le_of_ble_eq_true rfl) ?_
    intro r Ia Ja Ra hq
    obtain ⟨⟨ea, eb, ec⟩, v911, rfl, av911, bv911, cv911⟩ := hq
    show WP _ _ _ _ (.int _ :: _) _ _ _ _
    rw [ea, eb, ec]
    clear ea eb ec Ia Ja Ra
    refine WQ_iconst (-1) (-1) dX11_fresh_20 rfl rfl (fun v912 hv912 => ?_)
    refine WQ_icmp_eq 30 dX11_fresh_21 rfl (fun c912 => ?_) (fun c912 => ?_)
    · refine WP_aload_n dX11_fresh_30 rfl ?_
      refine WP_iload_n dX11_fresh_31 rfl ?_
      refine WP_aload_n dX11_fresh_32 rfl ?_
      refine WP_callV0 (k := 11) dX11_fresh_33 ⟨⟨⟨by decide, by decide⟩, zX11_name⟩, lX11_67, by decide, rfl, vX11_name.1, vX11_name.2⟩ (ly_is hy 0 11 rfl) (sm_name hy hr hI  ) (Nat.le_of_ble_eq_true rfl) ?_
      intro r Ia Ja Ra hq
      obtain ⟨⟨ea, eb, ec⟩, l914, rfl⟩ := hq
      show WP _ _ _ _ (.long _ :: _) _ _ _ _
      rw [ea, eb, ec]
      clear ea eb ec Ia Ja Ra
      refine WQ_last dX11_fresh_36 (ly_is hy 4 14 rfl) (ly_n hy 4 4 rfl) (by omega) (by omega) (fun J915 eJ915 => ?_)
      clear eJ915
      refine WP_aload_n dX11_fresh_37 rfl ?_
      refine WP_callV0 (k := 11) dX11_fresh_38 ⟨⟨⟨by decide, by decide⟩, zX11_scan⟩, lX11_63, by decide, rfl, vX11_scan.1, vX11_scan.2⟩ (ly_is hy 0 11 rfl) (sm_scan hy hr hI   (by rw [ew906, ew907]; omega)) (Nat.le_of_ble_eq_true rfl) ?_
      intro r I916 J917 Ra hq
      obtain ⟨⟨hI916, ec, ⟨pI916, sI916_0_7, sI916_0_15, sI916_0_16⟩⟩, rfl⟩ := hq
      rw [ec]
      clear ec Ra
      have e918 : I916 (ad g 0) 15 = w904 := by rw [sI916_0_15]; exact ew904
      have e919 : I916 (ad g 0) 16 = w905 := by rw [sI916_0_16]; exact ew905
      have e920 : I916 (ad g 0) 1 = L := hI916.1.2
      have b921 := BT_get hI916.1.1 0 1 2 (0) (0) (900) (by decide) 1 (by decide) (by decide)
      rw [e920] at b921
      obtain ⟨w922, ew922⟩ : ∃ w : Int32, I916 (ad g 0) 4 = w := ⟨_, rfl⟩
      have bw922 := BT_get hI916.1.1 0 4 5 (0) (0) (900) (by decide) 4 (by decide) (by decide)
      rw [ew922] at bw922
      obtain ⟨w923, ew923⟩ : ∃ w : Int32, I916 (ad g 0) 2 = w := ⟨_, rfl⟩
      have bw923 := BT_get hI916.1.1 0 2 3 (0) (0) (900) (by decide) 2 (by decide) (by decide)
      rw [ew923] at bw923
      rw [ew922, ew923] at pI916
      refine WQ_iconst (1) (1) dX11_fresh_41 rfl rfl (fun v924 hv924 => ?_)
      exact WP_zret dX11_fresh_42 rfl (nar_z (by omega)) ⟨⟨hI916, rfl, ⟨(by rw [ew922, ew923]; omega), (by rw [e918, ew904] <;> exact (eq32 _ _).mpr (by omega)), (by rw [e919, ew905] <;> exact (eq32 _ _).mpr (by omega))⟩⟩, _, rfl, by omega, by omega⟩
    · refine WP_aload_n dX11_fresh_24 rfl ?_
      refine WQ_iconst (3) (3) dX11_fresh_25 rfl rfl (fun v925 hv925 => ?_)
      refine WP_callV1 (k := 11) dX11_fresh_26 ⟨⟨⟨by decide, by decide⟩, zX11_bad⟩, lX11_49, by decide, rfl, vX11_bad.1, vX11_bad.2⟩ (ly_is hy 0 11 rfl) (sm_bad2 hy hr hI v925  (by rw [ew906, ew907]; omega)) (Nat.le_of_ble_eq_true rfl) ?_
      intro r I926 J927 Ra hq
      obtain ⟨⟨hI926, ec, ⟨pI926, sI926_0_15, sI926_0_16⟩⟩, v928, rfl, av928, bv928⟩ := hq
      show WP _ _ _ _ (.int _ :: _) _ _ _ _
      rw [ec]
      clear ec Ra
      have e929 : I926 (ad g 0) 15 = w904 := by rw [sI926_0_15]; exact ew904
      have e930 : I926 (ad g 0) 16 = w905 := by rw [sI926_0_16]; exact ew905
      have e931 : I926 (ad g 0) 1 = L := hI926.1.2
      have b932 := BT_get hI926.1.1 0 1 2 (0) (0) (900) (by decide) 1 (by decide) (by decide)
      rw [e931] at b932
      obtain ⟨w933, ew933⟩ : ∃ w : Int32, I926 (ad g 0) 4 = w := ⟨_, rfl⟩
      have bw933 := BT_get hI926.1.1 0 4 5 (0) (0) (900) (by decide) 4 (by decide) (by decide)
      rw [ew933] at bw933
      obtain ⟨w934, ew934⟩ : ∃ w : Int32, I926 (ad g 0) 2 = w := ⟨_, rfl⟩
      have bw934 := BT_get hI926.1.1 0 2 3 (0) (0) (900) (by decide) 2 (by decide) (by decide)
      rw [ew934] at bw934
      rw [ew933, ew934] at pI926
      exact WP_zret dX11_fresh_29 rfl (nar_z (by omega)) ⟨⟨hI926, rfl, ⟨(by rw [ew933, ew934]; omega), (by rw [e929, ew904] <;> exact (eq32 _ _).mpr (by omega)), (by rw [e930, ew905] <;> exact (eq32 _ _).mpr (by omega))⟩⟩, _, rfl, by omega, by omega⟩
  · refine WP_aload_n dX11_fresh_8 rfl ?_
    refine WQ_iconst (1) (1) dX11_fresh_9 rfl rfl (fun v935 hv935 => ?_)
    refine WP_callV1 (k := 11) dX11_fresh_10 ⟨⟨⟨by decide, by decide⟩, zX11_bad⟩, lX11_49, by decide, rfl, vX11_bad.1, vX11_bad.2⟩ (ly_is hy 0 11 rfl) (sm_bad2 hy hr hI v935  (by rw [ew906, ew907]; omega)) (Nat.le_of_ble_eq_true rfl) ?_
    intro r I936 J937 Ra hq
    obtain ⟨⟨hI936, ec, ⟨pI936, sI936_0_15, sI936_0_16⟩⟩, v938, rfl, av938, bv938⟩ := hq
    show WP _ _ _ _ (.int _ :: _) _ _ _ _
    rw [ec]
    clear ec Ra
    have e939 : I936 (ad g 0) 15 = w904 := by rw [sI936_0_15]; exact ew904
    have e940 : I936 (ad g 0) 16 = w905 := by rw [sI936_0_16]; exact ew905
    have e941 : I936 (ad g 0) 1 = L := hI936.1.2
    have b942 := BT_get hI936.1.1 0 1 2 (0) (0) (900) (by decide) 1 (by decide) (by decide)
    rw [e941] at b942
    obtain ⟨w943, ew943⟩ : ∃ w : Int32, I936 (ad g 0) 4 = w := ⟨_, rfl⟩
    have bw943 := BT_get hI936.1.1 0 4 5 (0) (0) (900) (by decide) 4 (by decide) (by decide)
    rw [ew943] at bw943
    obtain ⟨w944, ew944⟩ : ∃ w : Int32, I936 (ad g 0) 2 = w := ⟨_, rfl⟩
    have bw944 := BT_get hI936.1.1 0 2 3 (0) (0) (900) (by decide) 2 (by decide) (by decide)
    rw [ew944] at bw944
    rw [ew943, ew944] at pI936
    exact WP_zret dX11_fresh_13 rfl (nar_z (by omega)) ⟨⟨hI936, rfl, ⟨(by rw [ew943, ew944]; omega), (by rw [e939, ew904] <;> exact (eq32 _ _).mpr (by omega)), (by rw [e940, ew905] <;> exact (eq32 _ _).mpr (by omega))⟩⟩, _, rfl, by omega, by omega⟩
set_option maxHeartbeats 4000000 in
set_option maxRecDepth 100000 in
theorem sm_fresh_5 {g : GG} {n : Int} {L : Int32} (hy : Ly g)  {I : pI} {J : pJ} {R : pR} (hr : Rf g R) (hI : MP g n L I) (ma : Int32) (ma_lo : 0 ≤ ma.toInt) (ma_hi : ma.toInt ≤ 2) (hb : (I (ad g 0) 4).toInt ≤ (I (ad g 0) 2).toInt) : SP g mX11_fresh [.ref (ad g 0), .ref (ad g 5), .int ma] I J R (fun r I' J' R' => (MP g n L I' ∧ R' = R ∧ (I' (ad g 0) 4).toInt ≤ (I' (ad g 0) 2).toInt ∧ I' (ad g 0) 15 = I (ad g 0) 15 ∧ I' (ad g 0) 16 = I (ad g 0) 16) ∧ ∃ v : Int32, r = some (.int v) ∧ 0 ≤ v.toInt ∧ v.toInt ≤ 1) := by
  refine SP_of ⟨by decide, rfl⟩ (Nat.le_of_ble_eq_true rfl) ?_
  have e945 : I (ad g 0) 1 = L := hI.1.2
  have b946 := BT_get hI.1.1 0 1 2 (0) (0) (900) (by decide) 1 (by decide) (by decide)
  rw [e945] at b946
  obtain ⟨w947, ew947⟩ : ∃ w : Int32, I (ad g 0) 15 = w := ⟨_, rfl⟩
  have bw947 := BT_get hI.1.1 0 15 16 (0) (0) (4) (by decide) 15 (by decide) (by decide)
  rw [ew947] at bw947
  obtain ⟨w948, ew948⟩ : ∃ w : Int32, I (ad g 0) 16 = w := ⟨_, rfl⟩
  have bw948 := BT_get hI.1.1 0 16 17 (0) (0) (3) (by decide) 16 (by decide) (by decide)
  rw [ew948] at bw948
  obtain ⟨w949, ew949⟩ : ∃ w : Int32, I (ad g 0) 4 = w := ⟨_, rfl⟩
  have bw949 := BT_get hI.1.1 0 4 5 (0) (0) (900) (by decide) 4 (by decide) (by decide)
  rw [ew949] at bw949
  obtain ⟨w950, ew950⟩ : ∃ w : Int32, I (ad g 0) 2 = w := ⟨_, rfl⟩
  have bw950 := BT_get hI.1.1 0 2 3 (0) (0) (900) (by decide) 2 (by decide) (by decide)
  rw [ew950] at bw950
  rw [ew949, ew950] at hb
  refine WP_aload_n dX11_fresh_0 rfl ?_
  refine WQ_geti dX11_fresh_1 fX11_27 rfl (ly_is hy 0 11 rfl) (BT_get hI.1.1 0 5 6 (0) (0) (4) (by decide) 5 (by decide) (by decide)) (fun v951 ev951 av951 bv951 => ?_)
  refine WQ_iconst (1) (1) dX11_fresh_4 rfl rfl (fun v952 hv952 => ?_)
  refine WQ_icmp_eq 14 dX11_fresh_5 rfl (fun c952 => ?_) (fun c952 => ?_)
  · refine WP_aload_n dX11_fresh_14 rfl ?_
    refine WP_aload_n dX11_fresh_15 rfl ?_
    refine WP_iload_n dX11_fresh_16 rfl ?_
    refine WP_callV2 (k := 11) dX11_fresh_17 ⟨⟨⟨by decide, by decide⟩, zX11_find⟩, lX11_71, by decide, rfl, vX11_find.1, vX11_find.2⟩ (ly_is hy 0 11 rfl) (sm_find_5 hy hr hI ma (by omega) (by omega)) (Nat.le_of_ble_eq_true rfl) ?_
    intro r Ia Ja Ra hq
    obtain ⟨⟨ea, eb, ec⟩, v954, rfl, av954, bv954, cv954⟩ := hq
    show WP _ _ _ _ (.int _ :: _) _ _ _ _
    rw [ea, eb, ec]
    clear ea eb ec Ia Ja Ra
    refine WQ_iconst (-1) (-1) dX11_fresh_20 rfl rfl (fun v955 hv955 => ?_)
    refine WQ_icmp_eq 30 dX11_fresh_21 rfl (fun c955 => ?_) (fun c955 => ?_)
    · refine WP_aload_n dX11_fresh_30 rfl ?_
      refine WP_iload_n dX11_fresh_31 rfl ?_
      refine WP_aload_n dX11_fresh_32 rfl ?_
      refine WP_callV0 (k := 11) dX11_fresh_33 ⟨⟨⟨by decide, by decide⟩, zX11_name⟩, lX11_67, by decide, rfl, vX11_name.1, vX11_name.2⟩ (ly_is hy 0 11 rfl) (sm_name hy hr hI  ) (Nat.le_of_ble_eq_true rfl) ?_
      intro r Ia Ja Ra hq
      obtain ⟨⟨ea, eb, ec⟩, l957, rfl⟩ := hq
      show WP _ _ _ _ (.long _ :: _) _ _ _ _
      rw [ea, eb, ec]
      clear ea eb ec Ia Ja Ra
      refine WQ_last dX11_fresh_36 (ly_is hy 5 14 rfl) (ly_n hy 5 3 rfl) (by omega) (by omega) (fun J958 eJ958 => ?_)
      clear eJ958
      refine WP_aload_n dX11_fresh_37 rfl ?_
      refine WP_callV0 (k := 11) dX11_fresh_38 ⟨⟨⟨by decide, by decide⟩, zX11_scan⟩, lX11_63, by decide, rfl, vX11_scan.1, vX11_scan.2⟩ (ly_is hy 0 11 rfl) (sm_scan hy hr hI   (by rw [ew949, ew950]; omega)) (Nat.le_of_ble_eq_true rfl) ?_
      intro r I959 J960 Ra hq
      obtain ⟨⟨hI959, ec, ⟨pI959, sI959_0_7, sI959_0_15, sI959_0_16⟩⟩, rfl⟩ := hq
      rw [ec]
      clear ec Ra
      have e961 : I959 (ad g 0) 15 = w947 := by rw [sI959_0_15]; exact ew947
      have e962 : I959 (ad g 0) 16 = w948 := by rw [sI959_0_16]; exact ew948
      have e963 : I959 (ad g 0) 1 = L := hI959.1.2
      have b964 := BT_get hI959.1.1 0 1 2 (0) (0) (900) (by decide) 1 (by decide) (by decide)
      rw [e963] at b964
      obtain ⟨w965, ew965⟩ : ∃ w : Int32, I959 (ad g 0) 4 = w := ⟨_, rfl⟩
      have bw965 := BT_get hI959.1.1 0 4 5 (0) (0) (900) (by decide) 4 (by decide) (by decide)
      rw [ew965] at bw965
      obtain ⟨w966, ew966⟩ : ∃ w : Int32, I959 (ad g 0) 2 = w := ⟨_, rfl⟩
      have bw966 := BT_get hI959.1.1 0 2 3 (0) (0) (900) (by decide) 2 (by decide) (by decide)
      rw [ew966] at bw966
      rw [ew965, ew966] at pI959
      refine WQ_iconst (1) (1) dX11_fresh_41 rfl rfl (fun v967 hv967 => ?_)
      exact WP_zret dX11_fresh_42 rfl (nar_z (by omega)) ⟨⟨hI959, rfl, ⟨(by rw [ew965, ew966]; omega), (by rw [e961, ew947] <;> exact (eq32 _ _).mpr (by omega)), (by rw [e962, ew948] <;> exact (eq32 _ _).mpr (by omega))⟩⟩, _, rfl, by omega, by omega⟩
    · refine WP_aload_n dX11_fresh_24 rfl ?_
      refine WQ_iconst (3) (3) dX11_fresh_25 rfl rfl (fun v968 hv968 => ?_)
      refine WP_callV1 (k := 11) dX11_fresh_26 ⟨⟨⟨by decide, by decide⟩, zX11_bad⟩, lX11_49, by decide, rfl, vX11_bad.1, vX11_bad.2⟩ (ly_is hy 0 11 rfl) (sm_bad2 hy hr hI v968  (by rw [ew949, ew950]; omega)) (Nat.le_of_ble_eq_true rfl) ?_
      intro r I969 J970 Ra hq
      obtain ⟨⟨hI969, ec, ⟨pI969, sI969_0_15, sI969_0_16⟩⟩, v971, rfl, av971, bv971⟩ := hq
      show WP _ _ _ _ (.int _ :: _) _ _ _ _
      rw [ec]
      clear ec Ra
      have e972 : I969 (ad g 0) 15 = w947 := by rw [sI969_0_15]; exact ew947
      have e973 : I969 (ad g 0) 16 = w948 := by rw [sI969_0_16]; exact ew948
      have e974 : I969 (ad g 0) 1 = L := hI969.1.2
      have b975 := BT_get hI969.1.1 0 1 2 (0) (0) (900) (by decide) 1 (by decide) (by decide)
      rw [e974] at b975
      obtain ⟨w976, ew976⟩ : ∃ w : Int32, I969 (ad g 0) 4 = w := ⟨_, rfl⟩
      have bw976 := BT_get hI969.1.1 0 4 5 (0) (0) (900) (by decide) 4 (by decide) (by decide)
      rw [ew976] at bw976
      obtain ⟨w977, ew977⟩ : ∃ w : Int32, I969 (ad g 0) 2 = w := ⟨_, rfl⟩
      have bw977 := BT_get hI969.1.1 0 2 3 (0) (0) (900) (by decide) 2 (by decide) (by decide)
      rw [ew977] at bw977
      rw [ew976, ew977] at pI969
      exact WP_zret dX11_fresh_29 rfl (nar_z (by omega)) ⟨⟨hI969, rfl, ⟨(by rw [ew976, ew977]; omega), (by rw [e972, ew947] <;> exact (eq32 _ _).mpr (by omega)), (by rw [e973, ew948] <;> exact (eq32 _ _).mpr (by omega))⟩⟩, _, rfl, by omega, by omega⟩
  · refine WP_aload_n dX11_fresh_8 rfl ?_
    refine WQ_iconst (1) (1) dX11_fresh_9 rfl rfl (fun v978 hv978 => ?_)
    refine WP_callV1 (k := 11) dX11_fresh_10 ⟨⟨⟨by decide, by decide⟩, zX11_bad⟩, lX11_49, by decide, rfl, vX11_bad.1, vX11_bad.2⟩ (ly_is hy 0 11 rfl) (sm_bad2 hy hr hI v978  (by rw [ew949, ew950]; omega)) (Nat.le_of_ble_eq_true rfl) ?_
    intro r I979 J980 Ra hq
    obtain ⟨⟨hI979, ec, ⟨pI979, sI979_0_15, sI979_0_16⟩⟩, v981, rfl, av981, bv981⟩ := hq
    show WP _ _ _ _ (.int _ :: _) _ _ _ _
    rw [ec]
    clear ec Ra
    have e982 : I979 (ad g 0) 15 = w947 := by rw [sI979_0_15]; exact ew947
    have e983 : I979 (ad g 0) 16 = w948 := by rw [sI979_0_16]; exact ew948
    have e984 : I979 (ad g 0) 1 = L := hI979.1.2
    have b985 := BT_get hI979.1.1 0 1 2 (0) (0) (900) (by decide) 1 (by decide) (by decide)
    rw [e984] at b985
    obtain ⟨w986, ew986⟩ : ∃ w : Int32, I979 (ad g 0) 4 = w := ⟨_, rfl⟩
    have bw986 := BT_get hI979.1.1 0 4 5 (0) (0) (900) (by decide) 4 (by decide) (by decide)
    rw [ew986] at bw986
    obtain ⟨w987, ew987⟩ : ∃ w : Int32, I979 (ad g 0) 2 = w := ⟨_, rfl⟩
    have bw987 := BT_get hI979.1.1 0 2 3 (0) (0) (900) (by decide) 2 (by decide) (by decide)
    rw [ew987] at bw987
    rw [ew986, ew987] at pI979
    exact WP_zret dX11_fresh_13 rfl (nar_z (by omega)) ⟨⟨hI979, rfl, ⟨(by rw [ew986, ew987]; omega), (by rw [e982, ew947] <;> exact (eq32 _ _).mpr (by omega)), (by rw [e983, ew948] <;> exact (eq32 _ _).mpr (by omega))⟩⟩, _, rfl, by omega, by omega⟩
set_option maxHeartbeats 4000000 in
set_option maxRecDepth 100000 in
theorem sm_readRot {g : GG} {n : Int} {L : Int32} (hy : Ly g)  {I : pI} {J : pJ} {R : pR} (hr : Rf g R) (hI : MP g n L I)   (hb : (I (ad g 0) 4).toInt ≤ (I (ad g 0) 2).toInt) : SP g mX11_readRot [.ref (ad g 0)] I J R (fun r I' J' R' => (MP g n L I' ∧ R' = R ∧ (I' (ad g 0) 4).toInt ≤ (I' (ad g 0) 2).toInt) ∧ ∃ v : Int32, r = some (.int v) ∧ 0 ≤ v.toInt ∧ v.toInt ≤ 1) := by
  refine SP_of ⟨by decide, rfl⟩ (Nat.le_of_ble_eq_true rfl) ?_
  have e988 : I (ad g 0) 1 = L := hI.1.2
  have b989 := BT_get hI.1.1 0 1 2 (0) (0) (900) (by decide) 1 (by decide) (by decide)
  rw [e988] at b989
  obtain ⟨w990, ew990⟩ : ∃ w : Int32, I (ad g 0) 4 = w := ⟨_, rfl⟩
  have bw990 := BT_get hI.1.1 0 4 5 (0) (0) (900) (by decide) 4 (by decide) (by decide)
  rw [ew990] at bw990
  obtain ⟨w991, ew991⟩ : ∃ w : Int32, I (ad g 0) 2 = w := ⟨_, rfl⟩
  have bw991 := BT_get hI.1.1 0 2 3 (0) (0) (900) (by decide) 2 (by decide) (by decide)
  rw [ew991] at bw991
  rw [ew990, ew991] at hb
  refine WP_aload_n dX11_readRot_0 rfl ?_
  refine WP_callV0 (k := 11) dX11_readRot_1 ⟨⟨⟨by decide, by decide⟩, zX11_scan⟩, lX11_63, by decide, rfl, vX11_scan.1, vX11_scan.2⟩ (ly_is hy 0 11 rfl) (sm_scan hy hr hI   (by rw [ew990, ew991]; omega)) (Nat.le_of_ble_eq_true rfl) ?_
  intro r I992 J993 Ra hq
  obtain ⟨⟨hI992, ec, ⟨pI992, sI992_0_7, sI992_0_15, sI992_0_16⟩⟩, rfl⟩ := hq
  rw [ec]
  clear ec Ra
  have e994 : I992 (ad g 0) 1 = L := hI992.1.2
  have b995 := BT_get hI992.1.1 0 1 2 (0) (0) (900) (by decide) 1 (by decide) (by decide)
  rw [e994] at b995
  obtain ⟨w996, ew996⟩ : ∃ w : Int32, I992 (ad g 0) 4 = w := ⟨_, rfl⟩
  have bw996 := BT_get hI992.1.1 0 4 5 (0) (0) (900) (by decide) 4 (by decide) (by decide)
  rw [ew996] at bw996
  obtain ⟨w997, ew997⟩ : ∃ w : Int32, I992 (ad g 0) 2 = w := ⟨_, rfl⟩
  have bw997 := BT_get hI992.1.1 0 2 3 (0) (0) (900) (by decide) 2 (by decide) (by decide)
  rw [ew997] at bw997
  rw [ew996, ew997] at pI992
  refine WP_aload_n dX11_readRot_4 rfl ?_
  refine WQ_iconst (0) (0) dX11_readRot_5 rfl rfl (fun v998 hv998 => ?_)
  refine WQ_bipush (6) (6) dX11_readRot_6 rfl rfl (fun v999 hv999 => ?_)
  refine WP_callV2 (k := 11) dX11_readRot_8 ⟨⟨⟨by decide, by decide⟩, zX11_peek⟩, lX11_59, by decide, rfl, vX11_peek.1, vX11_peek.2⟩ (ly_is hy 0 11 rfl) (sm_peek hy hr hI992 v998 v999 (by omega) (by omega) (by omega) (by omega) (by rw [ew996, ew997]; omega)) (Nat.le_of_ble_eq_true rfl) ?_
  intro r I1000 J1001 Ra hq
  obtain ⟨⟨hI1000, ec, ⟨pI1000, sI1000_0_15, sI1000_0_16⟩⟩, v1002, rfl, av1002, bv1002, cv1002⟩ := hq
  show WP _ _ _ _ (.int _ :: _) _ _ _ _
  rw [ec]
  clear ec Ra
  have e1003 : I1000 (ad g 0) 1 = L := hI1000.1.2
  have b1004 := BT_get hI1000.1.1 0 1 2 (0) (0) (900) (by decide) 1 (by decide) (by decide)
  rw [e1003] at b1004
  obtain ⟨w1005, ew1005⟩ : ∃ w : Int32, I1000 (ad g 0) 4 = w := ⟨_, rfl⟩
  have bw1005 := BT_get hI1000.1.1 0 4 5 (0) (0) (900) (by decide) 4 (by decide) (by decide)
  rw [ew1005] at bw1005
  obtain ⟨w1006, ew1006⟩ : ∃ w : Int32, I1000 (ad g 0) 2 = w := ⟨_, rfl⟩
  have bw1006 := BT_get hI1000.1.1 0 2 3 (0) (0) (900) (by decide) 2 (by decide) (by decide)
  rw [ew1006] at bw1006
  rw [ew1005, ew1006] at pI1000
  obtain ⟨w1007, ew1007⟩ : ∃ w : Int32, I1000 (ad g 0) 7 = w := ⟨_, rfl⟩
  have bw1007 := BT_get hI1000.1.1 0 7 8 (-1) (0) (1000) (by decide) 7 (by decide) (by decide)
  rw [ew1007] at bw1007
  rw [ew1007] at cv1002
  refine WQ_if_ne 16 dX11_readRot_11 rfl (fun c1007 => ?_) (fun c1007 => ?_)
  · refine WP_aload_n dX11_readRot_16 rfl ?_
    refine WQ_getiu dX11_readRot_17 fX11_78 rfl (ly_is hy 0 11 rfl) (fun v1009 ev1009 => ?_)
    refine WP_aload_n dX11_readRot_20 rfl ?_
    refine WQ_getim dX11_readRot_21 fX11_56 rfl (ly_is hy 0 11 rfl) ew1007 ?_
    refine WQ_ishru dX11_readRot_24 (fun v1010 => ?_)
    refine WQ_iconst (1) (1) dX11_readRot_25 rfl rfl (fun v1011 hv1011 => ?_)
    refine WQ_iandu dX11_readRot_26 (fun v1012 => ?_)
    refine WQ_iconst (1) (1) dX11_readRot_27 rfl rfl (fun v1013 hv1013 => ?_)
    refine WQ_icmp_ne 37 dX11_readRot_28 rfl (fun c1013 => ?_) (fun c1013 => ?_)
    · refine WP_aload_n dX11_readRot_37 rfl ?_
      refine WP_dup dX11_readRot_38 rfl ?_
      refine WQ_getim dX11_readRot_39 fX11_78 rfl (ly_is hy 0 11 rfl) ev1009 ?_
      refine WQ_iconst (1) (1) dX11_readRot_42 rfl rfl (fun v1015 hv1015 => ?_)
      refine WP_aload_n dX11_readRot_43 rfl ?_
      refine WQ_getim dX11_readRot_44 fX11_56 rfl (ly_is hy 0 11 rfl) ew1007 ?_
      refine WQ_ishlu dX11_readRot_47 (fun v1016 => ?_)
      refine WQ_ioru dX11_readRot_48 (fun v1017 => ?_)
      refine WQ_puti dX11_readRot_49 fX11_78 rfl rfl (ly_is hy 0 11 rfl) (fun I1018 eI1018 => ?_)
      have hI1018 : MP g n L I1018 := by rw [eI1018]; exact (mp_w hy hI1000 (c := 0) (mi_f0 hy hI1000.1 (c := 0) (by decide) (Or.inr (by decide)) (by decide)) (by decide) (by decide) (Or.inr (by decide)))
      have e1019 : I1018 (ad g 0) 1 = L := by rw [eI1018, pp_ne _ _ (Or.inr (by decide))]; exact e1003
      have e1020 : I1018 (ad g 0) 4 = w1005 := by rw [eI1018, pp_ne _ _ (Or.inr (by decide))]; exact ew1005
      have e1021 : I1018 (ad g 0) 2 = w1006 := by rw [eI1018, pp_ne _ _ (Or.inr (by decide))]; exact ew1006
      have e1022 : I1018 (ad g 0) 7 = w1007 := by rw [eI1018, pp_ne _ _ (Or.inr (by decide))]; exact ew1007
      have e1023 : I1018 (ad g 0) 51 = v1017 := by rw [eI1018, pp_self]
      clear eI1018
      refine WP_aload_n dX11_readRot_52 rfl ?_
      refine WQ_getim dX11_readRot_53 fX11_56 rfl (ly_is hy 0 11 rfl) e1022 ?_
      refine WP_istore_n (ls' := [(0, _), (1, _)]) dX11_readRot_56 (by decide) rfl ?_
      refine WP_aload_n dX11_readRot_57 rfl ?_
      refine WP_callV0 (k := 11) dX11_readRot_58 ⟨⟨⟨by decide, by decide⟩, zX11_scan⟩, lX11_63, by decide, rfl, vX11_scan.1, vX11_scan.2⟩ (ly_is hy 0 11 rfl) (sm_scan hy hr hI1018   (by rw [e1020, e1021]; omega)) (Nat.le_of_ble_eq_true rfl) ?_
      intro r I1024 J1025 Ra hq
      obtain ⟨⟨hI1024, ec, ⟨pI1024, sI1024_0_7, sI1024_0_15, sI1024_0_16⟩⟩, rfl⟩ := hq
      rw [ec]
      clear ec Ra
      have e1026 : I1024 (ad g 0) 7 = w1007 := by rw [sI1024_0_7]; exact e1022
      have e1027 : I1024 (ad g 0) 1 = L := hI1024.1.2
      have b1028 := BT_get hI1024.1.1 0 1 2 (0) (0) (900) (by decide) 1 (by decide) (by decide)
      rw [e1027] at b1028
      obtain ⟨w1029, ew1029⟩ : ∃ w : Int32, I1024 (ad g 0) 4 = w := ⟨_, rfl⟩
      have bw1029 := BT_get hI1024.1.1 0 4 5 (0) (0) (900) (by decide) 4 (by decide) (by decide)
      rw [ew1029] at bw1029
      obtain ⟨w1030, ew1030⟩ : ∃ w : Int32, I1024 (ad g 0) 2 = w := ⟨_, rfl⟩
      have bw1030 := BT_get hI1024.1.1 0 2 3 (0) (0) (900) (by decide) 2 (by decide) (by decide)
      rw [ew1030] at bw1030
      rw [ew1029, ew1030] at pI1024
      refine WP_aload_n dX11_readRot_61 rfl ?_
      refine WQ_iconst (0) (0) dX11_readRot_62 rfl rfl (fun v1031 hv1031 => ?_)
      refine WQ_sipush (900) (900) dX11_readRot_63 rfl rfl (fun v1032 hv1032 => ?_)
      refine WP_callV2 (k := 11) dX11_readRot_66 ⟨⟨⟨by decide, by decide⟩, zX11_number⟩, lX11_81, by decide, rfl, vX11_number.1, vX11_number.2⟩ (ly_is hy 0 11 rfl) (sm_number hy hr hI1024 v1031 v1032 (by omega) (by omega) (by omega) (by omega) (by rw [ew1029, ew1030]; omega)) (Nat.le_of_ble_eq_true rfl) ?_
      intro r I1033 J1034 Ra hq
      obtain ⟨⟨hI1033, ec, ⟨pI1033, sI1033_0_15, sI1033_0_16⟩⟩, v1035, rfl, av1035, bv1035, cv1035⟩ := hq
      show WP _ _ _ _ (.int _ :: _) _ _ _ _
      rw [ec]
      clear ec Ra
      have e1036 : I1033 (ad g 0) 1 = L := hI1033.1.2
      have b1037 := BT_get hI1033.1.1 0 1 2 (0) (0) (900) (by decide) 1 (by decide) (by decide)
      rw [e1036] at b1037
      obtain ⟨w1038, ew1038⟩ : ∃ w : Int32, I1033 (ad g 0) 4 = w := ⟨_, rfl⟩
      have bw1038 := BT_get hI1033.1.1 0 4 5 (0) (0) (900) (by decide) 4 (by decide) (by decide)
      rw [ew1038] at bw1038
      obtain ⟨w1039, ew1039⟩ : ∃ w : Int32, I1033 (ad g 0) 2 = w := ⟨_, rfl⟩
      have bw1039 := BT_get hI1033.1.1 0 2 3 (0) (0) (900) (by decide) 2 (by decide) (by decide)
      rw [ew1039] at bw1039
      rw [ew1038, ew1039] at pI1033
      obtain ⟨w1040, ew1040⟩ : ∃ w : Int32, I1033 (ad g 0) 7 = w := ⟨_, rfl⟩
      have bw1040 := BT_get hI1033.1.1 0 7 8 (-1) (0) (1000) (by decide) 7 (by decide) (by decide)
      rw [ew1040] at bw1040
      rw [ew1040] at cv1035
      refine WQ_if_ne 74 dX11_readRot_69 rfl (fun c1040 => ?_) (fun c1040 => ?_)
      · refine WP_aload_n dX11_readRot_74 rfl ?_
        refine WP_getr dX11_readRot_75 fX11_84 rfl (ly_is hy 0 11 rfl) (rf hr 0 25 7 (by decide)) ?_
        refine WP_iload_n dX11_readRot_78 rfl ?_
        refine WP_aload_n dX11_readRot_79 rfl ?_
        refine WQ_getim dX11_readRot_80 fX11_56 rfl (ly_is hy 0 11 rfl) ew1040 ?_
        refine WQ_iast dX11_readRot_83 (ly_is hy 7 13 rfl) (ly_n hy 7 7 rfl) (by omega) (by omega) (fun I1042 eI1042 => ?_)
        have hI1042 : MP g n L I1042 := by rw [eI1042]; exact (mp_w hy hI1033 (c := 7) (mi_r hy hI1033.1 (c := 7) (0) (0) (900) (by decide) (Or.inl (by decide)) (by decide) (by omega) (by omega)) (by decide) (by decide) (Or.inl (by decide)))
        have e1043 : I1042 (ad g 0) 1 = L := by rw [eI1042, pp_ne _ _ (Or.inl (ly_ne hy (by decide) (by decide) (by decide)))]; exact e1036
        have e1044 : I1042 (ad g 0) 4 = w1038 := by rw [eI1042, pp_ne _ _ (Or.inl (ly_ne hy (by decide) (by decide) (by decide)))]; exact ew1038
        have e1045 : I1042 (ad g 0) 2 = w1039 := by rw [eI1042, pp_ne _ _ (Or.inl (ly_ne hy (by decide) (by decide) (by decide)))]; exact ew1039
        have e1046 : I1042 (ad g 0) 7 = w1040 := by rw [eI1042, pp_ne _ _ (Or.inl (ly_ne hy (by decide) (by decide) (by decide)))]; exact ew1040
        clear eI1042
        refine WQ_iconst (1) (1) dX11_readRot_84 rfl rfl (fun v1047 hv1047 => ?_)
        exact WP_zret dX11_readRot_85 rfl (nar_z (by omega)) ⟨⟨hI1042, rfl, (by rw [e1044, e1045]; omega)⟩, _, rfl, by omega, by omega⟩
      · refine WQ_iconst (0) (0) dX11_readRot_72 rfl rfl (fun v1048 hv1048 => ?_)
        exact WP_zret dX11_readRot_73 rfl (nar_z (by omega)) ⟨⟨hI1033, rfl, (by rw [ew1038, ew1039]; omega)⟩, _, rfl, by omega, by omega⟩
    · refine WP_aload_n dX11_readRot_31 rfl ?_
      refine WQ_iconst (3) (3) dX11_readRot_32 rfl rfl (fun v1049 hv1049 => ?_)
      refine WP_callV1 (k := 11) dX11_readRot_33 ⟨⟨⟨by decide, by decide⟩, zX11_bad⟩, lX11_49, by decide, rfl, vX11_bad.1, vX11_bad.2⟩ (ly_is hy 0 11 rfl) (sm_bad2 hy hr hI1000 v1049  (by rw [ew1005, ew1006]; omega)) (Nat.le_of_ble_eq_true rfl) ?_
      intro r I1050 J1051 Ra hq
      obtain ⟨⟨hI1050, ec, ⟨pI1050, sI1050_0_15, sI1050_0_16⟩⟩, v1052, rfl, av1052, bv1052⟩ := hq
      show WP _ _ _ _ (.int _ :: _) _ _ _ _
      rw [ec]
      clear ec Ra
      have e1053 : I1050 (ad g 0) 1 = L := hI1050.1.2
      have b1054 := BT_get hI1050.1.1 0 1 2 (0) (0) (900) (by decide) 1 (by decide) (by decide)
      rw [e1053] at b1054
      obtain ⟨w1055, ew1055⟩ : ∃ w : Int32, I1050 (ad g 0) 4 = w := ⟨_, rfl⟩
      have bw1055 := BT_get hI1050.1.1 0 4 5 (0) (0) (900) (by decide) 4 (by decide) (by decide)
      rw [ew1055] at bw1055
      obtain ⟨w1056, ew1056⟩ : ∃ w : Int32, I1050 (ad g 0) 2 = w := ⟨_, rfl⟩
      have bw1056 := BT_get hI1050.1.1 0 2 3 (0) (0) (900) (by decide) 2 (by decide) (by decide)
      rw [ew1056] at bw1056
      rw [ew1055, ew1056] at pI1050
      exact WP_zret dX11_readRot_36 rfl (nar_z (by omega)) ⟨⟨hI1050, rfl, (by rw [ew1055, ew1056]; omega)⟩, _, rfl, by omega, by omega⟩
  · refine WQ_iconst (0) (0) dX11_readRot_14 rfl rfl (fun v1057 hv1057 => ?_)
    exact WP_zret dX11_readRot_15 rfl (nar_z (by omega)) ⟨⟨hI1000, rfl, (by rw [ew1005, ew1006]; omega)⟩, _, rfl, by omega, by omega⟩
set_option maxHeartbeats 4000000 in
set_option maxRecDepth 100000 in
theorem sm_readThingOf {g : GG} {n : Int} {L : Int32} (hy : Ly g)  {I : pI} {J : pJ} {R : pR} (hr : Rf g R) (hI : MP g n L I)   (hb : (I (ad g 0) 4).toInt ≤ (I (ad g 0) 2).toInt) : SP g mX11_readThingOf [.ref (ad g 0)] I J R (fun r I' J' R' => (MP g n L I' ∧ R' = R ∧ (I' (ad g 0) 4).toInt ≤ (I' (ad g 0) 2).toInt) ∧ ∃ v : Int32, r = some (.int v) ∧ 0 ≤ v.toInt ∧ v.toInt ≤ 1) := by
  refine SP_of ⟨by decide, rfl⟩ (Nat.le_of_ble_eq_true rfl) ?_
  have e1058 : I (ad g 0) 1 = L := hI.1.2
  have b1059 := BT_get hI.1.1 0 1 2 (0) (0) (900) (by decide) 1 (by decide) (by decide)
  rw [e1058] at b1059
  obtain ⟨w1060, ew1060⟩ : ∃ w : Int32, I (ad g 0) 4 = w := ⟨_, rfl⟩
  have bw1060 := BT_get hI.1.1 0 4 5 (0) (0) (900) (by decide) 4 (by decide) (by decide)
  rw [ew1060] at bw1060
  obtain ⟨w1061, ew1061⟩ : ∃ w : Int32, I (ad g 0) 2 = w := ⟨_, rfl⟩
  have bw1061 := BT_get hI.1.1 0 2 3 (0) (0) (900) (by decide) 2 (by decide) (by decide)
  rw [ew1061] at bw1061
  rw [ew1060, ew1061] at hb
  refine WP_aload_n dX11_readThingOf_0 rfl ?_
  refine WQ_geti dX11_readThingOf_1 fX11_126 rfl (ly_is hy 0 11 rfl) (BT_get hI.1.1 0 16 17 (0) (0) (3) (by decide) 16 (by decide) (by decide)) (fun v1062 ev1062 av1062 bv1062 => ?_)
  refine WQ_iconst (3) (3) dX11_readThingOf_4 rfl rfl (fun v1063 hv1063 => ?_)
  refine WQ_icmp_ne 14 dX11_readThingOf_5 rfl (fun c1063 => ?_) (fun c1063 => ?_)
  · refine WP_aload_n dX11_readThingOf_14 rfl ?_
    refine WP_callV0 (k := 11) dX11_readThingOf_15 ⟨⟨⟨by decide, by decide⟩, zX11_scan⟩, lX11_63, by decide, rfl, vX11_scan.1, vX11_scan.2⟩ (ly_is hy 0 11 rfl) (sm_scan hy hr hI   (by rw [ew1060, ew1061]; omega)) (Nat.le_of_ble_eq_true rfl) ?_
    intro r I1065 J1066 Ra hq
    obtain ⟨⟨hI1065, ec, ⟨pI1065, sI1065_0_7, sI1065_0_15, sI1065_0_16⟩⟩, rfl⟩ := hq
    rw [ec]
    clear ec Ra
    have e1067 : I1065 (ad g 0) 16 = v1062 := by rw [sI1065_0_16]; exact ev1062
    have e1068 : I1065 (ad g 0) 1 = L := hI1065.1.2
    have b1069 := BT_get hI1065.1.1 0 1 2 (0) (0) (900) (by decide) 1 (by decide) (by decide)
    rw [e1068] at b1069
    obtain ⟨w1070, ew1070⟩ : ∃ w : Int32, I1065 (ad g 0) 4 = w := ⟨_, rfl⟩
    have bw1070 := BT_get hI1065.1.1 0 4 5 (0) (0) (900) (by decide) 4 (by decide) (by decide)
    rw [ew1070] at bw1070
    obtain ⟨w1071, ew1071⟩ : ∃ w : Int32, I1065 (ad g 0) 2 = w := ⟨_, rfl⟩
    have bw1071 := BT_get hI1065.1.1 0 2 3 (0) (0) (900) (by decide) 2 (by decide) (by decide)
    rw [ew1071] at bw1071
    rw [ew1070, ew1071] at pI1065
    refine WP_aload_n dX11_readThingOf_18 rfl ?_
    refine WQ_getim dX11_readThingOf_19 fX11_126 rfl (ly_is hy 0 11 rfl) e1067 ?_
    refine WP_istore_n (ls' := [(0, _), (1, _)]) dX11_readThingOf_22 (by decide) rfl ?_
    refine WP_aload_n dX11_readThingOf_23 rfl ?_
    refine WP_aload_n dX11_readThingOf_24 rfl ?_
    refine WP_getr dX11_readThingOf_25 fX11_129 rfl (ly_is hy 0 11 rfl) (rf hr 0 23 5 (by decide)) ?_
    refine WP_iload_n dX11_readThingOf_28 rfl ?_
    refine WP_callV2 (k := 11) dX11_readThingOf_29 ⟨⟨⟨by decide, by decide⟩, zX11_fresh⟩, lX11_95, by decide, rfl, vX11_fresh.1, vX11_fresh.2⟩ (ly_is hy 0 11 rfl) (sm_fresh_5 hy hr hI1065 v1062 (by omega) (by omega) (by rw [ew1070, ew1071]; omega)) (Nat.le_of_ble_eq_true rfl) ?_
    intro r I1072 J1073 Ra hq
    obtain ⟨⟨hI1072, ec, ⟨pI1072, sI1072_0_15, sI1072_0_16⟩⟩, v1074, rfl, av1074, bv1074⟩ := hq
    show WP _ _ _ _ (.int _ :: _) _ _ _ _
    rw [ec]
    clear ec Ra
    have e1075 : I1072 (ad g 0) 16 = v1062 := by rw [sI1072_0_16]; exact e1067
    have e1076 : I1072 (ad g 0) 1 = L := hI1072.1.2
    have b1077 := BT_get hI1072.1.1 0 1 2 (0) (0) (900) (by decide) 1 (by decide) (by decide)
    rw [e1076] at b1077
    obtain ⟨w1078, ew1078⟩ : ∃ w : Int32, I1072 (ad g 0) 4 = w := ⟨_, rfl⟩
    have bw1078 := BT_get hI1072.1.1 0 4 5 (0) (0) (900) (by decide) 4 (by decide) (by decide)
    rw [ew1078] at bw1078
    obtain ⟨w1079, ew1079⟩ : ∃ w : Int32, I1072 (ad g 0) 2 = w := ⟨_, rfl⟩
    have bw1079 := BT_get hI1072.1.1 0 2 3 (0) (0) (900) (by decide) 2 (by decide) (by decide)
    rw [ew1079] at bw1079
    rw [ew1078, ew1079] at pI1072
    refine WQ_if_eq 46 dX11_readThingOf_32 rfl (fun c1079 => ?_) (fun c1079 => ?_)
    · refine WQ_iconst (0) (0) dX11_readThingOf_46 rfl rfl (fun v1081 hv1081 => ?_)
      exact WP_zret dX11_readThingOf_47 rfl (nar_z (by omega)) ⟨⟨hI1072, rfl, (by rw [ew1078, ew1079]; omega)⟩, _, rfl, by omega, by omega⟩
    · refine WP_aload_n dX11_readThingOf_35 rfl ?_
      refine WQ_iconst (0) (0) dX11_readThingOf_36 rfl rfl (fun v1082 hv1082 => ?_)
      refine WQ_sipush (1000) (1000) dX11_readThingOf_37 rfl rfl (fun v1083 hv1083 => ?_)
      refine WP_callV2 (k := 11) dX11_readThingOf_40 ⟨⟨⟨by decide, by decide⟩, zX11_number⟩, lX11_81, by decide, rfl, vX11_number.1, vX11_number.2⟩ (ly_is hy 0 11 rfl) (sm_number hy hr hI1072 v1082 v1083 (by omega) (by omega) (by omega) (by omega) (by rw [ew1078, ew1079]; omega)) (Nat.le_of_ble_eq_true rfl) ?_
      intro r I1084 J1085 Ra hq
      obtain ⟨⟨hI1084, ec, ⟨pI1084, sI1084_0_15, sI1084_0_16⟩⟩, v1086, rfl, av1086, bv1086, cv1086⟩ := hq
      show WP _ _ _ _ (.int _ :: _) _ _ _ _
      rw [ec]
      clear ec Ra
      have e1087 : I1084 (ad g 0) 16 = v1062 := by rw [sI1084_0_16]; exact e1075
      have e1088 : I1084 (ad g 0) 1 = L := hI1084.1.2
      have b1089 := BT_get hI1084.1.1 0 1 2 (0) (0) (900) (by decide) 1 (by decide) (by decide)
      rw [e1088] at b1089
      obtain ⟨w1090, ew1090⟩ : ∃ w : Int32, I1084 (ad g 0) 4 = w := ⟨_, rfl⟩
      have bw1090 := BT_get hI1084.1.1 0 4 5 (0) (0) (900) (by decide) 4 (by decide) (by decide)
      rw [ew1090] at bw1090
      obtain ⟨w1091, ew1091⟩ : ∃ w : Int32, I1084 (ad g 0) 2 = w := ⟨_, rfl⟩
      have bw1091 := BT_get hI1084.1.1 0 2 3 (0) (0) (900) (by decide) 2 (by decide) (by decide)
      rw [ew1091] at bw1091
      rw [ew1090, ew1091] at pI1084
      obtain ⟨w1092, ew1092⟩ : ∃ w : Int32, I1084 (ad g 0) 7 = w := ⟨_, rfl⟩
      have bw1092 := BT_get hI1084.1.1 0 7 8 (-1) (0) (1000) (by decide) 7 (by decide) (by decide)
      rw [ew1092] at bw1092
      rw [ew1092] at cv1086
      refine WQ_if_ne 48 dX11_readThingOf_43 rfl (fun c1092 => ?_) (fun c1092 => ?_)
      · refine WP_aload_n dX11_readThingOf_48 rfl ?_
        refine WP_getr dX11_readThingOf_49 fX11_132 rfl (ly_is hy 0 11 rfl) (rf hr 0 36 18 (by decide)) ?_
        refine WP_iload_n dX11_readThingOf_52 rfl ?_
        refine WP_aload_n dX11_readThingOf_53 rfl ?_
        refine WQ_getim dX11_readThingOf_54 fX11_56 rfl (ly_is hy 0 11 rfl) ew1092 ?_
        refine WQ_iast dX11_readThingOf_57 (ly_is hy 18 13 rfl) (ly_n hy 18 3 rfl) (by omega) (by omega) (fun I1094 eI1094 => ?_)
        have hI1094 : MP g n L I1094 := by rw [eI1094]; exact (mp_w hy hI1084 (c := 18) (mi_r hy hI1084.1 (c := 18) (0) (0) (1000) (by decide) (Or.inl (by decide)) (by decide) (by omega) (by omega)) (by decide) (by decide) (Or.inl (by decide)))
        have e1095 : I1094 (ad g 0) 16 = v1062 := by rw [eI1094, pp_ne _ _ (Or.inl (ly_ne hy (by decide) (by decide) (by decide)))]; exact e1087
        have e1096 : I1094 (ad g 0) 1 = L := by rw [eI1094, pp_ne _ _ (Or.inl (ly_ne hy (by decide) (by decide) (by decide)))]; exact e1088
        have e1097 : I1094 (ad g 0) 4 = w1090 := by rw [eI1094, pp_ne _ _ (Or.inl (ly_ne hy (by decide) (by decide) (by decide)))]; exact ew1090
        have e1098 : I1094 (ad g 0) 2 = w1091 := by rw [eI1094, pp_ne _ _ (Or.inl (ly_ne hy (by decide) (by decide) (by decide)))]; exact ew1091
        have e1099 : I1094 (ad g 0) 7 = w1092 := by rw [eI1094, pp_ne _ _ (Or.inl (ly_ne hy (by decide) (by decide) (by decide)))]; exact ew1092
        clear eI1094
        refine WP_aload_n dX11_readThingOf_58 rfl ?_
        refine WQ_iconst (0) (0) dX11_readThingOf_59 rfl rfl (fun v1100 hv1100 => ?_)
        refine WQ_bipush (9) (9) dX11_readThingOf_60 rfl rfl (fun v1101 hv1101 => ?_)
        refine WP_callV2 (k := 11) dX11_readThingOf_62 ⟨⟨⟨by decide, by decide⟩, zX11_number⟩, lX11_81, by decide, rfl, vX11_number.1, vX11_number.2⟩ (ly_is hy 0 11 rfl) (sm_number hy hr hI1094 v1100 v1101 (by omega) (by omega) (by omega) (by omega) (by rw [e1097, e1098]; omega)) (Nat.le_of_ble_eq_true rfl) ?_
        intro r I1102 J1103 Ra hq
        obtain ⟨⟨hI1102, ec, ⟨pI1102, sI1102_0_15, sI1102_0_16⟩⟩, v1104, rfl, av1104, bv1104, cv1104⟩ := hq
        show WP _ _ _ _ (.int _ :: _) _ _ _ _
        rw [ec]
        clear ec Ra
        have e1105 : I1102 (ad g 0) 16 = v1062 := by rw [sI1102_0_16]; exact e1095
        have e1106 : I1102 (ad g 0) 1 = L := hI1102.1.2
        have b1107 := BT_get hI1102.1.1 0 1 2 (0) (0) (900) (by decide) 1 (by decide) (by decide)
        rw [e1106] at b1107
        obtain ⟨w1108, ew1108⟩ : ∃ w : Int32, I1102 (ad g 0) 4 = w := ⟨_, rfl⟩
        have bw1108 := BT_get hI1102.1.1 0 4 5 (0) (0) (900) (by decide) 4 (by decide) (by decide)
        rw [ew1108] at bw1108
        obtain ⟨w1109, ew1109⟩ : ∃ w : Int32, I1102 (ad g 0) 2 = w := ⟨_, rfl⟩
        have bw1109 := BT_get hI1102.1.1 0 2 3 (0) (0) (900) (by decide) 2 (by decide) (by decide)
        rw [ew1109] at bw1109
        rw [ew1108, ew1109] at pI1102
        obtain ⟨w1110, ew1110⟩ : ∃ w : Int32, I1102 (ad g 0) 7 = w := ⟨_, rfl⟩
        have bw1110 := BT_get hI1102.1.1 0 7 8 (-1) (0) (1000) (by decide) 7 (by decide) (by decide)
        rw [ew1110] at bw1110
        rw [ew1110] at cv1104
        refine WQ_if_ne 70 dX11_readThingOf_65 rfl (fun c1110 => ?_) (fun c1110 => ?_)
        · refine WP_aload_n dX11_readThingOf_70 rfl ?_
          refine WP_getr dX11_readThingOf_71 fX11_135 rfl (ly_is hy 0 11 rfl) (rf hr 0 37 19 (by decide)) ?_
          refine WP_iload_n dX11_readThingOf_74 rfl ?_
          refine WP_aload_n dX11_readThingOf_75 rfl ?_
          refine WQ_getim dX11_readThingOf_76 fX11_56 rfl (ly_is hy 0 11 rfl) ew1110 ?_
          refine WQ_iast dX11_readThingOf_79 (ly_is hy 19 13 rfl) (ly_n hy 19 3 rfl) (by omega) (by omega) (fun I1112 eI1112 => ?_)
          have hI1112 : MP g n L I1112 := by rw [eI1112]; exact (mp_w hy hI1102 (c := 19) (mi_r hy hI1102.1 (c := 19) (0) (0) (9) (by decide) (Or.inl (by decide)) (by decide) (by omega) (by omega)) (by decide) (by decide) (Or.inl (by decide)))
          have e1113 : I1112 (ad g 0) 16 = v1062 := by rw [eI1112, pp_ne _ _ (Or.inl (ly_ne hy (by decide) (by decide) (by decide)))]; exact e1105
          have e1114 : I1112 (ad g 0) 1 = L := by rw [eI1112, pp_ne _ _ (Or.inl (ly_ne hy (by decide) (by decide) (by decide)))]; exact e1106
          have e1115 : I1112 (ad g 0) 4 = w1108 := by rw [eI1112, pp_ne _ _ (Or.inl (ly_ne hy (by decide) (by decide) (by decide)))]; exact ew1108
          have e1116 : I1112 (ad g 0) 2 = w1109 := by rw [eI1112, pp_ne _ _ (Or.inl (ly_ne hy (by decide) (by decide) (by decide)))]; exact ew1109
          have e1117 : I1112 (ad g 0) 7 = w1110 := by rw [eI1112, pp_ne _ _ (Or.inl (ly_ne hy (by decide) (by decide) (by decide)))]; exact ew1110
          clear eI1112
          refine WP_aload_n dX11_readThingOf_80 rfl ?_
          refine WP_getr dX11_readThingOf_81 fX11_138 rfl (ly_is hy 0 11 rfl) (rf hr 0 53 34 (by decide)) ?_
          refine WP_iload_n dX11_readThingOf_84 rfl ?_
          refine WQ_iconst (0) (0) dX11_readThingOf_85 rfl rfl (fun v1118 hv1118 => ?_)
          refine WQ_iast dX11_readThingOf_86 (ly_is hy 34 13 rfl) (ly_n hy 34 3 rfl) (by omega) (by omega) (fun I1119 eI1119 => ?_)
          have hI1119 : MP g n L I1119 := by rw [eI1119]; exact (mp_w hy hI1112 (c := 34) (mi_r0 hy hI1112.1 (c := 34) (by decide) (Or.inl (by decide)) (by decide)) (by decide) (by decide) (Or.inl (by decide)))
          have e1120 : I1119 (ad g 0) 16 = v1062 := by rw [eI1119, pp_ne _ _ (Or.inl (ly_ne hy (by decide) (by decide) (by decide)))]; exact e1113
          have e1121 : I1119 (ad g 0) 1 = L := by rw [eI1119, pp_ne _ _ (Or.inl (ly_ne hy (by decide) (by decide) (by decide)))]; exact e1114
          have e1122 : I1119 (ad g 0) 4 = w1108 := by rw [eI1119, pp_ne _ _ (Or.inl (ly_ne hy (by decide) (by decide) (by decide)))]; exact e1115
          have e1123 : I1119 (ad g 0) 2 = w1109 := by rw [eI1119, pp_ne _ _ (Or.inl (ly_ne hy (by decide) (by decide) (by decide)))]; exact e1116
          have e1124 : I1119 (ad g 0) 7 = w1110 := by rw [eI1119, pp_ne _ _ (Or.inl (ly_ne hy (by decide) (by decide) (by decide)))]; exact e1117
          clear eI1119
          refine WQ_iconst (0) (0) dX11_readThingOf_87 rfl rfl (fun v1125 hv1125 => ?_)
          refine WP_istore_n (ls' := [(0, _), (1, _), (2, _)]) dX11_readThingOf_88 (by decide) rfl ?_
          have lp89_1131 : ∀ (mz : Nat) (i1126 : Int32) (I1127 : pI) (J1128 : pJ), MP g n L I1127 → ∀ (w1129 : Int32), I1127 (ad g 0) 4 = w1129 → ∀ (w1130 : Int32), I1127 (ad g 0) 2 = w1130 → ∀ (w1131 : Int32), I1127 (ad g 0) 16 = w1131 → 0 ≤ i1126.toInt → i1126.toInt ≤ 7 → w1129.toInt ≤ w1130.toInt → w1131.toInt ≤ 2 → (8 - i1126.toInt).toNat < mz → WP g mX11_readThingOf 89 [(0, .ref (ad g 0)), (1, .int v1062), (2, .int i1126)] [] I1127 J1128 R (fun r I' J' R' => (MP g n L I' ∧ R' = R ∧ (I' (ad g 0) 4).toInt ≤ (I' (ad g 0) 2).toInt) ∧ ∃ v : Int32, r = some (.int v) ∧ 0 ≤ v.toInt ∧ v.toInt ≤ 1) := by
            intro mz
            induction mz with
            | zero =>
              intro i1126 I1127 J1128 hI1127 w1129 ew1129 w1130 ew1130 w1131 ew1131 ai1126 bi1126 j0_I1127 j1_I1127 hmlp89_1131
              exact absurd hmlp89_1131 (Nat.not_lt_zero _)
            | succ mz ihlp89_1131 =>
              intro i1126 I1127 J1128 hI1127 w1129 ew1129 w1130 ew1130 w1131 ew1131 ai1126 bi1126 j0_I1127 j1_I1127 hmlp89_1131
              have bw1129 := BT_get hI1127.1.1 0 4 5 (0) (0) (900) (by decide) 4 (by decide) (by decide)
              rw [ew1129] at bw1129
              have bw1130 := BT_get hI1127.1.1 0 2 3 (0) (0) (900) (by decide) 2 (by decide) (by decide)
              rw [ew1130] at bw1130
              have bw1131 := BT_get hI1127.1.1 0 16 17 (0) (0) (3) (by decide) 16 (by decide) (by decide)
              rw [ew1131] at bw1131
              have e1133 : I1127 (ad g 0) 1 = L := hI1127.1.2
              have b1134 := BT_get hI1127.1.1 0 1 2 (0) (0) (900) (by decide) 1 (by decide) (by decide)
              rw [e1133] at b1134
              refine WP_iload_n dX11_readThingOf_89 rfl ?_
              refine WQ_bipush (7) (7) dX11_readThingOf_90 rfl rfl (fun v1135 hv1135 => ?_)
              refine WQ_icmp_ge 125 dX11_readThingOf_92 rfl (fun c1135 => ?_) (fun c1135 => ?_)
              · refine WP_aload_n dX11_readThingOf_125 rfl ?_
                refine WP_dup dX11_readThingOf_126 rfl ?_
                refine WQ_getim dX11_readThingOf_127 fX11_126 rfl (ly_is hy 0 11 rfl) ew1131 ?_
                refine WQ_iconst (1) (1) dX11_readThingOf_130 rfl rfl (fun v1137 hv1137 => ?_)
                refine WQ_iadd dX11_readThingOf_131 (by omega) (by omega) (fun v1138 hv1138 => ?_)
                refine WQ_puti dX11_readThingOf_132 fX11_126 rfl rfl (ly_is hy 0 11 rfl) (fun I1139 eI1139 => ?_)
                have hI1139 : MP g n L I1139 := by rw [eI1139]; exact (mp_w hy hI1127 (c := 0) (mi_f hy hI1127.1 (c := 0) (0) (0) (3) (by decide) (Or.inr (by decide)) (by decide) (by omega) (by omega)) (by decide) (by decide) (Or.inr (by decide)))
                have e1140 : I1139 (ad g 0) 4 = w1129 := by rw [eI1139, pp_ne _ _ (Or.inr (by decide))]; exact ew1129
                have e1141 : I1139 (ad g 0) 2 = w1130 := by rw [eI1139, pp_ne _ _ (Or.inr (by decide))]; exact ew1130
                have e1142 : I1139 (ad g 0) 1 = L := by rw [eI1139, pp_ne _ _ (Or.inr (by decide))]; exact e1133
                have e1143 : I1139 (ad g 0) 16 = v1138 := by rw [eI1139, pp_self]
                clear eI1139
                refine WQ_iconst (1) (1) dX11_readThingOf_135 rfl rfl (fun v1144 hv1144 => ?_)
                exact WP_zret dX11_readThingOf_136 rfl (nar_z (by omega)) ⟨⟨hI1139, rfl, (by rw [e1140, e1141]; omega)⟩, _, rfl, by omega, by omega⟩
              · refine WP_aload_n dX11_readThingOf_95 rfl ?_
                refine WP_getr dX11_readThingOf_96 fX11_141 rfl (ly_is hy 0 11 rfl) (rf hr 0 46 28 (by decide)) ?_
                refine WQ_bipush (7) (7) dX11_readThingOf_99 rfl rfl (fun v1145 hv1145 => ?_)
                refine WP_iload_n dX11_readThingOf_101 rfl ?_
                refine WQ_imulK (7) dX11_readThingOf_102 hv1145 (by omega) (by omega) (fun v1146 hv1146 => ?_)
                refine WP_iload_n dX11_readThingOf_103 rfl ?_
                refine WQ_iadd dX11_readThingOf_104 (by omega) (by omega) (fun v1147 hv1147 => ?_)
                refine WQ_iconst (5) (5) dX11_readThingOf_105 rfl rfl (fun v1148 hv1148 => ?_)
                refine WQ_iast dX11_readThingOf_106 (ly_is hy 28 13 rfl) (ly_n hy 28 21 rfl) (by omega) (by omega) (fun I1149 eI1149 => ?_)
                have hI1149 : MP g n L I1149 := by rw [eI1149]; exact (mp_w hy hI1127 (c := 28) (mi_r hy hI1127.1 (c := 28) (0) (0) (20) (by decide) (Or.inl (by decide)) (by decide) (by omega) (by omega)) (by decide) (by decide) (Or.inl (by decide)))
                have e1150 : I1149 (ad g 0) 4 = w1129 := by rw [eI1149, pp_ne _ _ (Or.inl (ly_ne hy (by decide) (by decide) (by decide)))]; exact ew1129
                have e1151 : I1149 (ad g 0) 2 = w1130 := by rw [eI1149, pp_ne _ _ (Or.inl (ly_ne hy (by decide) (by decide) (by decide)))]; exact ew1130
                have e1152 : I1149 (ad g 0) 16 = w1131 := by rw [eI1149, pp_ne _ _ (Or.inl (ly_ne hy (by decide) (by decide) (by decide)))]; exact ew1131
                have e1153 : I1149 (ad g 0) 1 = L := by rw [eI1149, pp_ne _ _ (Or.inl (ly_ne hy (by decide) (by decide) (by decide)))]; exact e1133
                clear eI1149
                refine WP_aload_n dX11_readThingOf_107 rfl ?_
                refine WP_getr dX11_readThingOf_108 fX11_144 rfl (ly_is hy 0 11 rfl) (rf hr 0 47 29 (by decide)) ?_
                refine WQ_bipush (7) (7) dX11_readThingOf_111 rfl rfl (fun v1154 hv1154 => ?_)
                refine WP_iload_n dX11_readThingOf_113 rfl ?_
                refine WQ_imulK (7) dX11_readThingOf_114 hv1154 (by omega) (by omega) (fun v1155 hv1155 => ?_)
                refine WP_iload_n dX11_readThingOf_115 rfl ?_
                refine WQ_iadd dX11_readThingOf_116 (by omega) (by omega) (fun v1156 hv1156 => ?_)
                refine WQ_iconst (-1) (-1) dX11_readThingOf_117 rfl rfl (fun v1157 hv1157 => ?_)
                refine WQ_iast dX11_readThingOf_118 (ly_is hy 29 13 rfl) (ly_n hy 29 21 rfl) (by omega) (by omega) (fun I1158 eI1158 => ?_)
                have hI1158 : MP g n L I1158 := by rw [eI1158]; exact (mp_w hy hI1149 (c := 29) (mi_r hy hI1149.1 (c := 29) (-1) (0) (999) (by decide) (Or.inl (by decide)) (by decide) (by omega) (by omega)) (by decide) (by decide) (Or.inl (by decide)))
                have e1159 : I1158 (ad g 0) 4 = w1129 := by rw [eI1158, pp_ne _ _ (Or.inl (ly_ne hy (by decide) (by decide) (by decide)))]; exact e1150
                have e1160 : I1158 (ad g 0) 2 = w1130 := by rw [eI1158, pp_ne _ _ (Or.inl (ly_ne hy (by decide) (by decide) (by decide)))]; exact e1151
                have e1161 : I1158 (ad g 0) 16 = w1131 := by rw [eI1158, pp_ne _ _ (Or.inl (ly_ne hy (by decide) (by decide) (by decide)))]; exact e1152
                have e1162 : I1158 (ad g 0) 1 = L := by rw [eI1158, pp_ne _ _ (Or.inl (ly_ne hy (by decide) (by decide) (by decide)))]; exact e1153
                clear eI1158
                refine WP_iinc (ls' := [(0, _), (1, _), (2, _)]) dX11_readThingOf_119 rfl (by decide) rfl ?_
                have hv1163 : (i1126 + Int32.ofInt (1)).toInt = i1126.toInt + (1) := ia_n rfl (by omega) (by omega)
                generalize i1126 + Int32.ofInt (1) = v1163 at hv1163 ⊢
                refine WP_goto 89 dX11_readThingOf_122 rfl ?_
                exact WP_sub (fc rfl (fc rfl (fc rfl fn))) (ihlp89_1131 v1163 I1158 J1128 hI1158 w1129 e1159 w1130 e1160 w1131 e1161 (by omega) (by omega) (by omega) (by omega) (by omega))
          exact WP_sub (fc rfl (fc rfl (fc rfl fn))) (lp89_1131 _ v1125 I1119 J1103 hI1119 w1108 e1122 w1109 e1123 v1062 e1120 (by omega) (by omega) (by omega) (by omega) (Nat.lt_succ_self _))
        · refine WQ_iconst (0) (0) dX11_readThingOf_68 rfl rfl (fun v1164 hv1164 => ?_)
          exact WP_zret dX11_readThingOf_69 rfl (nar_z (by omega)) ⟨⟨hI1102, rfl, (by rw [ew1108, ew1109]; omega)⟩, _, rfl, by omega, by omega⟩
      · refine WQ_iconst (0) (0) dX11_readThingOf_46 rfl rfl (fun v1165 hv1165 => ?_)
        exact WP_zret dX11_readThingOf_47 rfl (nar_z (by omega)) ⟨⟨hI1084, rfl, (by rw [ew1090, ew1091]; omega)⟩, _, rfl, by omega, by omega⟩
  · refine WP_aload_n dX11_readThingOf_8 rfl ?_
    refine WQ_iconst (4) (4) dX11_readThingOf_9 rfl rfl (fun v1166 hv1166 => ?_)
    refine WP_callV1 (k := 11) dX11_readThingOf_10 ⟨⟨⟨by decide, by decide⟩, zX11_bad⟩, lX11_49, by decide, rfl, vX11_bad.1, vX11_bad.2⟩ (ly_is hy 0 11 rfl) (sm_bad2 hy hr hI v1166  (by rw [ew1060, ew1061]; omega)) (Nat.le_of_ble_eq_true rfl) ?_
    intro r I1167 J1168 Ra hq
    obtain ⟨⟨hI1167, ec, ⟨pI1167, sI1167_0_15, sI1167_0_16⟩⟩, v1169, rfl, av1169, bv1169⟩ := hq
    show WP _ _ _ _ (.int _ :: _) _ _ _ _
    rw [ec]
    clear ec Ra
    have e1170 : I1167 (ad g 0) 16 = v1062 := by rw [sI1167_0_16]; exact ev1062
    have e1171 : I1167 (ad g 0) 1 = L := hI1167.1.2
    have b1172 := BT_get hI1167.1.1 0 1 2 (0) (0) (900) (by decide) 1 (by decide) (by decide)
    rw [e1171] at b1172
    obtain ⟨w1173, ew1173⟩ : ∃ w : Int32, I1167 (ad g 0) 4 = w := ⟨_, rfl⟩
    have bw1173 := BT_get hI1167.1.1 0 4 5 (0) (0) (900) (by decide) 4 (by decide) (by decide)
    rw [ew1173] at bw1173
    obtain ⟨w1174, ew1174⟩ : ∃ w : Int32, I1167 (ad g 0) 2 = w := ⟨_, rfl⟩
    have bw1174 := BT_get hI1167.1.1 0 2 3 (0) (0) (900) (by decide) 2 (by decide) (by decide)
    rw [ew1174] at bw1174
    rw [ew1173, ew1174] at pI1167
    exact WP_zret dX11_readThingOf_13 rfl (nar_z (by omega)) ⟨⟨hI1167, rfl, (by rw [ew1173, ew1174]; omega)⟩, _, rfl, by omega, by omega⟩
set_option maxHeartbeats 4000000 in
set_option maxRecDepth 100000 in
theorem sm_readEarns {g : GG} {n : Int} {L : Int32} (hy : Ly g)  {I : pI} {J : pJ} {R : pR} (hr : Rf g R) (hI : MP g n L I)   (hb : (I (ad g 0) 4).toInt ≤ (I (ad g 0) 2).toInt) : SP g mX11_readEarns [.ref (ad g 0)] I J R (fun r I' J' R' => (MP g n L I' ∧ R' = R ∧ (I' (ad g 0) 4).toInt ≤ (I' (ad g 0) 2).toInt) ∧ ∃ v : Int32, r = some (.int v) ∧ 0 ≤ v.toInt ∧ v.toInt ≤ 1) := by
  refine SP_of ⟨by decide, rfl⟩ (Nat.le_of_ble_eq_true rfl) ?_
  have e1175 : I (ad g 0) 1 = L := hI.1.2
  have b1176 := BT_get hI.1.1 0 1 2 (0) (0) (900) (by decide) 1 (by decide) (by decide)
  rw [e1175] at b1176
  obtain ⟨w1177, ew1177⟩ : ∃ w : Int32, I (ad g 0) 4 = w := ⟨_, rfl⟩
  have bw1177 := BT_get hI.1.1 0 4 5 (0) (0) (900) (by decide) 4 (by decide) (by decide)
  rw [ew1177] at bw1177
  obtain ⟨w1178, ew1178⟩ : ∃ w : Int32, I (ad g 0) 2 = w := ⟨_, rfl⟩
  have bw1178 := BT_get hI.1.1 0 2 3 (0) (0) (900) (by decide) 2 (by decide) (by decide)
  rw [ew1178] at bw1178
  rw [ew1177, ew1178] at hb
  refine WP_aload_n dX11_readEarns_0 rfl ?_
  refine WP_callV0 (k := 11) dX11_readEarns_1 ⟨⟨⟨by decide, by decide⟩, zX11_scan⟩, lX11_63, by decide, rfl, vX11_scan.1, vX11_scan.2⟩ (ly_is hy 0 11 rfl) (sm_scan hy hr hI   (by rw [ew1177, ew1178]; omega)) (Nat.le_of_ble_eq_true rfl) ?_
  intro r I1179 J1180 Ra hq
  obtain ⟨⟨hI1179, ec, ⟨pI1179, sI1179_0_7, sI1179_0_15, sI1179_0_16⟩⟩, rfl⟩ := hq
  rw [ec]
  clear ec Ra
  have e1181 : I1179 (ad g 0) 1 = L := hI1179.1.2
  have b1182 := BT_get hI1179.1.1 0 1 2 (0) (0) (900) (by decide) 1 (by decide) (by decide)
  rw [e1181] at b1182
  obtain ⟨w1183, ew1183⟩ : ∃ w : Int32, I1179 (ad g 0) 4 = w := ⟨_, rfl⟩
  have bw1183 := BT_get hI1179.1.1 0 4 5 (0) (0) (900) (by decide) 4 (by decide) (by decide)
  rw [ew1183] at bw1183
  obtain ⟨w1184, ew1184⟩ : ∃ w : Int32, I1179 (ad g 0) 2 = w := ⟨_, rfl⟩
  have bw1184 := BT_get hI1179.1.1 0 2 3 (0) (0) (900) (by decide) 2 (by decide) (by decide)
  rw [ew1184] at bw1184
  rw [ew1183, ew1184] at pI1179
  refine WP_aload_n dX11_readEarns_4 rfl ?_
  refine WP_aload_n dX11_readEarns_5 rfl ?_
  refine WP_getr dX11_readEarns_6 fX11_91 rfl (ly_is hy 0 11 rfl) (rf hr 0 22 4 (by decide)) ?_
  refine WP_aload_n dX11_readEarns_9 rfl ?_
  refine WQ_geti dX11_readEarns_10 fX11_88 rfl (ly_is hy 0 11 rfl) (BT_get hI1179.1.1 0 15 16 (0) (0) (4) (by decide) 15 (by decide) (by decide)) (fun v1185 ev1185 av1185 bv1185 => ?_)
  refine WP_callV2 (k := 11) dX11_readEarns_13 ⟨⟨⟨by decide, by decide⟩, zX11_known⟩, lX11_147, by decide, rfl, vX11_known.1, vX11_known.2⟩ (ly_is hy 0 11 rfl) (sm_known_4 hy hr hI1179 v1185 (by omega) (by omega) (by rw [ew1183, ew1184]; omega)) (Nat.le_of_ble_eq_true rfl) ?_
  intro r I1186 J1187 Ra hq
  obtain ⟨⟨hI1186, ec, ⟨pI1186, sI1186_0_15, sI1186_0_16⟩⟩, v1188, rfl, av1188, bv1188, cv1188⟩ := hq
  show WP _ _ _ _ (.int _ :: _) _ _ _ _
  rw [ec]
  clear ec Ra
  have e1189 : I1186 (ad g 0) 15 = v1185 := by rw [sI1186_0_15]; exact ev1185
  have e1190 : I1186 (ad g 0) 1 = L := hI1186.1.2
  have b1191 := BT_get hI1186.1.1 0 1 2 (0) (0) (900) (by decide) 1 (by decide) (by decide)
  rw [e1190] at b1191
  obtain ⟨w1192, ew1192⟩ : ∃ w : Int32, I1186 (ad g 0) 4 = w := ⟨_, rfl⟩
  have bw1192 := BT_get hI1186.1.1 0 4 5 (0) (0) (900) (by decide) 4 (by decide) (by decide)
  rw [ew1192] at bw1192
  obtain ⟨w1193, ew1193⟩ : ∃ w : Int32, I1186 (ad g 0) 2 = w := ⟨_, rfl⟩
  have bw1193 := BT_get hI1186.1.1 0 2 3 (0) (0) (900) (by decide) 2 (by decide) (by decide)
  rw [ew1193] at bw1193
  rw [ew1192, ew1193] at pI1186
  obtain ⟨w1194, ew1194⟩ : ∃ w : Int32, I1186 (ad g 0) 7 = w := ⟨_, rfl⟩
  have bw1194 := BT_get hI1186.1.1 0 7 8 (-1) (0) (1000) (by decide) 7 (by decide) (by decide)
  rw [ew1194] at bw1194
  rw [ew1194] at cv1188
  refine WQ_if_ne 21 dX11_readEarns_16 rfl (fun c1194 => ?_) (fun c1194 => ?_)
  · refine WP_aload_n dX11_readEarns_21 rfl ?_
    refine WQ_getim dX11_readEarns_22 fX11_56 rfl (ly_is hy 0 11 rfl) ew1194 ?_
    refine WP_istore_n (ls' := [(0, _), (1, _)]) dX11_readEarns_25 (by decide) rfl ?_
    refine WP_aload_n dX11_readEarns_26 rfl ?_
    refine WQ_iconst (0) (0) dX11_readEarns_27 rfl rfl (fun v1196 hv1196 => ?_)
    refine WQ_bipush (6) (6) dX11_readEarns_28 rfl rfl (fun v1197 hv1197 => ?_)
    refine WP_callV2 (k := 11) dX11_readEarns_30 ⟨⟨⟨by decide, by decide⟩, zX11_peek⟩, lX11_59, by decide, rfl, vX11_peek.1, vX11_peek.2⟩ (ly_is hy 0 11 rfl) (sm_peek hy hr hI1186 v1196 v1197 (by omega) (by omega) (by omega) (by omega) (by rw [ew1192, ew1193]; omega)) (Nat.le_of_ble_eq_true rfl) ?_
    intro r I1198 J1199 Ra hq
    obtain ⟨⟨hI1198, ec, ⟨pI1198, sI1198_0_15, sI1198_0_16⟩⟩, v1200, rfl, av1200, bv1200, cv1200⟩ := hq
    show WP _ _ _ _ (.int _ :: _) _ _ _ _
    rw [ec]
    clear ec Ra
    have e1201 : I1198 (ad g 0) 15 = v1185 := by rw [sI1198_0_15]; exact e1189
    have e1202 : I1198 (ad g 0) 1 = L := hI1198.1.2
    have b1203 := BT_get hI1198.1.1 0 1 2 (0) (0) (900) (by decide) 1 (by decide) (by decide)
    rw [e1202] at b1203
    obtain ⟨w1204, ew1204⟩ : ∃ w : Int32, I1198 (ad g 0) 4 = w := ⟨_, rfl⟩
    have bw1204 := BT_get hI1198.1.1 0 4 5 (0) (0) (900) (by decide) 4 (by decide) (by decide)
    rw [ew1204] at bw1204
    obtain ⟨w1205, ew1205⟩ : ∃ w : Int32, I1198 (ad g 0) 2 = w := ⟨_, rfl⟩
    have bw1205 := BT_get hI1198.1.1 0 2 3 (0) (0) (900) (by decide) 2 (by decide) (by decide)
    rw [ew1205] at bw1205
    rw [ew1204, ew1205] at pI1198
    obtain ⟨w1206, ew1206⟩ : ∃ w : Int32, I1198 (ad g 0) 7 = w := ⟨_, rfl⟩
    have bw1206 := BT_get hI1198.1.1 0 7 8 (-1) (0) (1000) (by decide) 7 (by decide) (by decide)
    rw [ew1206] at bw1206
    rw [ew1206] at cv1200
    refine WQ_if_ne 38 dX11_readEarns_33 rfl (fun c1206 => ?_) (fun c1206 => ?_)
    · refine WP_aload_n dX11_readEarns_38 rfl ?_
      refine WP_getr dX11_readEarns_39 fX11_111 rfl (ly_is hy 0 11 rfl) (rf hr 0 52 33 (by decide)) ?_
      refine WP_iload_n dX11_readEarns_42 rfl ?_
      refine WQ_ialdu dX11_readEarns_43 (ly_is hy 33 13 rfl) (ly_n hy 33 4 rfl) (by omega) (by omega) (fun v1208 => ?_)
      refine WP_aload_n dX11_readEarns_44 rfl ?_
      refine WQ_getim dX11_readEarns_45 fX11_56 rfl (ly_is hy 0 11 rfl) ew1206 ?_
      refine WQ_ishru dX11_readEarns_48 (fun v1209 => ?_)
      refine WQ_iconst (1) (1) dX11_readEarns_49 rfl rfl (fun v1210 hv1210 => ?_)
      refine WQ_iandu dX11_readEarns_50 (fun v1211 => ?_)
      refine WQ_iconst (1) (1) dX11_readEarns_51 rfl rfl (fun v1212 hv1212 => ?_)
      refine WQ_icmp_ne 61 dX11_readEarns_52 rfl (fun c1212 => ?_) (fun c1212 => ?_)
      · refine WP_aload_n dX11_readEarns_61 rfl ?_
        refine WP_getr dX11_readEarns_62 fX11_111 rfl (ly_is hy 0 11 rfl) (rf hr 0 52 33 (by decide)) ?_
        refine WP_iload_n dX11_readEarns_65 rfl ?_
        refine WP_dup2 dX11_readEarns_66 rfl rfl ?_
        refine WQ_ialdu dX11_readEarns_67 (ly_is hy 33 13 rfl) (ly_n hy 33 4 rfl) (by omega) (by omega) (fun v1214 => ?_)
        refine WQ_iconst (1) (1) dX11_readEarns_68 rfl rfl (fun v1215 hv1215 => ?_)
        refine WP_aload_n dX11_readEarns_69 rfl ?_
        refine WQ_getim dX11_readEarns_70 fX11_56 rfl (ly_is hy 0 11 rfl) ew1206 ?_
        refine WQ_ishlu dX11_readEarns_73 (fun v1216 => ?_)
        refine WQ_ioru dX11_readEarns_74 (fun v1217 => ?_)
        refine WQ_iast dX11_readEarns_75 (ly_is hy 33 13 rfl) (ly_n hy 33 4 rfl) (by omega) (by omega) (fun I1218 eI1218 => ?_)
        have hI1218 : MP g n L I1218 := by rw [eI1218]; exact (mp_w hy hI1198 (c := 33) (mi_r0 hy hI1198.1 (c := 33) (by decide) (Or.inl (by decide)) (by decide)) (by decide) (by decide) (Or.inl (by decide)))
        have e1219 : I1218 (ad g 0) 15 = v1185 := by rw [eI1218, pp_ne _ _ (Or.inl (ly_ne hy (by decide) (by decide) (by decide)))]; exact e1201
        have e1220 : I1218 (ad g 0) 1 = L := by rw [eI1218, pp_ne _ _ (Or.inl (ly_ne hy (by decide) (by decide) (by decide)))]; exact e1202
        have e1221 : I1218 (ad g 0) 4 = w1204 := by rw [eI1218, pp_ne _ _ (Or.inl (ly_ne hy (by decide) (by decide) (by decide)))]; exact ew1204
        have e1222 : I1218 (ad g 0) 2 = w1205 := by rw [eI1218, pp_ne _ _ (Or.inl (ly_ne hy (by decide) (by decide) (by decide)))]; exact ew1205
        have e1223 : I1218 (ad g 0) 7 = w1206 := by rw [eI1218, pp_ne _ _ (Or.inl (ly_ne hy (by decide) (by decide) (by decide)))]; exact ew1206
        clear eI1218
        refine WQ_bipush (7) (7) dX11_readEarns_76 rfl rfl (fun v1224 hv1224 => ?_)
        refine WP_iload_n dX11_readEarns_78 rfl ?_
        refine WQ_imulK (7) dX11_readEarns_79 hv1224 (by omega) (by omega) (fun v1225 hv1225 => ?_)
        refine WP_aload_n dX11_readEarns_80 rfl ?_
        refine WQ_getim dX11_readEarns_81 fX11_56 rfl (ly_is hy 0 11 rfl) e1223 ?_
        refine WQ_iadd dX11_readEarns_84 (by omega) (by omega) (fun v1226 hv1226 => ?_)
        refine WP_istore_n (ls' := [(0, _), (1, _), (2, _)]) dX11_readEarns_85 (by decide) rfl ?_
        refine WP_aload_n dX11_readEarns_86 rfl ?_
        refine WP_callV0 (k := 11) dX11_readEarns_87 ⟨⟨⟨by decide, by decide⟩, zX11_scan⟩, lX11_63, by decide, rfl, vX11_scan.1, vX11_scan.2⟩ (ly_is hy 0 11 rfl) (sm_scan hy hr hI1218   (by rw [e1221, e1222]; omega)) (Nat.le_of_ble_eq_true rfl) ?_
        intro r I1227 J1228 Ra hq
        obtain ⟨⟨hI1227, ec, ⟨pI1227, sI1227_0_7, sI1227_0_15, sI1227_0_16⟩⟩, rfl⟩ := hq
        rw [ec]
        clear ec Ra
        have e1229 : I1227 (ad g 0) 7 = w1206 := by rw [sI1227_0_7]; exact e1223
        have e1230 : I1227 (ad g 0) 15 = v1185 := by rw [sI1227_0_15]; exact e1219
        have e1231 : I1227 (ad g 0) 1 = L := hI1227.1.2
        have b1232 := BT_get hI1227.1.1 0 1 2 (0) (0) (900) (by decide) 1 (by decide) (by decide)
        rw [e1231] at b1232
        obtain ⟨w1233, ew1233⟩ : ∃ w : Int32, I1227 (ad g 0) 4 = w := ⟨_, rfl⟩
        have bw1233 := BT_get hI1227.1.1 0 4 5 (0) (0) (900) (by decide) 4 (by decide) (by decide)
        rw [ew1233] at bw1233
        obtain ⟨w1234, ew1234⟩ : ∃ w : Int32, I1227 (ad g 0) 2 = w := ⟨_, rfl⟩
        have bw1234 := BT_get hI1227.1.1 0 2 3 (0) (0) (900) (by decide) 2 (by decide) (by decide)
        rw [ew1234] at bw1234
        rw [ew1233, ew1234] at pI1227
        refine WP_aload_n dX11_readEarns_90 rfl ?_
        refine WQ_iconst (1) (1) dX11_readEarns_91 rfl rfl (fun v1235 hv1235 => ?_)
        refine WQ_bipush (20) (20) dX11_readEarns_92 rfl rfl (fun v1236 hv1236 => ?_)
        refine WP_callV2 (k := 11) dX11_readEarns_94 ⟨⟨⟨by decide, by decide⟩, zX11_number⟩, lX11_81, by decide, rfl, vX11_number.1, vX11_number.2⟩ (ly_is hy 0 11 rfl) (sm_number hy hr hI1227 v1235 v1236 (by omega) (by omega) (by omega) (by omega) (by rw [ew1233, ew1234]; omega)) (Nat.le_of_ble_eq_true rfl) ?_
        intro r I1237 J1238 Ra hq
        obtain ⟨⟨hI1237, ec, ⟨pI1237, sI1237_0_15, sI1237_0_16⟩⟩, v1239, rfl, av1239, bv1239, cv1239⟩ := hq
        show WP _ _ _ _ (.int _ :: _) _ _ _ _
        rw [ec]
        clear ec Ra
        have e1240 : I1237 (ad g 0) 15 = v1185 := by rw [sI1237_0_15]; exact e1230
        have e1241 : I1237 (ad g 0) 1 = L := hI1237.1.2
        have b1242 := BT_get hI1237.1.1 0 1 2 (0) (0) (900) (by decide) 1 (by decide) (by decide)
        rw [e1241] at b1242
        obtain ⟨w1243, ew1243⟩ : ∃ w : Int32, I1237 (ad g 0) 4 = w := ⟨_, rfl⟩
        have bw1243 := BT_get hI1237.1.1 0 4 5 (0) (0) (900) (by decide) 4 (by decide) (by decide)
        rw [ew1243] at bw1243
        obtain ⟨w1244, ew1244⟩ : ∃ w : Int32, I1237 (ad g 0) 2 = w := ⟨_, rfl⟩
        have bw1244 := BT_get hI1237.1.1 0 2 3 (0) (0) (900) (by decide) 2 (by decide) (by decide)
        rw [ew1244] at bw1244
        rw [ew1243, ew1244] at pI1237
        obtain ⟨w1245, ew1245⟩ : ∃ w : Int32, I1237 (ad g 0) 7 = w := ⟨_, rfl⟩
        have bw1245 := BT_get hI1237.1.1 0 7 8 (-1) (0) (1000) (by decide) 7 (by decide) (by decide)
        rw [ew1245] at bw1245
        rw [ew1245] at cv1239
        refine WQ_if_ne 102 dX11_readEarns_97 rfl (fun c1245 => ?_) (fun c1245 => ?_)
        · refine WP_aload_n dX11_readEarns_102 rfl ?_
          refine WP_getr dX11_readEarns_103 fX11_114 rfl (ly_is hy 0 11 rfl) (rf hr 0 45 27 (by decide)) ?_
          refine WP_iload_n dX11_readEarns_106 rfl ?_
          refine WP_aload_n dX11_readEarns_107 rfl ?_
          refine WQ_getim dX11_readEarns_108 fX11_56 rfl (ly_is hy 0 11 rfl) ew1245 ?_
          refine WQ_iast dX11_readEarns_111 (ly_is hy 27 13 rfl) (ly_n hy 27 28 rfl) (by omega) (by omega) (fun I1247 eI1247 => ?_)
          have hI1247 : MP g n L I1247 := by rw [eI1247]; exact (mp_w hy hI1237 (c := 27) (mi_r hy hI1237.1 (c := 27) (0) (0) (20) (by decide) (Or.inl (by decide)) (by decide) (by omega) (by omega)) (by decide) (by decide) (Or.inl (by decide)))
          have e1248 : I1247 (ad g 0) 15 = v1185 := by rw [eI1247, pp_ne _ _ (Or.inl (ly_ne hy (by decide) (by decide) (by decide)))]; exact e1240
          have e1249 : I1247 (ad g 0) 1 = L := by rw [eI1247, pp_ne _ _ (Or.inl (ly_ne hy (by decide) (by decide) (by decide)))]; exact e1241
          have e1250 : I1247 (ad g 0) 4 = w1243 := by rw [eI1247, pp_ne _ _ (Or.inl (ly_ne hy (by decide) (by decide) (by decide)))]; exact ew1243
          have e1251 : I1247 (ad g 0) 2 = w1244 := by rw [eI1247, pp_ne _ _ (Or.inl (ly_ne hy (by decide) (by decide) (by decide)))]; exact ew1244
          have e1252 : I1247 (ad g 0) 7 = w1245 := by rw [eI1247, pp_ne _ _ (Or.inl (ly_ne hy (by decide) (by decide) (by decide)))]; exact ew1245
          clear eI1247
          refine WQ_iconst (1) (1) dX11_readEarns_112 rfl rfl (fun v1253 hv1253 => ?_)
          exact WP_zret dX11_readEarns_113 rfl (nar_z (by omega)) ⟨⟨hI1247, rfl, (by rw [e1250, e1251]; omega)⟩, _, rfl, by omega, by omega⟩
        · refine WQ_iconst (0) (0) dX11_readEarns_100 rfl rfl (fun v1254 hv1254 => ?_)
          exact WP_zret dX11_readEarns_101 rfl (nar_z (by omega)) ⟨⟨hI1237, rfl, (by rw [ew1243, ew1244]; omega)⟩, _, rfl, by omega, by omega⟩
      · refine WP_aload_n dX11_readEarns_55 rfl ?_
        refine WQ_iconst (3) (3) dX11_readEarns_56 rfl rfl (fun v1255 hv1255 => ?_)
        refine WP_callV1 (k := 11) dX11_readEarns_57 ⟨⟨⟨by decide, by decide⟩, zX11_bad⟩, lX11_49, by decide, rfl, vX11_bad.1, vX11_bad.2⟩ (ly_is hy 0 11 rfl) (sm_bad2 hy hr hI1198 v1255  (by rw [ew1204, ew1205]; omega)) (Nat.le_of_ble_eq_true rfl) ?_
        intro r I1256 J1257 Ra hq
        obtain ⟨⟨hI1256, ec, ⟨pI1256, sI1256_0_15, sI1256_0_16⟩⟩, v1258, rfl, av1258, bv1258⟩ := hq
        show WP _ _ _ _ (.int _ :: _) _ _ _ _
        rw [ec]
        clear ec Ra
        have e1259 : I1256 (ad g 0) 15 = v1185 := by rw [sI1256_0_15]; exact e1201
        have e1260 : I1256 (ad g 0) 1 = L := hI1256.1.2
        have b1261 := BT_get hI1256.1.1 0 1 2 (0) (0) (900) (by decide) 1 (by decide) (by decide)
        rw [e1260] at b1261
        obtain ⟨w1262, ew1262⟩ : ∃ w : Int32, I1256 (ad g 0) 4 = w := ⟨_, rfl⟩
        have bw1262 := BT_get hI1256.1.1 0 4 5 (0) (0) (900) (by decide) 4 (by decide) (by decide)
        rw [ew1262] at bw1262
        obtain ⟨w1263, ew1263⟩ : ∃ w : Int32, I1256 (ad g 0) 2 = w := ⟨_, rfl⟩
        have bw1263 := BT_get hI1256.1.1 0 2 3 (0) (0) (900) (by decide) 2 (by decide) (by decide)
        rw [ew1263] at bw1263
        rw [ew1262, ew1263] at pI1256
        exact WP_zret dX11_readEarns_60 rfl (nar_z (by omega)) ⟨⟨hI1256, rfl, (by rw [ew1262, ew1263]; omega)⟩, _, rfl, by omega, by omega⟩
    · refine WQ_iconst (0) (0) dX11_readEarns_36 rfl rfl (fun v1264 hv1264 => ?_)
      exact WP_zret dX11_readEarns_37 rfl (nar_z (by omega)) ⟨⟨hI1198, rfl, (by rw [ew1204, ew1205]; omega)⟩, _, rfl, by omega, by omega⟩
  · refine WQ_iconst (0) (0) dX11_readEarns_19 rfl rfl (fun v1265 hv1265 => ?_)
    exact WP_zret dX11_readEarns_20 rfl (nar_z (by omega)) ⟨⟨hI1186, rfl, (by rw [ew1192, ew1193]; omega)⟩, _, rfl, by omega, by omega⟩
set_option maxHeartbeats 4000000 in
set_option maxRecDepth 100000 in
theorem sm_readPrices {g : GG} {n : Int} {L : Int32} (hy : Ly g)  {I : pI} {J : pJ} {R : pR} (hr : Rf g R) (hI : MP g n L I)   (hb : (I (ad g 0) 4).toInt ≤ (I (ad g 0) 2).toInt) : SP g mX11_readPrices [.ref (ad g 0)] I J R (fun r I' J' R' => (MP g n L I' ∧ R' = R ∧ (I' (ad g 0) 4).toInt ≤ (I' (ad g 0) 2).toInt) ∧ ∃ v : Int32, r = some (.int v) ∧ 0 ≤ v.toInt ∧ v.toInt ≤ 1) := by
  refine SP_of ⟨by decide, rfl⟩ (Nat.le_of_ble_eq_true rfl) ?_
  have e1266 : I (ad g 0) 1 = L := hI.1.2
  have b1267 := BT_get hI.1.1 0 1 2 (0) (0) (900) (by decide) 1 (by decide) (by decide)
  rw [e1266] at b1267
  obtain ⟨w1268, ew1268⟩ : ∃ w : Int32, I (ad g 0) 4 = w := ⟨_, rfl⟩
  have bw1268 := BT_get hI.1.1 0 4 5 (0) (0) (900) (by decide) 4 (by decide) (by decide)
  rw [ew1268] at bw1268
  obtain ⟨w1269, ew1269⟩ : ∃ w : Int32, I (ad g 0) 2 = w := ⟨_, rfl⟩
  have bw1269 := BT_get hI.1.1 0 2 3 (0) (0) (900) (by decide) 2 (by decide) (by decide)
  rw [ew1269] at bw1269
  rw [ew1268, ew1269] at hb
  refine WP_aload_n dX11_readPrices_0 rfl ?_
  refine WP_callV0 (k := 11) dX11_readPrices_1 ⟨⟨⟨by decide, by decide⟩, zX11_scan⟩, lX11_63, by decide, rfl, vX11_scan.1, vX11_scan.2⟩ (ly_is hy 0 11 rfl) (sm_scan hy hr hI   (by rw [ew1268, ew1269]; omega)) (Nat.le_of_ble_eq_true rfl) ?_
  intro r I1270 J1271 Ra hq
  obtain ⟨⟨hI1270, ec, ⟨pI1270, sI1270_0_7, sI1270_0_15, sI1270_0_16⟩⟩, rfl⟩ := hq
  rw [ec]
  clear ec Ra
  have e1272 : I1270 (ad g 0) 1 = L := hI1270.1.2
  have b1273 := BT_get hI1270.1.1 0 1 2 (0) (0) (900) (by decide) 1 (by decide) (by decide)
  rw [e1272] at b1273
  obtain ⟨w1274, ew1274⟩ : ∃ w : Int32, I1270 (ad g 0) 4 = w := ⟨_, rfl⟩
  have bw1274 := BT_get hI1270.1.1 0 4 5 (0) (0) (900) (by decide) 4 (by decide) (by decide)
  rw [ew1274] at bw1274
  obtain ⟨w1275, ew1275⟩ : ∃ w : Int32, I1270 (ad g 0) 2 = w := ⟨_, rfl⟩
  have bw1275 := BT_get hI1270.1.1 0 2 3 (0) (0) (900) (by decide) 2 (by decide) (by decide)
  rw [ew1275] at bw1275
  rw [ew1274, ew1275] at pI1270
  refine WP_aload_n dX11_readPrices_4 rfl ?_
  refine WP_aload_n dX11_readPrices_5 rfl ?_
  refine WP_getr dX11_readPrices_6 fX11_129 rfl (ly_is hy 0 11 rfl) (rf hr 0 23 5 (by decide)) ?_
  refine WP_aload_n dX11_readPrices_9 rfl ?_
  refine WQ_geti dX11_readPrices_10 fX11_126 rfl (ly_is hy 0 11 rfl) (BT_get hI1270.1.1 0 16 17 (0) (0) (3) (by decide) 16 (by decide) (by decide)) (fun v1276 ev1276 av1276 bv1276 => ?_)
  refine WP_callV2 (k := 11) dX11_readPrices_13 ⟨⟨⟨by decide, by decide⟩, zX11_known⟩, lX11_147, by decide, rfl, vX11_known.1, vX11_known.2⟩ (ly_is hy 0 11 rfl) (sm_known_5 hy hr hI1270 v1276 (by omega) (by omega) (by rw [ew1274, ew1275]; omega)) (Nat.le_of_ble_eq_true rfl) ?_
  intro r I1277 J1278 Ra hq
  obtain ⟨⟨hI1277, ec, ⟨pI1277, sI1277_0_15, sI1277_0_16⟩⟩, v1279, rfl, av1279, bv1279, cv1279⟩ := hq
  show WP _ _ _ _ (.int _ :: _) _ _ _ _
  rw [ec]
  clear ec Ra
  have e1280 : I1277 (ad g 0) 16 = v1276 := by rw [sI1277_0_16]; exact ev1276
  have e1281 : I1277 (ad g 0) 1 = L := hI1277.1.2
  have b1282 := BT_get hI1277.1.1 0 1 2 (0) (0) (900) (by decide) 1 (by decide) (by decide)
  rw [e1281] at b1282
  obtain ⟨w1283, ew1283⟩ : ∃ w : Int32, I1277 (ad g 0) 4 = w := ⟨_, rfl⟩
  have bw1283 := BT_get hI1277.1.1 0 4 5 (0) (0) (900) (by decide) 4 (by decide) (by decide)
  rw [ew1283] at bw1283
  obtain ⟨w1284, ew1284⟩ : ∃ w : Int32, I1277 (ad g 0) 2 = w := ⟨_, rfl⟩
  have bw1284 := BT_get hI1277.1.1 0 2 3 (0) (0) (900) (by decide) 2 (by decide) (by decide)
  rw [ew1284] at bw1284
  rw [ew1283, ew1284] at pI1277
  obtain ⟨w1285, ew1285⟩ : ∃ w : Int32, I1277 (ad g 0) 7 = w := ⟨_, rfl⟩
  have bw1285 := BT_get hI1277.1.1 0 7 8 (-1) (0) (1000) (by decide) 7 (by decide) (by decide)
  rw [ew1285] at bw1285
  rw [ew1285] at cv1279
  refine WQ_if_ne 21 dX11_readPrices_16 rfl (fun c1285 => ?_) (fun c1285 => ?_)
  · refine WP_aload_n dX11_readPrices_21 rfl ?_
    refine WQ_getim dX11_readPrices_22 fX11_56 rfl (ly_is hy 0 11 rfl) ew1285 ?_
    refine WP_istore_n (ls' := [(0, _), (1, _)]) dX11_readPrices_25 (by decide) rfl ?_
    refine WP_aload_n dX11_readPrices_26 rfl ?_
    refine WQ_iconst (0) (0) dX11_readPrices_27 rfl rfl (fun v1287 hv1287 => ?_)
    refine WQ_bipush (6) (6) dX11_readPrices_28 rfl rfl (fun v1288 hv1288 => ?_)
    refine WP_callV2 (k := 11) dX11_readPrices_30 ⟨⟨⟨by decide, by decide⟩, zX11_peek⟩, lX11_59, by decide, rfl, vX11_peek.1, vX11_peek.2⟩ (ly_is hy 0 11 rfl) (sm_peek hy hr hI1277 v1287 v1288 (by omega) (by omega) (by omega) (by omega) (by rw [ew1283, ew1284]; omega)) (Nat.le_of_ble_eq_true rfl) ?_
    intro r I1289 J1290 Ra hq
    obtain ⟨⟨hI1289, ec, ⟨pI1289, sI1289_0_15, sI1289_0_16⟩⟩, v1291, rfl, av1291, bv1291, cv1291⟩ := hq
    show WP _ _ _ _ (.int _ :: _) _ _ _ _
    rw [ec]
    clear ec Ra
    have e1292 : I1289 (ad g 0) 16 = v1276 := by rw [sI1289_0_16]; exact e1280
    have e1293 : I1289 (ad g 0) 1 = L := hI1289.1.2
    have b1294 := BT_get hI1289.1.1 0 1 2 (0) (0) (900) (by decide) 1 (by decide) (by decide)
    rw [e1293] at b1294
    obtain ⟨w1295, ew1295⟩ : ∃ w : Int32, I1289 (ad g 0) 4 = w := ⟨_, rfl⟩
    have bw1295 := BT_get hI1289.1.1 0 4 5 (0) (0) (900) (by decide) 4 (by decide) (by decide)
    rw [ew1295] at bw1295
    obtain ⟨w1296, ew1296⟩ : ∃ w : Int32, I1289 (ad g 0) 2 = w := ⟨_, rfl⟩
    have bw1296 := BT_get hI1289.1.1 0 2 3 (0) (0) (900) (by decide) 2 (by decide) (by decide)
    rw [ew1296] at bw1296
    rw [ew1295, ew1296] at pI1289
    obtain ⟨w1297, ew1297⟩ : ∃ w : Int32, I1289 (ad g 0) 7 = w := ⟨_, rfl⟩
    have bw1297 := BT_get hI1289.1.1 0 7 8 (-1) (0) (1000) (by decide) 7 (by decide) (by decide)
    rw [ew1297] at bw1297
    rw [ew1297] at cv1291
    refine WQ_if_ne 38 dX11_readPrices_33 rfl (fun c1297 => ?_) (fun c1297 => ?_)
    · refine WP_aload_n dX11_readPrices_38 rfl ?_
      refine WP_getr dX11_readPrices_39 fX11_138 rfl (ly_is hy 0 11 rfl) (rf hr 0 53 34 (by decide)) ?_
      refine WP_iload_n dX11_readPrices_42 rfl ?_
      refine WQ_ialdu dX11_readPrices_43 (ly_is hy 34 13 rfl) (ly_n hy 34 3 rfl) (by omega) (by omega) (fun v1299 => ?_)
      refine WP_aload_n dX11_readPrices_44 rfl ?_
      refine WQ_getim dX11_readPrices_45 fX11_56 rfl (ly_is hy 0 11 rfl) ew1297 ?_
      refine WQ_ishru dX11_readPrices_48 (fun v1300 => ?_)
      refine WQ_iconst (1) (1) dX11_readPrices_49 rfl rfl (fun v1301 hv1301 => ?_)
      refine WQ_iandu dX11_readPrices_50 (fun v1302 => ?_)
      refine WQ_iconst (1) (1) dX11_readPrices_51 rfl rfl (fun v1303 hv1303 => ?_)
      refine WQ_icmp_ne 61 dX11_readPrices_52 rfl (fun c1303 => ?_) (fun c1303 => ?_)
      · refine WP_aload_n dX11_readPrices_61 rfl ?_
        refine WP_getr dX11_readPrices_62 fX11_138 rfl (ly_is hy 0 11 rfl) (rf hr 0 53 34 (by decide)) ?_
        refine WP_iload_n dX11_readPrices_65 rfl ?_
        refine WP_dup2 dX11_readPrices_66 rfl rfl ?_
        refine WQ_ialdu dX11_readPrices_67 (ly_is hy 34 13 rfl) (ly_n hy 34 3 rfl) (by omega) (by omega) (fun v1305 => ?_)
        refine WQ_iconst (1) (1) dX11_readPrices_68 rfl rfl (fun v1306 hv1306 => ?_)
        refine WP_aload_n dX11_readPrices_69 rfl ?_
        refine WQ_getim dX11_readPrices_70 fX11_56 rfl (ly_is hy 0 11 rfl) ew1297 ?_
        refine WQ_ishlu dX11_readPrices_73 (fun v1307 => ?_)
        refine WQ_ioru dX11_readPrices_74 (fun v1308 => ?_)
        refine WQ_iast dX11_readPrices_75 (ly_is hy 34 13 rfl) (ly_n hy 34 3 rfl) (by omega) (by omega) (fun I1309 eI1309 => ?_)
        have hI1309 : MP g n L I1309 := by rw [eI1309]; exact (mp_w hy hI1289 (c := 34) (mi_r0 hy hI1289.1 (c := 34) (by decide) (Or.inl (by decide)) (by decide)) (by decide) (by decide) (Or.inl (by decide)))
        have e1310 : I1309 (ad g 0) 16 = v1276 := by rw [eI1309, pp_ne _ _ (Or.inl (ly_ne hy (by decide) (by decide) (by decide)))]; exact e1292
        have e1311 : I1309 (ad g 0) 1 = L := by rw [eI1309, pp_ne _ _ (Or.inl (ly_ne hy (by decide) (by decide) (by decide)))]; exact e1293
        have e1312 : I1309 (ad g 0) 4 = w1295 := by rw [eI1309, pp_ne _ _ (Or.inl (ly_ne hy (by decide) (by decide) (by decide)))]; exact ew1295
        have e1313 : I1309 (ad g 0) 2 = w1296 := by rw [eI1309, pp_ne _ _ (Or.inl (ly_ne hy (by decide) (by decide) (by decide)))]; exact ew1296
        have e1314 : I1309 (ad g 0) 7 = w1297 := by rw [eI1309, pp_ne _ _ (Or.inl (ly_ne hy (by decide) (by decide) (by decide)))]; exact ew1297
        clear eI1309
        refine WQ_bipush (7) (7) dX11_readPrices_76 rfl rfl (fun v1315 hv1315 => ?_)
        refine WP_iload_n dX11_readPrices_78 rfl ?_
        refine WQ_imulK (7) dX11_readPrices_79 hv1315 (by omega) (by omega) (fun v1316 hv1316 => ?_)
        refine WP_aload_n dX11_readPrices_80 rfl ?_
        refine WQ_getim dX11_readPrices_81 fX11_56 rfl (ly_is hy 0 11 rfl) e1314 ?_
        refine WQ_iadd dX11_readPrices_84 (by omega) (by omega) (fun v1317 hv1317 => ?_)
        refine WP_istore_n (ls' := [(0, _), (1, _), (2, _)]) dX11_readPrices_85 (by decide) rfl ?_
        refine WP_aload_n dX11_readPrices_86 rfl ?_
        refine WP_callV0 (k := 11) dX11_readPrices_87 ⟨⟨⟨by decide, by decide⟩, zX11_scan⟩, lX11_63, by decide, rfl, vX11_scan.1, vX11_scan.2⟩ (ly_is hy 0 11 rfl) (sm_scan hy hr hI1309   (by rw [e1312, e1313]; omega)) (Nat.le_of_ble_eq_true rfl) ?_
        intro r I1318 J1319 Ra hq
        obtain ⟨⟨hI1318, ec, ⟨pI1318, sI1318_0_7, sI1318_0_15, sI1318_0_16⟩⟩, rfl⟩ := hq
        rw [ec]
        clear ec Ra
        have e1320 : I1318 (ad g 0) 7 = w1297 := by rw [sI1318_0_7]; exact e1314
        have e1321 : I1318 (ad g 0) 16 = v1276 := by rw [sI1318_0_16]; exact e1310
        have e1322 : I1318 (ad g 0) 1 = L := hI1318.1.2
        have b1323 := BT_get hI1318.1.1 0 1 2 (0) (0) (900) (by decide) 1 (by decide) (by decide)
        rw [e1322] at b1323
        obtain ⟨w1324, ew1324⟩ : ∃ w : Int32, I1318 (ad g 0) 4 = w := ⟨_, rfl⟩
        have bw1324 := BT_get hI1318.1.1 0 4 5 (0) (0) (900) (by decide) 4 (by decide) (by decide)
        rw [ew1324] at bw1324
        obtain ⟨w1325, ew1325⟩ : ∃ w : Int32, I1318 (ad g 0) 2 = w := ⟨_, rfl⟩
        have bw1325 := BT_get hI1318.1.1 0 2 3 (0) (0) (900) (by decide) 2 (by decide) (by decide)
        rw [ew1325] at bw1325
        rw [ew1324, ew1325] at pI1318
        refine WP_aload_n dX11_readPrices_90 rfl ?_
        refine WQ_iconst (1) (1) dX11_readPrices_91 rfl rfl (fun v1326 hv1326 => ?_)
        refine WQ_bipush (20) (20) dX11_readPrices_92 rfl rfl (fun v1327 hv1327 => ?_)
        refine WP_callV2 (k := 11) dX11_readPrices_94 ⟨⟨⟨by decide, by decide⟩, zX11_number⟩, lX11_81, by decide, rfl, vX11_number.1, vX11_number.2⟩ (ly_is hy 0 11 rfl) (sm_number hy hr hI1318 v1326 v1327 (by omega) (by omega) (by omega) (by omega) (by rw [ew1324, ew1325]; omega)) (Nat.le_of_ble_eq_true rfl) ?_
        intro r I1328 J1329 Ra hq
        obtain ⟨⟨hI1328, ec, ⟨pI1328, sI1328_0_15, sI1328_0_16⟩⟩, v1330, rfl, av1330, bv1330, cv1330⟩ := hq
        show WP _ _ _ _ (.int _ :: _) _ _ _ _
        rw [ec]
        clear ec Ra
        have e1331 : I1328 (ad g 0) 16 = v1276 := by rw [sI1328_0_16]; exact e1321
        have e1332 : I1328 (ad g 0) 1 = L := hI1328.1.2
        have b1333 := BT_get hI1328.1.1 0 1 2 (0) (0) (900) (by decide) 1 (by decide) (by decide)
        rw [e1332] at b1333
        obtain ⟨w1334, ew1334⟩ : ∃ w : Int32, I1328 (ad g 0) 4 = w := ⟨_, rfl⟩
        have bw1334 := BT_get hI1328.1.1 0 4 5 (0) (0) (900) (by decide) 4 (by decide) (by decide)
        rw [ew1334] at bw1334
        obtain ⟨w1335, ew1335⟩ : ∃ w : Int32, I1328 (ad g 0) 2 = w := ⟨_, rfl⟩
        have bw1335 := BT_get hI1328.1.1 0 2 3 (0) (0) (900) (by decide) 2 (by decide) (by decide)
        rw [ew1335] at bw1335
        rw [ew1334, ew1335] at pI1328
        obtain ⟨w1336, ew1336⟩ : ∃ w : Int32, I1328 (ad g 0) 7 = w := ⟨_, rfl⟩
        have bw1336 := BT_get hI1328.1.1 0 7 8 (-1) (0) (1000) (by decide) 7 (by decide) (by decide)
        rw [ew1336] at bw1336
        rw [ew1336] at cv1330
        refine WQ_if_ne 102 dX11_readPrices_97 rfl (fun c1336 => ?_) (fun c1336 => ?_)
        · refine WP_aload_n dX11_readPrices_102 rfl ?_
          refine WP_getr dX11_readPrices_103 fX11_141 rfl (ly_is hy 0 11 rfl) (rf hr 0 46 28 (by decide)) ?_
          refine WP_iload_n dX11_readPrices_106 rfl ?_
          refine WP_aload_n dX11_readPrices_107 rfl ?_
          refine WQ_getim dX11_readPrices_108 fX11_56 rfl (ly_is hy 0 11 rfl) ew1336 ?_
          refine WQ_iast dX11_readPrices_111 (ly_is hy 28 13 rfl) (ly_n hy 28 21 rfl) (by omega) (by omega) (fun I1338 eI1338 => ?_)
          have hI1338 : MP g n L I1338 := by rw [eI1338]; exact (mp_w hy hI1328 (c := 28) (mi_r hy hI1328.1 (c := 28) (0) (0) (20) (by decide) (Or.inl (by decide)) (by decide) (by omega) (by omega)) (by decide) (by decide) (Or.inl (by decide)))
          have e1339 : I1338 (ad g 0) 16 = v1276 := by rw [eI1338, pp_ne _ _ (Or.inl (ly_ne hy (by decide) (by decide) (by decide)))]; exact e1331
          have e1340 : I1338 (ad g 0) 1 = L := by rw [eI1338, pp_ne _ _ (Or.inl (ly_ne hy (by decide) (by decide) (by decide)))]; exact e1332
          have e1341 : I1338 (ad g 0) 4 = w1334 := by rw [eI1338, pp_ne _ _ (Or.inl (ly_ne hy (by decide) (by decide) (by decide)))]; exact ew1334
          have e1342 : I1338 (ad g 0) 2 = w1335 := by rw [eI1338, pp_ne _ _ (Or.inl (ly_ne hy (by decide) (by decide) (by decide)))]; exact ew1335
          have e1343 : I1338 (ad g 0) 7 = w1336 := by rw [eI1338, pp_ne _ _ (Or.inl (ly_ne hy (by decide) (by decide) (by decide)))]; exact ew1336
          clear eI1338
          refine WQ_iconst (1) (1) dX11_readPrices_112 rfl rfl (fun v1344 hv1344 => ?_)
          exact WP_zret dX11_readPrices_113 rfl (nar_z (by omega)) ⟨⟨hI1338, rfl, (by rw [e1341, e1342]; omega)⟩, _, rfl, by omega, by omega⟩
        · refine WQ_iconst (0) (0) dX11_readPrices_100 rfl rfl (fun v1345 hv1345 => ?_)
          exact WP_zret dX11_readPrices_101 rfl (nar_z (by omega)) ⟨⟨hI1328, rfl, (by rw [ew1334, ew1335]; omega)⟩, _, rfl, by omega, by omega⟩
      · refine WP_aload_n dX11_readPrices_55 rfl ?_
        refine WQ_iconst (3) (3) dX11_readPrices_56 rfl rfl (fun v1346 hv1346 => ?_)
        refine WP_callV1 (k := 11) dX11_readPrices_57 ⟨⟨⟨by decide, by decide⟩, zX11_bad⟩, lX11_49, by decide, rfl, vX11_bad.1, vX11_bad.2⟩ (ly_is hy 0 11 rfl) (sm_bad2 hy hr hI1289 v1346  (by rw [ew1295, ew1296]; omega)) (Nat.le_of_ble_eq_true rfl) ?_
        intro r I1347 J1348 Ra hq
        obtain ⟨⟨hI1347, ec, ⟨pI1347, sI1347_0_15, sI1347_0_16⟩⟩, v1349, rfl, av1349, bv1349⟩ := hq
        show WP _ _ _ _ (.int _ :: _) _ _ _ _
        rw [ec]
        clear ec Ra
        have e1350 : I1347 (ad g 0) 16 = v1276 := by rw [sI1347_0_16]; exact e1292
        have e1351 : I1347 (ad g 0) 1 = L := hI1347.1.2
        have b1352 := BT_get hI1347.1.1 0 1 2 (0) (0) (900) (by decide) 1 (by decide) (by decide)
        rw [e1351] at b1352
        obtain ⟨w1353, ew1353⟩ : ∃ w : Int32, I1347 (ad g 0) 4 = w := ⟨_, rfl⟩
        have bw1353 := BT_get hI1347.1.1 0 4 5 (0) (0) (900) (by decide) 4 (by decide) (by decide)
        rw [ew1353] at bw1353
        obtain ⟨w1354, ew1354⟩ : ∃ w : Int32, I1347 (ad g 0) 2 = w := ⟨_, rfl⟩
        have bw1354 := BT_get hI1347.1.1 0 2 3 (0) (0) (900) (by decide) 2 (by decide) (by decide)
        rw [ew1354] at bw1354
        rw [ew1353, ew1354] at pI1347
        exact WP_zret dX11_readPrices_60 rfl (nar_z (by omega)) ⟨⟨hI1347, rfl, (by rw [ew1353, ew1354]; omega)⟩, _, rfl, by omega, by omega⟩
    · refine WQ_iconst (0) (0) dX11_readPrices_36 rfl rfl (fun v1355 hv1355 => ?_)
      exact WP_zret dX11_readPrices_37 rfl (nar_z (by omega)) ⟨⟨hI1289, rfl, (by rw [ew1295, ew1296]; omega)⟩, _, rfl, by omega, by omega⟩
  · refine WQ_iconst (0) (0) dX11_readPrices_19 rfl rfl (fun v1356 hv1356 => ?_)
    exact WP_zret dX11_readPrices_20 rfl (nar_z (by omega)) ⟨⟨hI1277, rfl, (by rw [ew1283, ew1284]; omega)⟩, _, rfl, by omega, by omega⟩
set_option maxHeartbeats 4000000 in
set_option maxRecDepth 100000 in
theorem sm_readMakes {g : GG} {n : Int} {L : Int32} (hy : Ly g)  {I : pI} {J : pJ} {R : pR} (hr : Rf g R) (hI : MP g n L I)   (hb : (I (ad g 0) 4).toInt ≤ (I (ad g 0) 2).toInt) : SP g mX11_readMakes [.ref (ad g 0)] I J R (fun r I' J' R' => (MP g n L I' ∧ R' = R ∧ (I' (ad g 0) 4).toInt ≤ (I' (ad g 0) 2).toInt) ∧ ∃ v : Int32, r = some (.int v) ∧ 0 ≤ v.toInt ∧ v.toInt ≤ 1) := by
  refine SP_of ⟨by decide, rfl⟩ (Nat.le_of_ble_eq_true rfl) ?_
  have e1357 : I (ad g 0) 1 = L := hI.1.2
  have b1358 := BT_get hI.1.1 0 1 2 (0) (0) (900) (by decide) 1 (by decide) (by decide)
  rw [e1357] at b1358
  obtain ⟨w1359, ew1359⟩ : ∃ w : Int32, I (ad g 0) 4 = w := ⟨_, rfl⟩
  have bw1359 := BT_get hI.1.1 0 4 5 (0) (0) (900) (by decide) 4 (by decide) (by decide)
  rw [ew1359] at bw1359
  obtain ⟨w1360, ew1360⟩ : ∃ w : Int32, I (ad g 0) 2 = w := ⟨_, rfl⟩
  have bw1360 := BT_get hI.1.1 0 2 3 (0) (0) (900) (by decide) 2 (by decide) (by decide)
  rw [ew1360] at bw1360
  rw [ew1359, ew1360] at hb
  refine WP_aload_n dX11_readMakes_0 rfl ?_
  refine WP_callV0 (k := 11) dX11_readMakes_1 ⟨⟨⟨by decide, by decide⟩, zX11_scan⟩, lX11_63, by decide, rfl, vX11_scan.1, vX11_scan.2⟩ (ly_is hy 0 11 rfl) (sm_scan hy hr hI   (by rw [ew1359, ew1360]; omega)) (Nat.le_of_ble_eq_true rfl) ?_
  intro r I1361 J1362 Ra hq
  obtain ⟨⟨hI1361, ec, ⟨pI1361, sI1361_0_7, sI1361_0_15, sI1361_0_16⟩⟩, rfl⟩ := hq
  rw [ec]
  clear ec Ra
  have e1363 : I1361 (ad g 0) 1 = L := hI1361.1.2
  have b1364 := BT_get hI1361.1.1 0 1 2 (0) (0) (900) (by decide) 1 (by decide) (by decide)
  rw [e1363] at b1364
  obtain ⟨w1365, ew1365⟩ : ∃ w : Int32, I1361 (ad g 0) 4 = w := ⟨_, rfl⟩
  have bw1365 := BT_get hI1361.1.1 0 4 5 (0) (0) (900) (by decide) 4 (by decide) (by decide)
  rw [ew1365] at bw1365
  obtain ⟨w1366, ew1366⟩ : ∃ w : Int32, I1361 (ad g 0) 2 = w := ⟨_, rfl⟩
  have bw1366 := BT_get hI1361.1.1 0 2 3 (0) (0) (900) (by decide) 2 (by decide) (by decide)
  rw [ew1366] at bw1366
  rw [ew1365, ew1366] at pI1361
  refine WP_aload_n dX11_readMakes_4 rfl ?_
  refine WP_aload_n dX11_readMakes_5 rfl ?_
  refine WP_getr dX11_readMakes_6 fX11_129 rfl (ly_is hy 0 11 rfl) (rf hr 0 23 5 (by decide)) ?_
  refine WP_aload_n dX11_readMakes_9 rfl ?_
  refine WQ_geti dX11_readMakes_10 fX11_126 rfl (ly_is hy 0 11 rfl) (BT_get hI1361.1.1 0 16 17 (0) (0) (3) (by decide) 16 (by decide) (by decide)) (fun v1367 ev1367 av1367 bv1367 => ?_)
  refine WP_callV2 (k := 11) dX11_readMakes_13 ⟨⟨⟨by decide, by decide⟩, zX11_known⟩, lX11_147, by decide, rfl, vX11_known.1, vX11_known.2⟩ (ly_is hy 0 11 rfl) (sm_known_5 hy hr hI1361 v1367 (by omega) (by omega) (by rw [ew1365, ew1366]; omega)) (Nat.le_of_ble_eq_true rfl) ?_
  intro r I1368 J1369 Ra hq
  obtain ⟨⟨hI1368, ec, ⟨pI1368, sI1368_0_15, sI1368_0_16⟩⟩, v1370, rfl, av1370, bv1370, cv1370⟩ := hq
  show WP _ _ _ _ (.int _ :: _) _ _ _ _
  rw [ec]
  clear ec Ra
  have e1371 : I1368 (ad g 0) 16 = v1367 := by rw [sI1368_0_16]; exact ev1367
  have e1372 : I1368 (ad g 0) 1 = L := hI1368.1.2
  have b1373 := BT_get hI1368.1.1 0 1 2 (0) (0) (900) (by decide) 1 (by decide) (by decide)
  rw [e1372] at b1373
  obtain ⟨w1374, ew1374⟩ : ∃ w : Int32, I1368 (ad g 0) 4 = w := ⟨_, rfl⟩
  have bw1374 := BT_get hI1368.1.1 0 4 5 (0) (0) (900) (by decide) 4 (by decide) (by decide)
  rw [ew1374] at bw1374
  obtain ⟨w1375, ew1375⟩ : ∃ w : Int32, I1368 (ad g 0) 2 = w := ⟨_, rfl⟩
  have bw1375 := BT_get hI1368.1.1 0 2 3 (0) (0) (900) (by decide) 2 (by decide) (by decide)
  rw [ew1375] at bw1375
  rw [ew1374, ew1375] at pI1368
  obtain ⟨w1376, ew1376⟩ : ∃ w : Int32, I1368 (ad g 0) 7 = w := ⟨_, rfl⟩
  have bw1376 := BT_get hI1368.1.1 0 7 8 (-1) (0) (1000) (by decide) 7 (by decide) (by decide)
  rw [ew1376] at bw1376
  rw [ew1376] at cv1370
  refine WQ_if_ne 21 dX11_readMakes_16 rfl (fun c1376 => ?_) (fun c1376 => ?_)
  · refine WP_aload_n dX11_readMakes_21 rfl ?_
    refine WQ_getim dX11_readMakes_22 fX11_56 rfl (ly_is hy 0 11 rfl) ew1376 ?_
    refine WP_istore_n (ls' := [(0, _), (1, _)]) dX11_readMakes_25 (by decide) rfl ?_
    refine WP_aload_n dX11_readMakes_26 rfl ?_
    refine WQ_iconst (0) (0) dX11_readMakes_27 rfl rfl (fun v1378 hv1378 => ?_)
    refine WQ_bipush (6) (6) dX11_readMakes_28 rfl rfl (fun v1379 hv1379 => ?_)
    refine WP_callV2 (k := 11) dX11_readMakes_30 ⟨⟨⟨by decide, by decide⟩, zX11_peek⟩, lX11_59, by decide, rfl, vX11_peek.1, vX11_peek.2⟩ (ly_is hy 0 11 rfl) (sm_peek hy hr hI1368 v1378 v1379 (by omega) (by omega) (by omega) (by omega) (by rw [ew1374, ew1375]; omega)) (Nat.le_of_ble_eq_true rfl) ?_
    intro r I1380 J1381 Ra hq
    obtain ⟨⟨hI1380, ec, ⟨pI1380, sI1380_0_15, sI1380_0_16⟩⟩, v1382, rfl, av1382, bv1382, cv1382⟩ := hq
    show WP _ _ _ _ (.int _ :: _) _ _ _ _
    rw [ec]
    clear ec Ra
    have e1383 : I1380 (ad g 0) 16 = v1367 := by rw [sI1380_0_16]; exact e1371
    have e1384 : I1380 (ad g 0) 1 = L := hI1380.1.2
    have b1385 := BT_get hI1380.1.1 0 1 2 (0) (0) (900) (by decide) 1 (by decide) (by decide)
    rw [e1384] at b1385
    obtain ⟨w1386, ew1386⟩ : ∃ w : Int32, I1380 (ad g 0) 4 = w := ⟨_, rfl⟩
    have bw1386 := BT_get hI1380.1.1 0 4 5 (0) (0) (900) (by decide) 4 (by decide) (by decide)
    rw [ew1386] at bw1386
    obtain ⟨w1387, ew1387⟩ : ∃ w : Int32, I1380 (ad g 0) 2 = w := ⟨_, rfl⟩
    have bw1387 := BT_get hI1380.1.1 0 2 3 (0) (0) (900) (by decide) 2 (by decide) (by decide)
    rw [ew1387] at bw1387
    rw [ew1386, ew1387] at pI1380
    obtain ⟨w1388, ew1388⟩ : ∃ w : Int32, I1380 (ad g 0) 7 = w := ⟨_, rfl⟩
    have bw1388 := BT_get hI1380.1.1 0 7 8 (-1) (0) (1000) (by decide) 7 (by decide) (by decide)
    rw [ew1388] at bw1388
    rw [ew1388] at cv1382
    refine WQ_if_ne 38 dX11_readMakes_33 rfl (fun c1388 => ?_) (fun c1388 => ?_)
    · refine WQ_bipush (7) (7) dX11_readMakes_38 rfl rfl (fun v1390 hv1390 => ?_)
      refine WP_iload_n dX11_readMakes_40 rfl ?_
      refine WQ_imulK (7) dX11_readMakes_41 hv1390 (by omega) (by omega) (fun v1391 hv1391 => ?_)
      refine WP_aload_n dX11_readMakes_42 rfl ?_
      refine WQ_getim dX11_readMakes_43 fX11_56 rfl (ly_is hy 0 11 rfl) ew1388 ?_
      refine WQ_iadd dX11_readMakes_46 (by omega) (by omega) (fun v1392 hv1392 => ?_)
      refine WP_istore_n (ls' := [(0, _), (1, _), (2, _)]) dX11_readMakes_47 (by decide) rfl ?_
      refine WP_aload_n dX11_readMakes_48 rfl ?_
      refine WP_getr dX11_readMakes_49 fX11_144 rfl (ly_is hy 0 11 rfl) (rf hr 0 47 29 (by decide)) ?_
      refine WP_iload_n dX11_readMakes_52 rfl ?_
      refine WQ_iald dX11_readMakes_53 (ly_is hy 29 13 rfl) (ly_n hy 29 21 rfl) (by omega) (by omega) (fun q hq => BT_get hI1380.1.1 29 0 21 (-1) (0) (999) (by decide) q (Nat.zero_le _) hq) (fun v1393 av1393 bv1393 ev1393 => ?_)
      clear ev1393
      refine WQ_iconst (-1) (-1) dX11_readMakes_54 rfl rfl (fun v1394 hv1394 => ?_)
      refine WQ_icmp_eq 64 dX11_readMakes_55 rfl (fun c1394 => ?_) (fun c1394 => ?_)
      · refine WP_aload_n dX11_readMakes_64 rfl ?_
        refine WP_callV0 (k := 11) dX11_readMakes_65 ⟨⟨⟨by decide, by decide⟩, zX11_scan⟩, lX11_63, by decide, rfl, vX11_scan.1, vX11_scan.2⟩ (ly_is hy 0 11 rfl) (sm_scan hy hr hI1380   (by rw [ew1386, ew1387]; omega)) (Nat.le_of_ble_eq_true rfl) ?_
        intro r I1396 J1397 Ra hq
        obtain ⟨⟨hI1396, ec, ⟨pI1396, sI1396_0_7, sI1396_0_15, sI1396_0_16⟩⟩, rfl⟩ := hq
        rw [ec]
        clear ec Ra
        have e1398 : I1396 (ad g 0) 7 = w1388 := by rw [sI1396_0_7]; exact ew1388
        have e1399 : I1396 (ad g 0) 16 = v1367 := by rw [sI1396_0_16]; exact e1383
        have e1400 : I1396 (ad g 0) 1 = L := hI1396.1.2
        have b1401 := BT_get hI1396.1.1 0 1 2 (0) (0) (900) (by decide) 1 (by decide) (by decide)
        rw [e1400] at b1401
        obtain ⟨w1402, ew1402⟩ : ∃ w : Int32, I1396 (ad g 0) 4 = w := ⟨_, rfl⟩
        have bw1402 := BT_get hI1396.1.1 0 4 5 (0) (0) (900) (by decide) 4 (by decide) (by decide)
        rw [ew1402] at bw1402
        obtain ⟨w1403, ew1403⟩ : ∃ w : Int32, I1396 (ad g 0) 2 = w := ⟨_, rfl⟩
        have bw1403 := BT_get hI1396.1.1 0 2 3 (0) (0) (900) (by decide) 2 (by decide) (by decide)
        rw [ew1403] at bw1403
        rw [ew1402, ew1403] at pI1396
        refine WP_aload_n dX11_readMakes_68 rfl ?_
        refine WQ_iconst (0) (0) dX11_readMakes_69 rfl rfl (fun v1404 hv1404 => ?_)
        refine WQ_sipush (999) (999) dX11_readMakes_70 rfl rfl (fun v1405 hv1405 => ?_)
        refine WP_callV2 (k := 11) dX11_readMakes_73 ⟨⟨⟨by decide, by decide⟩, zX11_number⟩, lX11_81, by decide, rfl, vX11_number.1, vX11_number.2⟩ (ly_is hy 0 11 rfl) (sm_number hy hr hI1396 v1404 v1405 (by omega) (by omega) (by omega) (by omega) (by rw [ew1402, ew1403]; omega)) (Nat.le_of_ble_eq_true rfl) ?_
        intro r I1406 J1407 Ra hq
        obtain ⟨⟨hI1406, ec, ⟨pI1406, sI1406_0_15, sI1406_0_16⟩⟩, v1408, rfl, av1408, bv1408, cv1408⟩ := hq
        show WP _ _ _ _ (.int _ :: _) _ _ _ _
        rw [ec]
        clear ec Ra
        have e1409 : I1406 (ad g 0) 16 = v1367 := by rw [sI1406_0_16]; exact e1399
        have e1410 : I1406 (ad g 0) 1 = L := hI1406.1.2
        have b1411 := BT_get hI1406.1.1 0 1 2 (0) (0) (900) (by decide) 1 (by decide) (by decide)
        rw [e1410] at b1411
        obtain ⟨w1412, ew1412⟩ : ∃ w : Int32, I1406 (ad g 0) 4 = w := ⟨_, rfl⟩
        have bw1412 := BT_get hI1406.1.1 0 4 5 (0) (0) (900) (by decide) 4 (by decide) (by decide)
        rw [ew1412] at bw1412
        obtain ⟨w1413, ew1413⟩ : ∃ w : Int32, I1406 (ad g 0) 2 = w := ⟨_, rfl⟩
        have bw1413 := BT_get hI1406.1.1 0 2 3 (0) (0) (900) (by decide) 2 (by decide) (by decide)
        rw [ew1413] at bw1413
        rw [ew1412, ew1413] at pI1406
        obtain ⟨w1414, ew1414⟩ : ∃ w : Int32, I1406 (ad g 0) 7 = w := ⟨_, rfl⟩
        have bw1414 := BT_get hI1406.1.1 0 7 8 (-1) (0) (1000) (by decide) 7 (by decide) (by decide)
        rw [ew1414] at bw1414
        rw [ew1414] at cv1408
        refine WQ_if_ne 81 dX11_readMakes_76 rfl (fun c1414 => ?_) (fun c1414 => ?_)
        · refine WP_aload_n dX11_readMakes_81 rfl ?_
          refine WP_getr dX11_readMakes_82 fX11_144 rfl (ly_is hy 0 11 rfl) (rf hr 0 47 29 (by decide)) ?_
          refine WP_iload_n dX11_readMakes_85 rfl ?_
          refine WP_aload_n dX11_readMakes_86 rfl ?_
          refine WQ_getim dX11_readMakes_87 fX11_56 rfl (ly_is hy 0 11 rfl) ew1414 ?_
          refine WQ_iast dX11_readMakes_90 (ly_is hy 29 13 rfl) (ly_n hy 29 21 rfl) (by omega) (by omega) (fun I1416 eI1416 => ?_)
          have hI1416 : MP g n L I1416 := by rw [eI1416]; exact (mp_w hy hI1406 (c := 29) (mi_r hy hI1406.1 (c := 29) (-1) (0) (999) (by decide) (Or.inl (by decide)) (by decide) (by omega) (by omega)) (by decide) (by decide) (Or.inl (by decide)))
          have e1417 : I1416 (ad g 0) 16 = v1367 := by rw [eI1416, pp_ne _ _ (Or.inl (ly_ne hy (by decide) (by decide) (by decide)))]; exact e1409
          have e1418 : I1416 (ad g 0) 1 = L := by rw [eI1416, pp_ne _ _ (Or.inl (ly_ne hy (by decide) (by decide) (by decide)))]; exact e1410
          have e1419 : I1416 (ad g 0) 4 = w1412 := by rw [eI1416, pp_ne _ _ (Or.inl (ly_ne hy (by decide) (by decide) (by decide)))]; exact ew1412
          have e1420 : I1416 (ad g 0) 2 = w1413 := by rw [eI1416, pp_ne _ _ (Or.inl (ly_ne hy (by decide) (by decide) (by decide)))]; exact ew1413
          have e1421 : I1416 (ad g 0) 7 = w1414 := by rw [eI1416, pp_ne _ _ (Or.inl (ly_ne hy (by decide) (by decide) (by decide)))]; exact ew1414
          clear eI1416
          refine WQ_iconst (1) (1) dX11_readMakes_91 rfl rfl (fun v1422 hv1422 => ?_)
          exact WP_zret dX11_readMakes_92 rfl (nar_z (by omega)) ⟨⟨hI1416, rfl, (by rw [e1419, e1420]; omega)⟩, _, rfl, by omega, by omega⟩
        · refine WQ_iconst (0) (0) dX11_readMakes_79 rfl rfl (fun v1423 hv1423 => ?_)
          exact WP_zret dX11_readMakes_80 rfl (nar_z (by omega)) ⟨⟨hI1406, rfl, (by rw [ew1412, ew1413]; omega)⟩, _, rfl, by omega, by omega⟩
      · refine WP_aload_n dX11_readMakes_58 rfl ?_
        refine WQ_iconst (3) (3) dX11_readMakes_59 rfl rfl (fun v1424 hv1424 => ?_)
        refine WP_callV1 (k := 11) dX11_readMakes_60 ⟨⟨⟨by decide, by decide⟩, zX11_bad⟩, lX11_49, by decide, rfl, vX11_bad.1, vX11_bad.2⟩ (ly_is hy 0 11 rfl) (sm_bad2 hy hr hI1380 v1424  (by rw [ew1386, ew1387]; omega)) (Nat.le_of_ble_eq_true rfl) ?_
        intro r I1425 J1426 Ra hq
        obtain ⟨⟨hI1425, ec, ⟨pI1425, sI1425_0_15, sI1425_0_16⟩⟩, v1427, rfl, av1427, bv1427⟩ := hq
        show WP _ _ _ _ (.int _ :: _) _ _ _ _
        rw [ec]
        clear ec Ra
        have e1428 : I1425 (ad g 0) 16 = v1367 := by rw [sI1425_0_16]; exact e1383
        have e1429 : I1425 (ad g 0) 1 = L := hI1425.1.2
        have b1430 := BT_get hI1425.1.1 0 1 2 (0) (0) (900) (by decide) 1 (by decide) (by decide)
        rw [e1429] at b1430
        obtain ⟨w1431, ew1431⟩ : ∃ w : Int32, I1425 (ad g 0) 4 = w := ⟨_, rfl⟩
        have bw1431 := BT_get hI1425.1.1 0 4 5 (0) (0) (900) (by decide) 4 (by decide) (by decide)
        rw [ew1431] at bw1431
        obtain ⟨w1432, ew1432⟩ : ∃ w : Int32, I1425 (ad g 0) 2 = w := ⟨_, rfl⟩
        have bw1432 := BT_get hI1425.1.1 0 2 3 (0) (0) (900) (by decide) 2 (by decide) (by decide)
        rw [ew1432] at bw1432
        rw [ew1431, ew1432] at pI1425
        exact WP_zret dX11_readMakes_63 rfl (nar_z (by omega)) ⟨⟨hI1425, rfl, (by rw [ew1431, ew1432]; omega)⟩, _, rfl, by omega, by omega⟩
    · refine WQ_iconst (0) (0) dX11_readMakes_36 rfl rfl (fun v1433 hv1433 => ?_)
      exact WP_zret dX11_readMakes_37 rfl (nar_z (by omega)) ⟨⟨hI1380, rfl, (by rw [ew1386, ew1387]; omega)⟩, _, rfl, by omega, by omega⟩
  · refine WQ_iconst (0) (0) dX11_readMakes_19 rfl rfl (fun v1434 hv1434 => ?_)
    exact WP_zret dX11_readMakes_20 rfl (nar_z (by omega)) ⟨⟨hI1368, rfl, (by rw [ew1374, ew1375]; omega)⟩, _, rfl, by omega, by omega⟩
set_option maxHeartbeats 4000000 in
set_option maxRecDepth 100000 in
theorem sm_readWants {g : GG} {n : Int} {L : Int32} (hy : Ly g)  {I : pI} {J : pJ} {R : pR} (hr : Rf g R) (hI : MP g n L I)   (hb : (I (ad g 0) 4).toInt ≤ (I (ad g 0) 2).toInt) : SP g mX11_readWants [.ref (ad g 0)] I J R (fun r I' J' R' => (MP g n L I' ∧ R' = R ∧ (I' (ad g 0) 4).toInt ≤ (I' (ad g 0) 2).toInt) ∧ ∃ v : Int32, r = some (.int v) ∧ 0 ≤ v.toInt ∧ v.toInt ≤ 1) := by
  refine SP_of ⟨by decide, rfl⟩ (Nat.le_of_ble_eq_true rfl) ?_
  have e1435 : I (ad g 0) 1 = L := hI.1.2
  have b1436 := BT_get hI.1.1 0 1 2 (0) (0) (900) (by decide) 1 (by decide) (by decide)
  rw [e1435] at b1436
  obtain ⟨w1437, ew1437⟩ : ∃ w : Int32, I (ad g 0) 4 = w := ⟨_, rfl⟩
  have bw1437 := BT_get hI.1.1 0 4 5 (0) (0) (900) (by decide) 4 (by decide) (by decide)
  rw [ew1437] at bw1437
  obtain ⟨w1438, ew1438⟩ : ∃ w : Int32, I (ad g 0) 2 = w := ⟨_, rfl⟩
  have bw1438 := BT_get hI.1.1 0 2 3 (0) (0) (900) (by decide) 2 (by decide) (by decide)
  rw [ew1438] at bw1438
  rw [ew1437, ew1438] at hb
  refine WP_aload_n dX11_readWants_0 rfl ?_
  refine WP_callV0 (k := 11) dX11_readWants_1 ⟨⟨⟨by decide, by decide⟩, zX11_scan⟩, lX11_63, by decide, rfl, vX11_scan.1, vX11_scan.2⟩ (ly_is hy 0 11 rfl) (sm_scan hy hr hI   (by rw [ew1437, ew1438]; omega)) (Nat.le_of_ble_eq_true rfl) ?_
  intro r I1439 J1440 Ra hq
  obtain ⟨⟨hI1439, ec, ⟨pI1439, sI1439_0_7, sI1439_0_15, sI1439_0_16⟩⟩, rfl⟩ := hq
  rw [ec]
  clear ec Ra
  have e1441 : I1439 (ad g 0) 1 = L := hI1439.1.2
  have b1442 := BT_get hI1439.1.1 0 1 2 (0) (0) (900) (by decide) 1 (by decide) (by decide)
  rw [e1441] at b1442
  obtain ⟨w1443, ew1443⟩ : ∃ w : Int32, I1439 (ad g 0) 4 = w := ⟨_, rfl⟩
  have bw1443 := BT_get hI1439.1.1 0 4 5 (0) (0) (900) (by decide) 4 (by decide) (by decide)
  rw [ew1443] at bw1443
  obtain ⟨w1444, ew1444⟩ : ∃ w : Int32, I1439 (ad g 0) 2 = w := ⟨_, rfl⟩
  have bw1444 := BT_get hI1439.1.1 0 2 3 (0) (0) (900) (by decide) 2 (by decide) (by decide)
  rw [ew1444] at bw1444
  rw [ew1443, ew1444] at pI1439
  refine WP_aload_n dX11_readWants_4 rfl ?_
  refine WP_aload_n dX11_readWants_5 rfl ?_
  refine WP_getr dX11_readWants_6 fX11_91 rfl (ly_is hy 0 11 rfl) (rf hr 0 22 4 (by decide)) ?_
  refine WP_aload_n dX11_readWants_9 rfl ?_
  refine WQ_geti dX11_readWants_10 fX11_88 rfl (ly_is hy 0 11 rfl) (BT_get hI1439.1.1 0 15 16 (0) (0) (4) (by decide) 15 (by decide) (by decide)) (fun v1445 ev1445 av1445 bv1445 => ?_)
  refine WP_callV2 (k := 11) dX11_readWants_13 ⟨⟨⟨by decide, by decide⟩, zX11_known⟩, lX11_147, by decide, rfl, vX11_known.1, vX11_known.2⟩ (ly_is hy 0 11 rfl) (sm_known_4 hy hr hI1439 v1445 (by omega) (by omega) (by rw [ew1443, ew1444]; omega)) (Nat.le_of_ble_eq_true rfl) ?_
  intro r I1446 J1447 Ra hq
  obtain ⟨⟨hI1446, ec, ⟨pI1446, sI1446_0_15, sI1446_0_16⟩⟩, v1448, rfl, av1448, bv1448, cv1448⟩ := hq
  show WP _ _ _ _ (.int _ :: _) _ _ _ _
  rw [ec]
  clear ec Ra
  have e1449 : I1446 (ad g 0) 15 = v1445 := by rw [sI1446_0_15]; exact ev1445
  have e1450 : I1446 (ad g 0) 1 = L := hI1446.1.2
  have b1451 := BT_get hI1446.1.1 0 1 2 (0) (0) (900) (by decide) 1 (by decide) (by decide)
  rw [e1450] at b1451
  obtain ⟨w1452, ew1452⟩ : ∃ w : Int32, I1446 (ad g 0) 4 = w := ⟨_, rfl⟩
  have bw1452 := BT_get hI1446.1.1 0 4 5 (0) (0) (900) (by decide) 4 (by decide) (by decide)
  rw [ew1452] at bw1452
  obtain ⟨w1453, ew1453⟩ : ∃ w : Int32, I1446 (ad g 0) 2 = w := ⟨_, rfl⟩
  have bw1453 := BT_get hI1446.1.1 0 2 3 (0) (0) (900) (by decide) 2 (by decide) (by decide)
  rw [ew1453] at bw1453
  rw [ew1452, ew1453] at pI1446
  obtain ⟨w1454, ew1454⟩ : ∃ w : Int32, I1446 (ad g 0) 7 = w := ⟨_, rfl⟩
  have bw1454 := BT_get hI1446.1.1 0 7 8 (-1) (0) (1000) (by decide) 7 (by decide) (by decide)
  rw [ew1454] at bw1454
  rw [ew1454] at cv1448
  refine WQ_if_ne 21 dX11_readWants_16 rfl (fun c1454 => ?_) (fun c1454 => ?_)
  · refine WP_aload_n dX11_readWants_21 rfl ?_
    refine WQ_getim dX11_readWants_22 fX11_56 rfl (ly_is hy 0 11 rfl) ew1454 ?_
    refine WP_istore_n (ls' := [(0, _), (1, _)]) dX11_readWants_25 (by decide) rfl ?_
    refine WP_aload_n dX11_readWants_26 rfl ?_
    refine WP_aload_n dX11_readWants_27 rfl ?_
    refine WP_getr dX11_readWants_28 fX11_129 rfl (ly_is hy 0 11 rfl) (rf hr 0 23 5 (by decide)) ?_
    refine WP_aload_n dX11_readWants_31 rfl ?_
    refine WQ_geti dX11_readWants_32 fX11_126 rfl (ly_is hy 0 11 rfl) (BT_get hI1446.1.1 0 16 17 (0) (0) (3) (by decide) 16 (by decide) (by decide)) (fun v1456 ev1456 av1456 bv1456 => ?_)
    refine WP_callV2 (k := 11) dX11_readWants_35 ⟨⟨⟨by decide, by decide⟩, zX11_known⟩, lX11_147, by decide, rfl, vX11_known.1, vX11_known.2⟩ (ly_is hy 0 11 rfl) (sm_known_5 hy hr hI1446 v1456 (by omega) (by omega) (by rw [ew1452, ew1453]; omega)) (Nat.le_of_ble_eq_true rfl) ?_
    intro r I1457 J1458 Ra hq
    obtain ⟨⟨hI1457, ec, ⟨pI1457, sI1457_0_15, sI1457_0_16⟩⟩, v1459, rfl, av1459, bv1459, cv1459⟩ := hq
    show WP _ _ _ _ (.int _ :: _) _ _ _ _
    rw [ec]
    clear ec Ra
    have e1460 : I1457 (ad g 0) 15 = v1445 := by rw [sI1457_0_15]; exact e1449
    have e1461 : I1457 (ad g 0) 16 = v1456 := by rw [sI1457_0_16]; exact ev1456
    have e1462 : I1457 (ad g 0) 1 = L := hI1457.1.2
    have b1463 := BT_get hI1457.1.1 0 1 2 (0) (0) (900) (by decide) 1 (by decide) (by decide)
    rw [e1462] at b1463
    obtain ⟨w1464, ew1464⟩ : ∃ w : Int32, I1457 (ad g 0) 4 = w := ⟨_, rfl⟩
    have bw1464 := BT_get hI1457.1.1 0 4 5 (0) (0) (900) (by decide) 4 (by decide) (by decide)
    rw [ew1464] at bw1464
    obtain ⟨w1465, ew1465⟩ : ∃ w : Int32, I1457 (ad g 0) 2 = w := ⟨_, rfl⟩
    have bw1465 := BT_get hI1457.1.1 0 2 3 (0) (0) (900) (by decide) 2 (by decide) (by decide)
    rw [ew1465] at bw1465
    rw [ew1464, ew1465] at pI1457
    obtain ⟨w1466, ew1466⟩ : ∃ w : Int32, I1457 (ad g 0) 7 = w := ⟨_, rfl⟩
    have bw1466 := BT_get hI1457.1.1 0 7 8 (-1) (0) (1000) (by decide) 7 (by decide) (by decide)
    rw [ew1466] at bw1466
    rw [ew1466] at cv1459
    refine WQ_if_ne 43 dX11_readWants_38 rfl (fun c1466 => ?_) (fun c1466 => ?_)
    · refine WP_aload_n dX11_readWants_43 rfl ?_
      refine WQ_getim dX11_readWants_44 fX11_56 rfl (ly_is hy 0 11 rfl) ew1466 ?_
      refine WP_istore_n (ls' := [(0, _), (1, _), (2, _)]) dX11_readWants_47 (by decide) rfl ?_
      refine WP_aload_n dX11_readWants_48 rfl ?_
      refine WQ_iconst (0) (0) dX11_readWants_49 rfl rfl (fun v1468 hv1468 => ?_)
      refine WQ_bipush (6) (6) dX11_readWants_50 rfl rfl (fun v1469 hv1469 => ?_)
      refine WP_callV2 (k := 11) dX11_readWants_52 ⟨⟨⟨by decide, by decide⟩, zX11_peek⟩, lX11_59, by decide, rfl, vX11_peek.1, vX11_peek.2⟩ (ly_is hy 0 11 rfl) (sm_peek hy hr hI1457 v1468 v1469 (by omega) (by omega) (by omega) (by omega) (by rw [ew1464, ew1465]; omega)) (Nat.le_of_ble_eq_true rfl) ?_
      intro r I1470 J1471 Ra hq
      obtain ⟨⟨hI1470, ec, ⟨pI1470, sI1470_0_15, sI1470_0_16⟩⟩, v1472, rfl, av1472, bv1472, cv1472⟩ := hq
      show WP _ _ _ _ (.int _ :: _) _ _ _ _
      rw [ec]
      clear ec Ra
      have e1473 : I1470 (ad g 0) 15 = v1445 := by rw [sI1470_0_15]; exact e1460
      have e1474 : I1470 (ad g 0) 16 = v1456 := by rw [sI1470_0_16]; exact e1461
      have e1475 : I1470 (ad g 0) 1 = L := hI1470.1.2
      have b1476 := BT_get hI1470.1.1 0 1 2 (0) (0) (900) (by decide) 1 (by decide) (by decide)
      rw [e1475] at b1476
      obtain ⟨w1477, ew1477⟩ : ∃ w : Int32, I1470 (ad g 0) 4 = w := ⟨_, rfl⟩
      have bw1477 := BT_get hI1470.1.1 0 4 5 (0) (0) (900) (by decide) 4 (by decide) (by decide)
      rw [ew1477] at bw1477
      obtain ⟨w1478, ew1478⟩ : ∃ w : Int32, I1470 (ad g 0) 2 = w := ⟨_, rfl⟩
      have bw1478 := BT_get hI1470.1.1 0 2 3 (0) (0) (900) (by decide) 2 (by decide) (by decide)
      rw [ew1478] at bw1478
      rw [ew1477, ew1478] at pI1470
      obtain ⟨w1479, ew1479⟩ : ∃ w : Int32, I1470 (ad g 0) 7 = w := ⟨_, rfl⟩
      have bw1479 := BT_get hI1470.1.1 0 7 8 (-1) (0) (1000) (by decide) 7 (by decide) (by decide)
      rw [ew1479] at bw1479
      rw [ew1479] at cv1472
      refine WQ_if_ne 60 dX11_readWants_55 rfl (fun c1479 => ?_) (fun c1479 => ?_)
      · refine WQ_bipush (7) (7) dX11_readWants_60 rfl rfl (fun v1481 hv1481 => ?_)
        refine WP_iload_n dX11_readWants_62 rfl ?_
        refine WQ_imulK (7) dX11_readWants_63 hv1481 (by omega) (by omega) (fun v1482 hv1482 => ?_)
        refine WP_aload_n dX11_readWants_64 rfl ?_
        refine WQ_getim dX11_readWants_65 fX11_56 rfl (ly_is hy 0 11 rfl) ew1479 ?_
        refine WQ_iadd dX11_readWants_68 (by omega) (by omega) (fun v1483 hv1483 => ?_)
        refine WP_istore_n (ls' := [(0, _), (1, _), (2, _), (3, _)]) dX11_readWants_69 (by decide) rfl ?_
        refine WP_aload_n dX11_readWants_70 rfl ?_
        refine WP_getr dX11_readWants_71 fX11_117 rfl (ly_is hy 0 11 rfl) (rf hr 0 48 30 (by decide)) ?_
        refine WP_iload_n dX11_readWants_74 rfl ?_
        refine WQ_iald dX11_readWants_75 (ly_is hy 30 13 rfl) (ly_n hy 30 28 rfl) (by omega) (by omega) (fun q hq => BT_get hI1470.1.1 30 0 28 (-1) (0) (2) (by decide) q (Nat.zero_le _) hq) (fun v1484 av1484 bv1484 ev1484 => ?_)
        clear ev1484
        refine WQ_iconst (-1) (-1) dX11_readWants_76 rfl rfl (fun v1485 hv1485 => ?_)
        refine WQ_icmp_eq 86 dX11_readWants_77 rfl (fun c1485 => ?_) (fun c1485 => ?_)
        · refine WP_aload_n dX11_readWants_86 rfl ?_
          refine WP_callV0 (k := 11) dX11_readWants_87 ⟨⟨⟨by decide, by decide⟩, zX11_scan⟩, lX11_63, by decide, rfl, vX11_scan.1, vX11_scan.2⟩ (ly_is hy 0 11 rfl) (sm_scan hy hr hI1470   (by rw [ew1477, ew1478]; omega)) (Nat.le_of_ble_eq_true rfl) ?_
          intro r I1487 J1488 Ra hq
          obtain ⟨⟨hI1487, ec, ⟨pI1487, sI1487_0_7, sI1487_0_15, sI1487_0_16⟩⟩, rfl⟩ := hq
          rw [ec]
          clear ec Ra
          have e1489 : I1487 (ad g 0) 7 = w1479 := by rw [sI1487_0_7]; exact ew1479
          have e1490 : I1487 (ad g 0) 15 = v1445 := by rw [sI1487_0_15]; exact e1473
          have e1491 : I1487 (ad g 0) 16 = v1456 := by rw [sI1487_0_16]; exact e1474
          have e1492 : I1487 (ad g 0) 1 = L := hI1487.1.2
          have b1493 := BT_get hI1487.1.1 0 1 2 (0) (0) (900) (by decide) 1 (by decide) (by decide)
          rw [e1492] at b1493
          obtain ⟨w1494, ew1494⟩ : ∃ w : Int32, I1487 (ad g 0) 4 = w := ⟨_, rfl⟩
          have bw1494 := BT_get hI1487.1.1 0 4 5 (0) (0) (900) (by decide) 4 (by decide) (by decide)
          rw [ew1494] at bw1494
          obtain ⟨w1495, ew1495⟩ : ∃ w : Int32, I1487 (ad g 0) 2 = w := ⟨_, rfl⟩
          have bw1495 := BT_get hI1487.1.1 0 2 3 (0) (0) (900) (by decide) 2 (by decide) (by decide)
          rw [ew1495] at bw1495
          rw [ew1494, ew1495] at pI1487
          refine WP_aload_n dX11_readWants_90 rfl ?_
          refine WQ_iconst (1) (1) dX11_readWants_91 rfl rfl (fun v1496 hv1496 => ?_)
          refine WQ_iconst (3) (3) dX11_readWants_92 rfl rfl (fun v1497 hv1497 => ?_)
          refine WP_callV2 (k := 11) dX11_readWants_93 ⟨⟨⟨by decide, by decide⟩, zX11_number⟩, lX11_81, by decide, rfl, vX11_number.1, vX11_number.2⟩ (ly_is hy 0 11 rfl) (sm_number hy hr hI1487 v1496 v1497 (by omega) (by omega) (by omega) (by omega) (by rw [ew1494, ew1495]; omega)) (Nat.le_of_ble_eq_true rfl) ?_
          intro r I1498 J1499 Ra hq
          obtain ⟨⟨hI1498, ec, ⟨pI1498, sI1498_0_15, sI1498_0_16⟩⟩, v1500, rfl, av1500, bv1500, cv1500⟩ := hq
          show WP _ _ _ _ (.int _ :: _) _ _ _ _
          rw [ec]
          clear ec Ra
          have e1501 : I1498 (ad g 0) 15 = v1445 := by rw [sI1498_0_15]; exact e1490
          have e1502 : I1498 (ad g 0) 16 = v1456 := by rw [sI1498_0_16]; exact e1491
          have e1503 : I1498 (ad g 0) 1 = L := hI1498.1.2
          have b1504 := BT_get hI1498.1.1 0 1 2 (0) (0) (900) (by decide) 1 (by decide) (by decide)
          rw [e1503] at b1504
          obtain ⟨w1505, ew1505⟩ : ∃ w : Int32, I1498 (ad g 0) 4 = w := ⟨_, rfl⟩
          have bw1505 := BT_get hI1498.1.1 0 4 5 (0) (0) (900) (by decide) 4 (by decide) (by decide)
          rw [ew1505] at bw1505
          obtain ⟨w1506, ew1506⟩ : ∃ w : Int32, I1498 (ad g 0) 2 = w := ⟨_, rfl⟩
          have bw1506 := BT_get hI1498.1.1 0 2 3 (0) (0) (900) (by decide) 2 (by decide) (by decide)
          rw [ew1506] at bw1506
          rw [ew1505, ew1506] at pI1498
          obtain ⟨w1507, ew1507⟩ : ∃ w : Int32, I1498 (ad g 0) 7 = w := ⟨_, rfl⟩
          have bw1507 := BT_get hI1498.1.1 0 7 8 (-1) (0) (1000) (by decide) 7 (by decide) (by decide)
          rw [ew1507] at bw1507
          rw [ew1507] at cv1500
          refine WQ_if_ne 101 dX11_readWants_96 rfl (fun c1507 => ?_) (fun c1507 => ?_)
          · refine WP_aload_n dX11_readWants_101 rfl ?_
            refine WP_getr dX11_readWants_102 fX11_120 rfl (ly_is hy 0 11 rfl) (rf hr 0 49 31 (by decide)) ?_
            refine WP_iload_n dX11_readWants_105 rfl ?_
            refine WP_aload_n dX11_readWants_106 rfl ?_
            refine WQ_getim dX11_readWants_107 fX11_56 rfl (ly_is hy 0 11 rfl) ew1507 ?_
            refine WQ_iast dX11_readWants_110 (ly_is hy 31 13 rfl) (ly_n hy 31 28 rfl) (by omega) (by omega) (fun I1509 eI1509 => ?_)
            have hI1509 : MP g n L I1509 := by rw [eI1509]; exact (mp_w hy hI1498 (c := 31) (mi_r hy hI1498.1 (c := 31) (0) (0) (3) (by decide) (Or.inl (by decide)) (by decide) (by omega) (by omega)) (by decide) (by decide) (Or.inl (by decide)))
            have e1510 : I1509 (ad g 0) 15 = v1445 := by rw [eI1509, pp_ne _ _ (Or.inl (ly_ne hy (by decide) (by decide) (by decide)))]; exact e1501
            have e1511 : I1509 (ad g 0) 16 = v1456 := by rw [eI1509, pp_ne _ _ (Or.inl (ly_ne hy (by decide) (by decide) (by decide)))]; exact e1502
            have e1512 : I1509 (ad g 0) 1 = L := by rw [eI1509, pp_ne _ _ (Or.inl (ly_ne hy (by decide) (by decide) (by decide)))]; exact e1503
            have e1513 : I1509 (ad g 0) 4 = w1505 := by rw [eI1509, pp_ne _ _ (Or.inl (ly_ne hy (by decide) (by decide) (by decide)))]; exact ew1505
            have e1514 : I1509 (ad g 0) 2 = w1506 := by rw [eI1509, pp_ne _ _ (Or.inl (ly_ne hy (by decide) (by decide) (by decide)))]; exact ew1506
            have e1515 : I1509 (ad g 0) 7 = w1507 := by rw [eI1509, pp_ne _ _ (Or.inl (ly_ne hy (by decide) (by decide) (by decide)))]; exact ew1507
            clear eI1509
            refine WP_aload_n dX11_readWants_111 rfl ?_
            refine WQ_iconst (0) (0) dX11_readWants_112 rfl rfl (fun v1516 hv1516 => ?_)
            refine WQ_bipush (99) (99) dX11_readWants_113 rfl rfl (fun v1517 hv1517 => ?_)
            refine WP_callV2 (k := 11) dX11_readWants_115 ⟨⟨⟨by decide, by decide⟩, zX11_number⟩, lX11_81, by decide, rfl, vX11_number.1, vX11_number.2⟩ (ly_is hy 0 11 rfl) (sm_number hy hr hI1509 v1516 v1517 (by omega) (by omega) (by omega) (by omega) (by rw [e1513, e1514]; omega)) (Nat.le_of_ble_eq_true rfl) ?_
            intro r I1518 J1519 Ra hq
            obtain ⟨⟨hI1518, ec, ⟨pI1518, sI1518_0_15, sI1518_0_16⟩⟩, v1520, rfl, av1520, bv1520, cv1520⟩ := hq
            show WP _ _ _ _ (.int _ :: _) _ _ _ _
            rw [ec]
            clear ec Ra
            have e1521 : I1518 (ad g 0) 15 = v1445 := by rw [sI1518_0_15]; exact e1510
            have e1522 : I1518 (ad g 0) 16 = v1456 := by rw [sI1518_0_16]; exact e1511
            have e1523 : I1518 (ad g 0) 1 = L := hI1518.1.2
            have b1524 := BT_get hI1518.1.1 0 1 2 (0) (0) (900) (by decide) 1 (by decide) (by decide)
            rw [e1523] at b1524
            obtain ⟨w1525, ew1525⟩ : ∃ w : Int32, I1518 (ad g 0) 4 = w := ⟨_, rfl⟩
            have bw1525 := BT_get hI1518.1.1 0 4 5 (0) (0) (900) (by decide) 4 (by decide) (by decide)
            rw [ew1525] at bw1525
            obtain ⟨w1526, ew1526⟩ : ∃ w : Int32, I1518 (ad g 0) 2 = w := ⟨_, rfl⟩
            have bw1526 := BT_get hI1518.1.1 0 2 3 (0) (0) (900) (by decide) 2 (by decide) (by decide)
            rw [ew1526] at bw1526
            rw [ew1525, ew1526] at pI1518
            obtain ⟨w1527, ew1527⟩ : ∃ w : Int32, I1518 (ad g 0) 7 = w := ⟨_, rfl⟩
            have bw1527 := BT_get hI1518.1.1 0 7 8 (-1) (0) (1000) (by decide) 7 (by decide) (by decide)
            rw [ew1527] at bw1527
            rw [ew1527] at cv1520
            refine WQ_if_ne 123 dX11_readWants_118 rfl (fun c1527 => ?_) (fun c1527 => ?_)
            · refine WP_aload_n dX11_readWants_123 rfl ?_
              refine WP_getr dX11_readWants_124 fX11_123 rfl (ly_is hy 0 11 rfl) (rf hr 0 50 32 (by decide)) ?_
              refine WP_iload_n dX11_readWants_127 rfl ?_
              refine WP_aload_n dX11_readWants_128 rfl ?_
              refine WQ_getim dX11_readWants_129 fX11_56 rfl (ly_is hy 0 11 rfl) ew1527 ?_
              refine WQ_iast dX11_readWants_132 (ly_is hy 32 13 rfl) (ly_n hy 32 28 rfl) (by omega) (by omega) (fun I1529 eI1529 => ?_)
              have hI1529 : MP g n L I1529 := by rw [eI1529]; exact (mp_w hy hI1518 (c := 32) (mi_r hy hI1518.1 (c := 32) (0) (0) (99) (by decide) (Or.inl (by decide)) (by decide) (by omega) (by omega)) (by decide) (by decide) (Or.inl (by decide)))
              have e1530 : I1529 (ad g 0) 15 = v1445 := by rw [eI1529, pp_ne _ _ (Or.inl (ly_ne hy (by decide) (by decide) (by decide)))]; exact e1521
              have e1531 : I1529 (ad g 0) 16 = v1456 := by rw [eI1529, pp_ne _ _ (Or.inl (ly_ne hy (by decide) (by decide) (by decide)))]; exact e1522
              have e1532 : I1529 (ad g 0) 1 = L := by rw [eI1529, pp_ne _ _ (Or.inl (ly_ne hy (by decide) (by decide) (by decide)))]; exact e1523
              have e1533 : I1529 (ad g 0) 4 = w1525 := by rw [eI1529, pp_ne _ _ (Or.inl (ly_ne hy (by decide) (by decide) (by decide)))]; exact ew1525
              have e1534 : I1529 (ad g 0) 2 = w1526 := by rw [eI1529, pp_ne _ _ (Or.inl (ly_ne hy (by decide) (by decide) (by decide)))]; exact ew1526
              have e1535 : I1529 (ad g 0) 7 = w1527 := by rw [eI1529, pp_ne _ _ (Or.inl (ly_ne hy (by decide) (by decide) (by decide)))]; exact ew1527
              clear eI1529
              refine WP_aload_n dX11_readWants_133 rfl ?_
              refine WP_getr dX11_readWants_134 fX11_117 rfl (ly_is hy 0 11 rfl) (rf hr 0 48 30 (by decide)) ?_
              refine WP_iload_n dX11_readWants_137 rfl ?_
              refine WP_iload_n dX11_readWants_138 rfl ?_
              refine WQ_iast dX11_readWants_139 (ly_is hy 30 13 rfl) (ly_n hy 30 28 rfl) (by omega) (by omega) (fun I1536 eI1536 => ?_)
              have hI1536 : MP g n L I1536 := by rw [eI1536]; exact (mp_w hy hI1529 (c := 30) (mi_r hy hI1529.1 (c := 30) (-1) (0) (2) (by decide) (Or.inl (by decide)) (by decide) (by omega) (by omega)) (by decide) (by decide) (Or.inl (by decide)))
              have e1537 : I1536 (ad g 0) 15 = v1445 := by rw [eI1536, pp_ne _ _ (Or.inl (ly_ne hy (by decide) (by decide) (by decide)))]; exact e1530
              have e1538 : I1536 (ad g 0) 16 = v1456 := by rw [eI1536, pp_ne _ _ (Or.inl (ly_ne hy (by decide) (by decide) (by decide)))]; exact e1531
              have e1539 : I1536 (ad g 0) 1 = L := by rw [eI1536, pp_ne _ _ (Or.inl (ly_ne hy (by decide) (by decide) (by decide)))]; exact e1532
              have e1540 : I1536 (ad g 0) 4 = w1525 := by rw [eI1536, pp_ne _ _ (Or.inl (ly_ne hy (by decide) (by decide) (by decide)))]; exact e1533
              have e1541 : I1536 (ad g 0) 2 = w1526 := by rw [eI1536, pp_ne _ _ (Or.inl (ly_ne hy (by decide) (by decide) (by decide)))]; exact e1534
              have e1542 : I1536 (ad g 0) 7 = w1527 := by rw [eI1536, pp_ne _ _ (Or.inl (ly_ne hy (by decide) (by decide) (by decide)))]; exact e1535
              clear eI1536
              refine WQ_iconst (1) (1) dX11_readWants_140 rfl rfl (fun v1543 hv1543 => ?_)
              exact WP_zret dX11_readWants_141 rfl (nar_z (by omega)) ⟨⟨hI1536, rfl, (by rw [e1540, e1541]; omega)⟩, _, rfl, by omega, by omega⟩
            · refine WQ_iconst (0) (0) dX11_readWants_121 rfl rfl (fun v1544 hv1544 => ?_)
              exact WP_zret dX11_readWants_122 rfl (nar_z (by omega)) ⟨⟨hI1518, rfl, (by rw [ew1525, ew1526]; omega)⟩, _, rfl, by omega, by omega⟩
          · refine WQ_iconst (0) (0) dX11_readWants_99 rfl rfl (fun v1545 hv1545 => ?_)
            exact WP_zret dX11_readWants_100 rfl (nar_z (by omega)) ⟨⟨hI1498, rfl, (by rw [ew1505, ew1506]; omega)⟩, _, rfl, by omega, by omega⟩
        · refine WP_aload_n dX11_readWants_80 rfl ?_
          refine WQ_iconst (3) (3) dX11_readWants_81 rfl rfl (fun v1546 hv1546 => ?_)
          refine WP_callV1 (k := 11) dX11_readWants_82 ⟨⟨⟨by decide, by decide⟩, zX11_bad⟩, lX11_49, by decide, rfl, vX11_bad.1, vX11_bad.2⟩ (ly_is hy 0 11 rfl) (sm_bad2 hy hr hI1470 v1546  (by rw [ew1477, ew1478]; omega)) (Nat.le_of_ble_eq_true rfl) ?_
          intro r I1547 J1548 Ra hq
          obtain ⟨⟨hI1547, ec, ⟨pI1547, sI1547_0_15, sI1547_0_16⟩⟩, v1549, rfl, av1549, bv1549⟩ := hq
          show WP _ _ _ _ (.int _ :: _) _ _ _ _
          rw [ec]
          clear ec Ra
          have e1550 : I1547 (ad g 0) 15 = v1445 := by rw [sI1547_0_15]; exact e1473
          have e1551 : I1547 (ad g 0) 16 = v1456 := by rw [sI1547_0_16]; exact e1474
          have e1552 : I1547 (ad g 0) 1 = L := hI1547.1.2
          have b1553 := BT_get hI1547.1.1 0 1 2 (0) (0) (900) (by decide) 1 (by decide) (by decide)
          rw [e1552] at b1553
          obtain ⟨w1554, ew1554⟩ : ∃ w : Int32, I1547 (ad g 0) 4 = w := ⟨_, rfl⟩
          have bw1554 := BT_get hI1547.1.1 0 4 5 (0) (0) (900) (by decide) 4 (by decide) (by decide)
          rw [ew1554] at bw1554
          obtain ⟨w1555, ew1555⟩ : ∃ w : Int32, I1547 (ad g 0) 2 = w := ⟨_, rfl⟩
          have bw1555 := BT_get hI1547.1.1 0 2 3 (0) (0) (900) (by decide) 2 (by decide) (by decide)
          rw [ew1555] at bw1555
          rw [ew1554, ew1555] at pI1547
          exact WP_zret dX11_readWants_85 rfl (nar_z (by omega)) ⟨⟨hI1547, rfl, (by rw [ew1554, ew1555]; omega)⟩, _, rfl, by omega, by omega⟩
      · refine WQ_iconst (0) (0) dX11_readWants_58 rfl rfl (fun v1556 hv1556 => ?_)
        exact WP_zret dX11_readWants_59 rfl (nar_z (by omega)) ⟨⟨hI1470, rfl, (by rw [ew1477, ew1478]; omega)⟩, _, rfl, by omega, by omega⟩
    · refine WQ_iconst (0) (0) dX11_readWants_41 rfl rfl (fun v1557 hv1557 => ?_)
      exact WP_zret dX11_readWants_42 rfl (nar_z (by omega)) ⟨⟨hI1457, rfl, (by rw [ew1464, ew1465]; omega)⟩, _, rfl, by omega, by omega⟩
  · refine WQ_iconst (0) (0) dX11_readWants_19 rfl rfl (fun v1558 hv1558 => ?_)
    exact WP_zret dX11_readWants_20 rfl (nar_z (by omega)) ⟨⟨hI1446, rfl, (by rw [ew1452, ew1453]; omega)⟩, _, rfl, by omega, by omega⟩
set_option maxHeartbeats 4000000 in
set_option maxRecDepth 100000 in
theorem sm_readIlls {g : GG} {n : Int} {L : Int32} (hy : Ly g)  {I : pI} {J : pJ} {R : pR} (hr : Rf g R) (hI : MP g n L I)   (hb : (I (ad g 0) 4).toInt ≤ (I (ad g 0) 2).toInt) : SP g mX11_readIlls [.ref (ad g 0)] I J R (fun r I' J' R' => (MP g n L I' ∧ R' = R ∧ (I' (ad g 0) 4).toInt ≤ (I' (ad g 0) 2).toInt) ∧ ∃ v : Int32, r = some (.int v) ∧ 0 ≤ v.toInt ∧ v.toInt ≤ 1) := by
  refine SP_of ⟨by decide, rfl⟩ (Nat.le_of_ble_eq_true rfl) ?_
  have e1559 : I (ad g 0) 1 = L := hI.1.2
  have b1560 := BT_get hI.1.1 0 1 2 (0) (0) (900) (by decide) 1 (by decide) (by decide)
  rw [e1559] at b1560
  obtain ⟨w1561, ew1561⟩ : ∃ w : Int32, I (ad g 0) 4 = w := ⟨_, rfl⟩
  have bw1561 := BT_get hI.1.1 0 4 5 (0) (0) (900) (by decide) 4 (by decide) (by decide)
  rw [ew1561] at bw1561
  obtain ⟨w1562, ew1562⟩ : ∃ w : Int32, I (ad g 0) 2 = w := ⟨_, rfl⟩
  have bw1562 := BT_get hI.1.1 0 2 3 (0) (0) (900) (by decide) 2 (by decide) (by decide)
  rw [ew1562] at bw1562
  rw [ew1561, ew1562] at hb
  refine WP_aload_n dX11_readIlls_0 rfl ?_
  refine WP_callV0 (k := 11) dX11_readIlls_1 ⟨⟨⟨by decide, by decide⟩, zX11_scan⟩, lX11_63, by decide, rfl, vX11_scan.1, vX11_scan.2⟩ (ly_is hy 0 11 rfl) (sm_scan hy hr hI   (by rw [ew1561, ew1562]; omega)) (Nat.le_of_ble_eq_true rfl) ?_
  intro r I1563 J1564 Ra hq
  obtain ⟨⟨hI1563, ec, ⟨pI1563, sI1563_0_7, sI1563_0_15, sI1563_0_16⟩⟩, rfl⟩ := hq
  rw [ec]
  clear ec Ra
  have e1565 : I1563 (ad g 0) 1 = L := hI1563.1.2
  have b1566 := BT_get hI1563.1.1 0 1 2 (0) (0) (900) (by decide) 1 (by decide) (by decide)
  rw [e1565] at b1566
  obtain ⟨w1567, ew1567⟩ : ∃ w : Int32, I1563 (ad g 0) 4 = w := ⟨_, rfl⟩
  have bw1567 := BT_get hI1563.1.1 0 4 5 (0) (0) (900) (by decide) 4 (by decide) (by decide)
  rw [ew1567] at bw1567
  obtain ⟨w1568, ew1568⟩ : ∃ w : Int32, I1563 (ad g 0) 2 = w := ⟨_, rfl⟩
  have bw1568 := BT_get hI1563.1.1 0 2 3 (0) (0) (900) (by decide) 2 (by decide) (by decide)
  rw [ew1568] at bw1568
  rw [ew1567, ew1568] at pI1563
  refine WP_aload_n dX11_readIlls_4 rfl ?_
  refine WQ_geti dX11_readIlls_5 fX11_27 rfl (ly_is hy 0 11 rfl) (BT_get hI1563.1.1 0 5 6 (0) (0) (4) (by decide) 5 (by decide) (by decide)) (fun v1569 ev1569 av1569 bv1569 => ?_)
  refine WQ_iconst (1) (1) dX11_readIlls_8 rfl rfl (fun v1570 hv1570 => ?_)
  refine WQ_icmp_eq 18 dX11_readIlls_9 rfl (fun c1570 => ?_) (fun c1570 => ?_)
  · refine WP_aload_n dX11_readIlls_18 rfl ?_
    refine WP_aload_n dX11_readIlls_19 rfl ?_
    refine WP_getr dX11_readIlls_20 fX11_91 rfl (ly_is hy 0 11 rfl) (rf hr 0 22 4 (by decide)) ?_
    refine WP_aload_n dX11_readIlls_23 rfl ?_
    refine WQ_geti dX11_readIlls_24 fX11_88 rfl (ly_is hy 0 11 rfl) (BT_get hI1563.1.1 0 15 16 (0) (0) (4) (by decide) 15 (by decide) (by decide)) (fun v1572 ev1572 av1572 bv1572 => ?_)
    refine WP_callV2 (k := 11) dX11_readIlls_27 ⟨⟨⟨by decide, by decide⟩, zX11_find⟩, lX11_71, by decide, rfl, vX11_find.1, vX11_find.2⟩ (ly_is hy 0 11 rfl) (sm_find_4 hy hr hI1563 v1572 (by omega) (by omega)) (Nat.le_of_ble_eq_true rfl) ?_
    intro r Ia Ja Ra hq
    obtain ⟨⟨ea, eb, ec⟩, v1573, rfl, av1573, bv1573, cv1573⟩ := hq
    show WP _ _ _ _ (.int _ :: _) _ _ _ _
    rw [ea, eb, ec]
    clear ea eb ec Ia Ja Ra
    refine WP_istore_n (ls' := [(0, _), (1, _)]) dX11_readIlls_30 (by decide) rfl ?_
    refine WP_iload_n dX11_readIlls_31 rfl ?_
    refine WQ_iconst (-1) (-1) dX11_readIlls_32 rfl rfl (fun v1574 hv1574 => ?_)
    refine WQ_icmp_eq 51 dX11_readIlls_33 rfl (fun c1574 => ?_) (fun c1574 => ?_)
    · refine WP_iload_n dX11_readIlls_51 rfl ?_
      refine WQ_iconst (-1) (-1) dX11_readIlls_52 rfl rfl (fun v1576 hv1576 => ?_)
      refine WQ_icmp_ne 62 dX11_readIlls_53 rfl (fun c1576 => False.elim (by omega)) (fun c1576 => ?_)
      refine WP_aload_n dX11_readIlls_56 rfl ?_
      refine WQ_iconst (5) (5) dX11_readIlls_57 rfl rfl (fun v1578 hv1578 => ?_)
      refine WP_callV1 (k := 11) dX11_readIlls_58 ⟨⟨⟨by decide, by decide⟩, zX11_bad⟩, lX11_49, by decide, rfl, vX11_bad.1, vX11_bad.2⟩ (ly_is hy 0 11 rfl) (sm_bad2 hy hr hI1563 v1578  (by rw [ew1567, ew1568]; omega)) (Nat.le_of_ble_eq_true rfl) ?_
      intro r I1579 J1580 Ra hq
      obtain ⟨⟨hI1579, ec, ⟨pI1579, sI1579_0_15, sI1579_0_16⟩⟩, v1581, rfl, av1581, bv1581⟩ := hq
      show WP _ _ _ _ (.int _ :: _) _ _ _ _
      rw [ec]
      clear ec Ra
      have e1582 : I1579 (ad g 0) 15 = v1572 := by rw [sI1579_0_15]; exact ev1572
      have e1583 : I1579 (ad g 0) 1 = L := hI1579.1.2
      have b1584 := BT_get hI1579.1.1 0 1 2 (0) (0) (900) (by decide) 1 (by decide) (by decide)
      rw [e1583] at b1584
      obtain ⟨w1585, ew1585⟩ : ∃ w : Int32, I1579 (ad g 0) 4 = w := ⟨_, rfl⟩
      have bw1585 := BT_get hI1579.1.1 0 4 5 (0) (0) (900) (by decide) 4 (by decide) (by decide)
      rw [ew1585] at bw1585
      obtain ⟨w1586, ew1586⟩ : ∃ w : Int32, I1579 (ad g 0) 2 = w := ⟨_, rfl⟩
      have bw1586 := BT_get hI1579.1.1 0 2 3 (0) (0) (900) (by decide) 2 (by decide) (by decide)
      rw [ew1586] at bw1586
      rw [ew1585, ew1586] at pI1579
      exact WP_zret dX11_readIlls_61 rfl (nar_z (by omega)) ⟨⟨hI1579, rfl, (by rw [ew1585, ew1586]; omega)⟩, _, rfl, by omega, by omega⟩
    · refine WP_aload_n dX11_readIlls_36 rfl ?_
      refine WP_getr dX11_readIlls_37 fX11_108 rfl (ly_is hy 0 11 rfl) (rf hr 0 35 17 (by decide)) ?_
      refine WP_iload_n dX11_readIlls_40 rfl ?_
      refine WQ_iald dX11_readIlls_41 (ly_is hy 17 13 rfl) (ly_n hy 17 4 rfl) (by omega) (by omega) (fun q hq => BT_get hI1563.1.1 17 0 4 (0) (0) (127) (by decide) q (Nat.zero_le _) hq) (fun v1587 av1587 bv1587 ev1587 => ?_)
      clear ev1587
      refine WQ_if_eq 51 dX11_readIlls_42 rfl (fun c1587 => ?_) (fun c1587 => ?_)
      · refine WP_iload_n dX11_readIlls_51 rfl ?_
        refine WQ_iconst (-1) (-1) dX11_readIlls_52 rfl rfl (fun v1589 hv1589 => ?_)
        refine WQ_icmp_ne 62 dX11_readIlls_53 rfl (fun c1589 => ?_) (fun c1589 => False.elim (by omega))
        refine WP_aload_n dX11_readIlls_62 rfl ?_
        refine WP_callV0 (k := 11) dX11_readIlls_63 ⟨⟨⟨by decide, by decide⟩, zX11_scan⟩, lX11_63, by decide, rfl, vX11_scan.1, vX11_scan.2⟩ (ly_is hy 0 11 rfl) (sm_scan hy hr hI1563   (by rw [ew1567, ew1568]; omega)) (Nat.le_of_ble_eq_true rfl) ?_
        intro r I1591 J1592 Ra hq
        obtain ⟨⟨hI1591, ec, ⟨pI1591, sI1591_0_7, sI1591_0_15, sI1591_0_16⟩⟩, rfl⟩ := hq
        rw [ec]
        clear ec Ra
        have e1593 : I1591 (ad g 0) 15 = v1572 := by rw [sI1591_0_15]; exact ev1572
        have e1594 : I1591 (ad g 0) 1 = L := hI1591.1.2
        have b1595 := BT_get hI1591.1.1 0 1 2 (0) (0) (900) (by decide) 1 (by decide) (by decide)
        rw [e1594] at b1595
        obtain ⟨w1596, ew1596⟩ : ∃ w : Int32, I1591 (ad g 0) 4 = w := ⟨_, rfl⟩
        have bw1596 := BT_get hI1591.1.1 0 4 5 (0) (0) (900) (by decide) 4 (by decide) (by decide)
        rw [ew1596] at bw1596
        obtain ⟨w1597, ew1597⟩ : ∃ w : Int32, I1591 (ad g 0) 2 = w := ⟨_, rfl⟩
        have bw1597 := BT_get hI1591.1.1 0 2 3 (0) (0) (900) (by decide) 2 (by decide) (by decide)
        rw [ew1597] at bw1597
        rw [ew1596, ew1597] at pI1591
        refine WP_aload_n dX11_readIlls_66 rfl ?_
        refine WQ_iconst (1) (1) dX11_readIlls_67 rfl rfl (fun v1598 hv1598 => ?_)
        refine WQ_bipush (127) (127) dX11_readIlls_68 rfl rfl (fun v1599 hv1599 => ?_)
        refine WP_callV2 (k := 11) dX11_readIlls_70 ⟨⟨⟨by decide, by decide⟩, zX11_number⟩, lX11_81, by decide, rfl, vX11_number.1, vX11_number.2⟩ (ly_is hy 0 11 rfl) (sm_number hy hr hI1591 v1598 v1599 (by omega) (by omega) (by omega) (by omega) (by rw [ew1596, ew1597]; omega)) (Nat.le_of_ble_eq_true rfl) ?_
        intro r I1600 J1601 Ra hq
        obtain ⟨⟨hI1600, ec, ⟨pI1600, sI1600_0_15, sI1600_0_16⟩⟩, v1602, rfl, av1602, bv1602, cv1602⟩ := hq
        show WP _ _ _ _ (.int _ :: _) _ _ _ _
        rw [ec]
        clear ec Ra
        have e1603 : I1600 (ad g 0) 15 = v1572 := by rw [sI1600_0_15]; exact e1593
        have e1604 : I1600 (ad g 0) 1 = L := hI1600.1.2
        have b1605 := BT_get hI1600.1.1 0 1 2 (0) (0) (900) (by decide) 1 (by decide) (by decide)
        rw [e1604] at b1605
        obtain ⟨w1606, ew1606⟩ : ∃ w : Int32, I1600 (ad g 0) 4 = w := ⟨_, rfl⟩
        have bw1606 := BT_get hI1600.1.1 0 4 5 (0) (0) (900) (by decide) 4 (by decide) (by decide)
        rw [ew1606] at bw1606
        obtain ⟨w1607, ew1607⟩ : ∃ w : Int32, I1600 (ad g 0) 2 = w := ⟨_, rfl⟩
        have bw1607 := BT_get hI1600.1.1 0 2 3 (0) (0) (900) (by decide) 2 (by decide) (by decide)
        rw [ew1607] at bw1607
        rw [ew1606, ew1607] at pI1600
        obtain ⟨w1608, ew1608⟩ : ∃ w : Int32, I1600 (ad g 0) 7 = w := ⟨_, rfl⟩
        have bw1608 := BT_get hI1600.1.1 0 7 8 (-1) (0) (1000) (by decide) 7 (by decide) (by decide)
        rw [ew1608] at bw1608
        rw [ew1608] at cv1602
        refine WQ_if_ne 78 dX11_readIlls_73 rfl (fun c1608 => ?_) (fun c1608 => ?_)
        · refine WP_aload_n dX11_readIlls_78 rfl ?_
          refine WP_getr dX11_readIlls_79 fX11_108 rfl (ly_is hy 0 11 rfl) (rf hr 0 35 17 (by decide)) ?_
          refine WP_iload_n dX11_readIlls_82 rfl ?_
          refine WP_aload_n dX11_readIlls_83 rfl ?_
          refine WQ_getim dX11_readIlls_84 fX11_56 rfl (ly_is hy 0 11 rfl) ew1608 ?_
          refine WQ_iast dX11_readIlls_87 (ly_is hy 17 13 rfl) (ly_n hy 17 4 rfl) (by omega) (by omega) (fun I1610 eI1610 => ?_)
          have hI1610 : MP g n L I1610 := by rw [eI1610]; exact (mp_w hy hI1600 (c := 17) (mi_r hy hI1600.1 (c := 17) (0) (0) (127) (by decide) (Or.inl (by decide)) (by decide) (by omega) (by omega)) (by decide) (by decide) (Or.inl (by decide)))
          have e1611 : I1610 (ad g 0) 15 = v1572 := by rw [eI1610, pp_ne _ _ (Or.inl (ly_ne hy (by decide) (by decide) (by decide)))]; exact e1603
          have e1612 : I1610 (ad g 0) 1 = L := by rw [eI1610, pp_ne _ _ (Or.inl (ly_ne hy (by decide) (by decide) (by decide)))]; exact e1604
          have e1613 : I1610 (ad g 0) 4 = w1606 := by rw [eI1610, pp_ne _ _ (Or.inl (ly_ne hy (by decide) (by decide) (by decide)))]; exact ew1606
          have e1614 : I1610 (ad g 0) 2 = w1607 := by rw [eI1610, pp_ne _ _ (Or.inl (ly_ne hy (by decide) (by decide) (by decide)))]; exact ew1607
          have e1615 : I1610 (ad g 0) 7 = w1608 := by rw [eI1610, pp_ne _ _ (Or.inl (ly_ne hy (by decide) (by decide) (by decide)))]; exact ew1608
          clear eI1610
          refine WQ_iconst (1) (1) dX11_readIlls_88 rfl rfl (fun v1616 hv1616 => ?_)
          exact WP_zret dX11_readIlls_89 rfl (nar_z (by omega)) ⟨⟨hI1610, rfl, (by rw [e1613, e1614]; omega)⟩, _, rfl, by omega, by omega⟩
        · refine WQ_iconst (0) (0) dX11_readIlls_76 rfl rfl (fun v1617 hv1617 => ?_)
          exact WP_zret dX11_readIlls_77 rfl (nar_z (by omega)) ⟨⟨hI1600, rfl, (by rw [ew1606, ew1607]; omega)⟩, _, rfl, by omega, by omega⟩
      · refine WP_aload_n dX11_readIlls_45 rfl ?_
        refine WQ_iconst (3) (3) dX11_readIlls_46 rfl rfl (fun v1618 hv1618 => ?_)
        refine WP_callV1 (k := 11) dX11_readIlls_47 ⟨⟨⟨by decide, by decide⟩, zX11_bad⟩, lX11_49, by decide, rfl, vX11_bad.1, vX11_bad.2⟩ (ly_is hy 0 11 rfl) (sm_bad2 hy hr hI1563 v1618  (by rw [ew1567, ew1568]; omega)) (Nat.le_of_ble_eq_true rfl) ?_
        intro r I1619 J1620 Ra hq
        obtain ⟨⟨hI1619, ec, ⟨pI1619, sI1619_0_15, sI1619_0_16⟩⟩, v1621, rfl, av1621, bv1621⟩ := hq
        show WP _ _ _ _ (.int _ :: _) _ _ _ _
        rw [ec]
        clear ec Ra
        have e1622 : I1619 (ad g 0) 15 = v1572 := by rw [sI1619_0_15]; exact ev1572
        have e1623 : I1619 (ad g 0) 1 = L := hI1619.1.2
        have b1624 := BT_get hI1619.1.1 0 1 2 (0) (0) (900) (by decide) 1 (by decide) (by decide)
        rw [e1623] at b1624
        obtain ⟨w1625, ew1625⟩ : ∃ w : Int32, I1619 (ad g 0) 4 = w := ⟨_, rfl⟩
        have bw1625 := BT_get hI1619.1.1 0 4 5 (0) (0) (900) (by decide) 4 (by decide) (by decide)
        rw [ew1625] at bw1625
        obtain ⟨w1626, ew1626⟩ : ∃ w : Int32, I1619 (ad g 0) 2 = w := ⟨_, rfl⟩
        have bw1626 := BT_get hI1619.1.1 0 2 3 (0) (0) (900) (by decide) 2 (by decide) (by decide)
        rw [ew1626] at bw1626
        rw [ew1625, ew1626] at pI1619
        exact WP_zret dX11_readIlls_50 rfl (nar_z (by omega)) ⟨⟨hI1619, rfl, (by rw [ew1625, ew1626]; omega)⟩, _, rfl, by omega, by omega⟩
  · refine WP_aload_n dX11_readIlls_12 rfl ?_
    refine WQ_iconst (1) (1) dX11_readIlls_13 rfl rfl (fun v1627 hv1627 => ?_)
    refine WP_callV1 (k := 11) dX11_readIlls_14 ⟨⟨⟨by decide, by decide⟩, zX11_bad⟩, lX11_49, by decide, rfl, vX11_bad.1, vX11_bad.2⟩ (ly_is hy 0 11 rfl) (sm_bad2 hy hr hI1563 v1627  (by rw [ew1567, ew1568]; omega)) (Nat.le_of_ble_eq_true rfl) ?_
    intro r I1628 J1629 Ra hq
    obtain ⟨⟨hI1628, ec, ⟨pI1628, sI1628_0_15, sI1628_0_16⟩⟩, v1630, rfl, av1630, bv1630⟩ := hq
    show WP _ _ _ _ (.int _ :: _) _ _ _ _
    rw [ec]
    clear ec Ra
    have e1631 : I1628 (ad g 0) 1 = L := hI1628.1.2
    have b1632 := BT_get hI1628.1.1 0 1 2 (0) (0) (900) (by decide) 1 (by decide) (by decide)
    rw [e1631] at b1632
    obtain ⟨w1633, ew1633⟩ : ∃ w : Int32, I1628 (ad g 0) 4 = w := ⟨_, rfl⟩
    have bw1633 := BT_get hI1628.1.1 0 4 5 (0) (0) (900) (by decide) 4 (by decide) (by decide)
    rw [ew1633] at bw1633
    obtain ⟨w1634, ew1634⟩ : ∃ w : Int32, I1628 (ad g 0) 2 = w := ⟨_, rfl⟩
    have bw1634 := BT_get hI1628.1.1 0 2 3 (0) (0) (900) (by decide) 2 (by decide) (by decide)
    rw [ew1634] at bw1634
    rw [ew1633, ew1634] at pI1628
    exact WP_zret dX11_readIlls_17 rfl (nar_z (by omega)) ⟨⟨hI1628, rfl, (by rw [ew1633, ew1634]; omega)⟩, _, rfl, by omega, by omega⟩
set_option maxHeartbeats 4000000 in
set_option maxRecDepth 100000 in
theorem sm_open {g : GG} {n : Int} {L : Int32} (hy : Ly g)  {I : pI} {J : pJ} {R : pR} (hr : Rf g R) (hI : MP g n L I)   : SP g mX11_open [.ref (ad g 0)] I J R (fun r I' J' R' => ((∃ L2 : Int32, MP g n L2 I' ∧ L2.toInt = 0) ∧ R' = R ∧ (I' (ad g 0) 4).toInt ≤ (I' (ad g 0) 2).toInt) ∧ r = none) := by
  refine SP_of ⟨by decide, rfl⟩ (Nat.le_of_ble_eq_true rfl) ?_
  have e1635 : I (ad g 0) 1 = L := hI.1.2
  have b1636 := BT_get hI.1.1 0 1 2 (0) (0) (900) (by decide) 1 (by decide) (by decide)
  rw [e1635] at b1636
  refine WP_aload_n dX11_open_0 rfl ?_
  refine WP_aload_n dX11_open_1 rfl ?_
  refine WQ_getim dX11_open_2 fX11_75 rfl (ly_is hy 0 11 rfl) e1635 ?_
  refine WQ_puti dX11_open_5 fX11_13 rfl rfl (ly_is hy 0 11 rfl) (fun I1637 eI1637 => ?_)
  have hI1637 : MP g n L I1637 := by rw [eI1637]; exact (mp_w hy hI (c := 0) (mi_f hy hI.1 (c := 0) (0) (0) (900) (by decide) (Or.inr (by decide)) (by decide) (by omega) (by omega)) (by decide) (by decide) (Or.inr (by decide)))
  have e1638 : I1637 (ad g 0) 1 = L := by rw [eI1637, pp_ne _ _ (Or.inr (by decide))]; exact e1635
  have e1639 : I1637 (ad g 0) 2 = L := by rw [eI1637, pp_self]
  clear eI1637
  refine WP_aload_n dX11_open_8 rfl ?_
  refine WQ_iconst (0) (0) dX11_open_9 rfl rfl (fun v1640 hv1640 => ?_)
  refine WQ_puti dX11_open_10 fX11_75 rfl rfl (ly_is hy 0 11 rfl) (fun I1641 eI1641 => ?_)
  have hI1641 : MP g n v1640 I1641 := by rw [eI1641]; exact (mp_w hy hI1637 (c := 0) (mi_len hy hI1637.1 (by omega) (by omega)) (by decide) (by decide) (Or.inr (by decide)))
  have e1642 : I1641 (ad g 0) 2 = L := by rw [eI1641, pp_ne _ _ (Or.inr (by decide))]; exact e1639
  have e1643 : I1641 (ad g 0) 1 = v1640 := by rw [eI1641, pp_self]
  clear eI1641
  refine WP_aload_n dX11_open_13 rfl ?_
  refine WQ_iconst (0) (0) dX11_open_14 rfl rfl (fun v1644 hv1644 => ?_)
  refine WQ_puti dX11_open_15 fX11_20 rfl rfl (ly_is hy 0 11 rfl) (fun I1645 eI1645 => ?_)
  have hI1645 : MP g n v1640 I1645 := by rw [eI1645]; exact (mp_w hy hI1641 (c := 0) (mi_f hy hI1641.1 (c := 0) (0) (0) (900) (by decide) (Or.inr (by decide)) (by decide) (by omega) (by omega)) (by decide) (by decide) (Or.inr (by decide)))
  have e1646 : I1645 (ad g 0) 2 = L := by rw [eI1645, pp_ne _ _ (Or.inr (by decide))]; exact e1642
  have e1647 : I1645 (ad g 0) 1 = v1640 := by rw [eI1645, pp_ne _ _ (Or.inr (by decide))]; exact e1643
  have e1648 : I1645 (ad g 0) 4 = v1644 := by rw [eI1645, pp_self]
  clear eI1645
  refine WP_aload_n dX11_open_18 rfl ?_
  refine WQ_iconst (0) (0) dX11_open_19 rfl rfl (fun v1649 hv1649 => ?_)
  refine WQ_puti dX11_open_20 fX11_3 rfl rfl (ly_is hy 0 11 rfl) (fun I1650 eI1650 => ?_)
  have hI1650 : MP g n v1640 I1650 := by rw [eI1650]; exact (mp_w hy hI1645 (c := 0) (mi_f0 hy hI1645.1 (c := 0) (by decide) (Or.inr (by decide)) (by decide)) (by decide) (by decide) (Or.inr (by decide)))
  have e1651 : I1650 (ad g 0) 2 = L := by rw [eI1650, pp_ne _ _ (Or.inr (by decide))]; exact e1646
  have e1652 : I1650 (ad g 0) 1 = v1640 := by rw [eI1650, pp_ne _ _ (Or.inr (by decide))]; exact e1647
  have e1653 : I1650 (ad g 0) 4 = v1644 := by rw [eI1650, pp_ne _ _ (Or.inr (by decide))]; exact e1648
  have e1654 : I1650 (ad g 0) 8 = v1649 := by rw [eI1650, pp_self]
  clear eI1650
  refine WP_aload_n dX11_open_23 rfl ?_
  refine WQ_iconst (-1) (-1) dX11_open_24 rfl rfl (fun v1655 hv1655 => ?_)
  refine WQ_puti dX11_open_25 fX11_10 rfl rfl (ly_is hy 0 11 rfl) (fun I1656 eI1656 => ?_)
  have hI1656 : MP g n v1640 I1656 := by rw [eI1656]; exact (mp_w hy hI1650 (c := 0) (mi_f0 hy hI1650.1 (c := 0) (by decide) (Or.inr (by decide)) (by decide)) (by decide) (by decide) (Or.inr (by decide)))
  have e1657 : I1656 (ad g 0) 2 = L := by rw [eI1656, pp_ne _ _ (Or.inr (by decide))]; exact e1651
  have e1658 : I1656 (ad g 0) 1 = v1640 := by rw [eI1656, pp_ne _ _ (Or.inr (by decide))]; exact e1652
  have e1659 : I1656 (ad g 0) 4 = v1644 := by rw [eI1656, pp_ne _ _ (Or.inr (by decide))]; exact e1653
  have e1660 : I1656 (ad g 0) 8 = v1649 := by rw [eI1656, pp_ne _ _ (Or.inr (by decide))]; exact e1654
  have e1661 : I1656 (ad g 0) 9 = v1655 := by rw [eI1656, pp_self]
  clear eI1656
  refine WP_aload_n dX11_open_28 rfl ?_
  refine WP_callV0 (k := 11) dX11_open_29 ⟨⟨⟨by decide, by decide⟩, zX11_scan⟩, lX11_63, by decide, rfl, vX11_scan.1, vX11_scan.2⟩ (ly_is hy 0 11 rfl) (sm_scan hy hr hI1656   (by rw [e1659, e1657]; omega)) (Nat.le_of_ble_eq_true rfl) ?_
  intro r I1662 J1663 Ra hq
  obtain ⟨⟨hI1662, ec, ⟨pI1662, sI1662_0_7, sI1662_0_15, sI1662_0_16⟩⟩, rfl⟩ := hq
  rw [ec]
  clear ec Ra
  have e1664 : I1662 (ad g 0) 1 = v1640 := hI1662.1.2
  have b1665 := BT_get hI1662.1.1 0 1 2 (0) (0) (900) (by decide) 1 (by decide) (by decide)
  rw [e1664] at b1665
  obtain ⟨w1666, ew1666⟩ : ∃ w : Int32, I1662 (ad g 0) 4 = w := ⟨_, rfl⟩
  have bw1666 := BT_get hI1662.1.1 0 4 5 (0) (0) (900) (by decide) 4 (by decide) (by decide)
  rw [ew1666] at bw1666
  obtain ⟨w1667, ew1667⟩ : ∃ w : Int32, I1662 (ad g 0) 2 = w := ⟨_, rfl⟩
  have bw1667 := BT_get hI1662.1.1 0 2 3 (0) (0) (900) (by decide) 2 (by decide) (by decide)
  rw [ew1667] at bw1667
  rw [ew1666, ew1667] at pI1662
  exact WP_vret dX11_open_32 rfl ⟨⟨⟨_, hI1662, by omega⟩, rfl, (by rw [ew1666, ew1667]; omega)⟩, rfl⟩
