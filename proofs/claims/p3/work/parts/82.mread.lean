set_option maxHeartbeats 4000000 in
set_option maxRecDepth 100000 in
theorem sm_bad2 {g : GG} {n : Int} {L : Int32} (hy : Ly g)  {I : pI} {J : pJ} {R : pR} (hr : Rf g R) (hI : MP g n L I) (k : Int32)  (hb : (I (ad g 0) 4).toInt ≤ (I (ad g 0) 2).toInt) : SP g mX11_bad [.ref (ad g 0), .int k] I J R (fun r I' J' R' => (MP g n L I' ∧ R' = R ∧ (I' (ad g 0) 4).toInt ≤ (I' (ad g 0) 2).toInt ∧ I' (ad g 0) 15 = I (ad g 0) 15 ∧ I' (ad g 0) 16 = I (ad g 0) 16) ∧ ∃ v : Int32, r = some (.int v) ∧ 0 ≤ v.toInt ∧ v.toInt ≤ 0) := by
  refine SP_of ⟨by decide, rfl⟩ (Nat.le_of_ble_eq_true rfl) ?_
  have e505 : I (ad g 0) 1 = L := hI.1.2
  have b506 := BT_get hI.1.1 0 1 2 (0) (0) (900) (by decide) 1 (by decide) (by decide)
  rw [e505] at b506
  obtain ⟨w507, ew507⟩ : ∃ w : Int32, I (ad g 0) 15 = w := ⟨_, rfl⟩
  have bw507 := BT_get hI.1.1 0 15 16 (0) (0) (4) (by decide) 15 (by decide) (by decide)
  rw [ew507] at bw507
  obtain ⟨w508, ew508⟩ : ∃ w : Int32, I (ad g 0) 16 = w := ⟨_, rfl⟩
  have bw508 := BT_get hI.1.1 0 16 17 (0) (0) (3) (by decide) 16 (by decide) (by decide)
  rw [ew508] at bw508
  obtain ⟨w509, ew509⟩ : ∃ w : Int32, I (ad g 0) 4 = w := ⟨_, rfl⟩
  have bw509 := BT_get hI.1.1 0 4 5 (0) (0) (900) (by decide) 4 (by decide) (by decide)
  rw [ew509] at bw509
  obtain ⟨w510, ew510⟩ : ∃ w : Int32, I (ad g 0) 2 = w := ⟨_, rfl⟩
  have bw510 := BT_get hI.1.1 0 2 3 (0) (0) (900) (by decide) 2 (by decide) (by decide)
  rw [ew510] at bw510
  rw [ew509, ew510] at hb
  refine WP_aload_n dX11_bad_0 rfl ?_
  refine WP_iload_n dX11_bad_1 rfl ?_
  refine WQ_puti dX11_bad_2 fX11_3 rfl rfl (ly_is hy 0 11 rfl) (fun I511 eI511 => ?_)
  have hI511 : MP g n L I511 := by rw [eI511]; exact (mp_w hy hI (c := 0) (mi_f0 hy hI.1 (c := 0) (by decide) (Or.inr (by decide)) (by decide)) (by decide) (by decide) (Or.inr (by decide)))
  have e512 : I511 (ad g 0) 1 = L := by rw [eI511, pp_ne _ _ (Or.inr (by decide))]; exact e505
  have e513 : I511 (ad g 0) 15 = w507 := by rw [eI511, pp_ne _ _ (Or.inr (by decide))]; exact ew507
  have e514 : I511 (ad g 0) 16 = w508 := by rw [eI511, pp_ne _ _ (Or.inr (by decide))]; exact ew508
  have e515 : I511 (ad g 0) 4 = w509 := by rw [eI511, pp_ne _ _ (Or.inr (by decide))]; exact ew509
  have e516 : I511 (ad g 0) 2 = w510 := by rw [eI511, pp_ne _ _ (Or.inr (by decide))]; exact ew510
  have e517 : I511 (ad g 0) 8 = k := by rw [eI511, pp_self]
  clear eI511
  refine WP_aload_n dX11_bad_5 rfl ?_
  refine WP_aload_n dX11_bad_6 rfl ?_
  refine WQ_geti dX11_bad_7 fX11_7 rfl (ly_is hy 0 11 rfl) (BT_get hI511.1.1 0 3 4 (0) (0) (900) (by decide) 3 (by decide) (by decide)) (fun v518 ev518 av518 bv518 => ?_)
  refine WQ_puti dX11_bad_10 fX11_10 rfl rfl (ly_is hy 0 11 rfl) (fun I519 eI519 => ?_)
  have hI519 : MP g n L I519 := by rw [eI519]; exact (mp_w hy hI511 (c := 0) (mi_f0 hy hI511.1 (c := 0) (by decide) (Or.inr (by decide)) (by decide)) (by decide) (by decide) (Or.inr (by decide)))
  have e520 : I519 (ad g 0) 1 = L := by rw [eI519, pp_ne _ _ (Or.inr (by decide))]; exact e512
  have e521 : I519 (ad g 0) 15 = w507 := by rw [eI519, pp_ne _ _ (Or.inr (by decide))]; exact e513
  have e522 : I519 (ad g 0) 16 = w508 := by rw [eI519, pp_ne _ _ (Or.inr (by decide))]; exact e514
  have e523 : I519 (ad g 0) 4 = w509 := by rw [eI519, pp_ne _ _ (Or.inr (by decide))]; exact e515
  have e524 : I519 (ad g 0) 2 = w510 := by rw [eI519, pp_ne _ _ (Or.inr (by decide))]; exact e516
  have e525 : I519 (ad g 0) 8 = k := by rw [eI519, pp_ne _ _ (Or.inr (by decide))]; exact e517
  have e526 : I519 (ad g 0) 3 = v518 := by rw [eI519, pp_ne _ _ (Or.inr (by decide))]; exact ev518
  have e527 : I519 (ad g 0) 9 = v518 := by rw [eI519, pp_self]
  clear eI519
  refine WQ_iconst (0) (0) dX11_bad_13 rfl rfl (fun v528 hv528 => ?_)
  exact WP_zret dX11_bad_14 rfl (nar_z (by omega)) ⟨⟨hI519, rfl, ⟨(by rw [e523, e524]; omega), (by rw [e521, ew507] <;> exact (eq32 _ _).mpr (by omega)), (by rw [e522, ew508] <;> exact (eq32 _ _).mpr (by omega))⟩⟩, _, rfl, by omega, by omega⟩
set_option maxHeartbeats 4000000 in
set_option maxRecDepth 100000 in
theorem sm_name {g : GG} {n : Int} {L : Int32} (hy : Ly g)  {I : pI} {J : pJ} {R : pR} (hr : Rf g R) (hI : MP g n L I)   : SP g mX11_name [.ref (ad g 0)] I J R (fun r I' J' R' => (I' = I ∧ J' = J ∧ R' = R) ∧ ∃ v : Int64, r = some (.long v)) := by
  refine SP_of ⟨by decide, rfl⟩ (Nat.le_of_ble_eq_true rfl) ?_
  have e529 : I (ad g 0) 1 = L := hI.1.2
  have b530 := BT_get hI.1.1 0 1 2 (0) (0) (900) (by decide) 1 (by decide) (by decide)
  rw [e529] at b530
  refine WP_lconst (0) dX11_name_0 rfl ?_
  obtain ⟨l531, hl531, el531⟩ : ∃ v : Int64, v.toInt = 0 ∧ (0 : Int64) = v := ⟨_, rfl, rfl⟩
  rw [el531]; clear el531
  refine WP_lstore_n (ls' := [(0, _), (1, _)]) dX11_name_1 (by decide) rfl ?_
  refine WP_aload_n dX11_name_2 rfl ?_
  refine WQ_geti dX11_name_3 fX11_7 rfl (ly_is hy 0 11 rfl) (BT_get hI.1.1 0 3 4 (0) (0) (900) (by decide) 3 (by decide) (by decide)) (fun v532 ev532 av532 bv532 => ?_)
  refine WP_istore_n (ls' := [(0, _), (1, _), (3, _)]) dX11_name_6 (by decide) rfl ?_
  have lp7_534 : ∀ (mz : Nat) (l533 : Int64) (i534 : Int32), 0 ≤ i534.toInt → i534.toInt ≤ 900 → (901 - i534.toInt).toNat < mz → WP g mX11_name 7 [(0, .ref (ad g 0)), (1, .long l533), (3, .int i534)] [] I J R (fun r I' J' R' => (I' = I ∧ J' = J ∧ R' = R) ∧ ∃ v : Int64, r = some (.long v)) := by
    intro mz
    induction mz with
    | zero =>
      intro l533 i534 ai534 bi534 hmlp7_534
      exact absurd hmlp7_534 (Nat.not_lt_zero _)
    | succ mz ihlp7_534 =>
      intro l533 i534 ai534 bi534 hmlp7_534
      refine WP_iload_n dX11_name_7 rfl ?_
      refine WP_aload_n dX11_name_8 rfl ?_
      refine WQ_geti dX11_name_9 fX11_20 rfl (ly_is hy 0 11 rfl) (BT_get hI.1.1 0 4 5 (0) (0) (900) (by decide) 4 (by decide) (by decide)) (fun v536 ev536 av536 bv536 => ?_)
      refine WQ_icmp_ge 35 dX11_name_12 rfl (fun c536 => ?_) (fun c536 => ?_)
      · refine WP_lload_n dX11_name_35 rfl ?_
        exact WP_lret dX11_name_36 rfl ⟨⟨rfl, rfl, rfl⟩, _, rfl⟩
      · refine WP_lload_n dX11_name_15 rfl ?_
        refine WQ_iconst (5) (5) dX11_name_16 rfl rfl (fun v538 hv538 => ?_)
        refine WQ_lshl dX11_name_17 (fun l539 => ?_)
        refine WP_aload_n dX11_name_18 rfl ?_
        refine WP_iload_n dX11_name_19 rfl ?_
        refine WP_callV1 (k := 11) dX11_name_20 ⟨⟨⟨by decide, by decide⟩, zX11_byteAt⟩, lX11_23, by decide, rfl, vX11_byteAt.1, vX11_byteAt.2⟩ (ly_is hy 0 11 rfl) (sm_byteAt hy hr hI i534 (by omega) (by omega)) (Nat.le_of_ble_eq_true rfl) ?_
        intro r Ia Ja Ra hq
        obtain ⟨⟨ea, eb, ec⟩, v540, rfl, cv540⟩ := hq
        show WP _ _ _ _ (.int _ :: _) _ _ _ _
        rw [ea, eb, ec]
        clear ea eb ec Ia Ja Ra
        obtain ⟨w541, ew541⟩ : ∃ w : Int32, I (ad g 0) 2 = w := ⟨_, rfl⟩
        have bw541 := BT_get hI.1.1 0 2 3 (0) (0) (900) (by decide) 2 (by decide) (by decide)
        rw [ew541] at bw541
        rw [ew541] at cv540
        refine WQ_bipush (96) (96) dX11_name_23 rfl rfl (fun v542 hv542 => ?_)
        refine WQ_isubu dX11_name_25 (fun v543 => ?_)
        refine WQ_i2l dX11_name_26 (fun l544 hl544 => ?_)
        refine WQ_lor dX11_name_27 (fun l545 => ?_)
        refine WP_lstore_n (ls' := [(0, _), (1, _), (3, _)]) dX11_name_28 (by decide) rfl ?_
        refine WP_iinc (ls' := [(0, _), (1, _), (3, _)]) dX11_name_29 rfl (by decide) rfl ?_
        have hv546 : (i534 + Int32.ofInt (1)).toInt = i534.toInt + (1) := ia_n rfl (by omega) (by omega)
        generalize i534 + Int32.ofInt (1) = v546 at hv546 ⊢
        refine WP_goto 7 dX11_name_32 rfl ?_
        exact WP_sub (fc rfl (fc rfl (fc rfl fn))) (ihlp7_534 l545 v546 (by omega) (by omega) (by omega))
  exact WP_sub (fc rfl (fc rfl (fc rfl fn))) (lp7_534 _ l531 v532 (by omega) (by omega) (Nat.lt_succ_self _))
set_option maxHeartbeats 4000000 in
set_option maxRecDepth 100000 in
theorem sm_find_2 {g : GG} {n : Int} {L : Int32} (hy : Ly g)  {I : pI} {J : pJ} {R : pR} (hr : Rf g R) (hI : MP g n L I) (ma : Int32) (ma_lo : 0 ≤ ma.toInt) (ma_hi : ma.toInt ≤ 4) : SP g mX11_find [.ref (ad g 0), .ref (ad g 2), .int ma] I J R (fun r I' J' R' => (I' = I ∧ J' = J ∧ R' = R) ∧ ∃ v : Int32, r = some (.int v) ∧ -1 ≤ v.toInt ∧ v.toInt ≤ 3 ∧ (v.toInt < ma.toInt ∨ v.toInt = -1)) := by
  refine SP_of ⟨by decide, rfl⟩ (Nat.le_of_ble_eq_true rfl) ?_
  have e547 : I (ad g 0) 1 = L := hI.1.2
  have b548 := BT_get hI.1.1 0 1 2 (0) (0) (900) (by decide) 1 (by decide) (by decide)
  rw [e547] at b548
  refine WQ_iconst (0) (0) dX11_find_0 rfl rfl (fun v549 hv549 => ?_)
  refine WP_istore_n (ls' := [(0, _), (1, _), (2, _), (3, _)]) dX11_find_1 (by decide) rfl ?_
  have lp2_550 : ∀ (mz : Nat) (i550 : Int32), 0 ≤ i550.toInt → i550.toInt ≤ 4 → i550.toInt ≤ ma.toInt → (5 - i550.toInt).toNat < mz → WP g mX11_find 2 [(0, .ref (ad g 0)), (1, .ref (ad g 2)), (2, .int ma), (3, .int i550)] [] I J R (fun r I' J' R' => (I' = I ∧ J' = J ∧ R' = R) ∧ ∃ v : Int32, r = some (.int v) ∧ -1 ≤ v.toInt ∧ v.toInt ≤ 3 ∧ (v.toInt < ma.toInt ∨ v.toInt = -1)) := by
    intro mz
    induction mz with
    | zero =>
      intro i550 ai550 bi550 j0_I hmlp2_550
      exact absurd hmlp2_550 (Nat.not_lt_zero _)
    | succ mz ihlp2_550 =>
      intro i550 ai550 bi550 j0_I hmlp2_550
      refine WP_iload_n dX11_find_2 rfl ?_
      refine WP_iload_n dX11_find_3 rfl ?_
      refine WQ_icmp_ge 26 dX11_find_4 rfl (fun c551 => ?_) (fun c551 => ?_)
      · refine WQ_iconst (-1) (-1) dX11_find_26 rfl rfl (fun v553 hv553 => ?_)
        exact WP_iret dX11_find_27 rfl ⟨⟨rfl, rfl, rfl⟩, _, rfl, by omega, by omega, by omega⟩
      · refine WP_aload_n dX11_find_7 rfl ?_
        refine WP_iload_n dX11_find_8 rfl ?_
        refine WQ_laldu dX11_find_9 (ly_is hy 2 14 rfl) (ly_n hy 2 4 rfl) (by omega) (by omega) (fun l554 => ?_)
        refine WP_aload_n dX11_find_10 rfl ?_
        refine WP_callV0 (k := 11) dX11_find_11 ⟨⟨⟨by decide, by decide⟩, zX11_name⟩, lX11_67, by decide, rfl, vX11_name.1, vX11_name.2⟩ (ly_is hy 0 11 rfl) (sm_name hy hr hI  ) (Nat.le_of_ble_eq_true rfl) ?_
        intro r Ia Ja Ra hq
        obtain ⟨⟨ea, eb, ec⟩, l555, rfl⟩ := hq
        show WP _ _ _ _ (.long _ :: _) _ _ _ _
        rw [ea, eb, ec]
        clear ea eb ec Ia Ja Ra
        refine WQ_lcmpu dX11_find_14 (fun v556 => ?_)
        refine WX_if_ne 20 dX11_find_15 rfl ?_ ?_
        · refine WP_iinc (ls' := [(0, _), (1, _), (2, _), (3, _)]) dX11_find_20 rfl (by decide) rfl ?_
          have hv557 : (i550 + Int32.ofInt (1)).toInt = i550.toInt + (1) := ia_n rfl (by omega) (by omega)
          generalize i550 + Int32.ofInt (1) = v557 at hv557 ⊢
          refine WP_goto 2 dX11_find_23 rfl ?_
          exact WP_sub (fc rfl (fc rfl (fc rfl (fc rfl fn)))) (ihlp2_550 v557 (by omega) (by omega) (by omega) (by omega))
        · refine WP_iload_n dX11_find_18 rfl ?_
          exact WP_iret dX11_find_19 rfl ⟨⟨rfl, rfl, rfl⟩, _, rfl, by omega, by omega, by omega⟩
  exact WP_sub (fc rfl (fc rfl (fc rfl (fc rfl fn)))) (lp2_550 _ v549 (by omega) (by omega) (by omega) (Nat.lt_succ_self _))
set_option maxHeartbeats 4000000 in
set_option maxRecDepth 100000 in
theorem sm_find_3 {g : GG} {n : Int} {L : Int32} (hy : Ly g)  {I : pI} {J : pJ} {R : pR} (hr : Rf g R) (hI : MP g n L I) (ma : Int32) (ma_lo : 0 ≤ ma.toInt) (ma_hi : ma.toInt ≤ 3) : SP g mX11_find [.ref (ad g 0), .ref (ad g 3), .int ma] I J R (fun r I' J' R' => (I' = I ∧ J' = J ∧ R' = R) ∧ ∃ v : Int32, r = some (.int v) ∧ -1 ≤ v.toInt ∧ v.toInt ≤ 2 ∧ (v.toInt < ma.toInt ∨ v.toInt = -1)) := by
  refine SP_of ⟨by decide, rfl⟩ (Nat.le_of_ble_eq_true rfl) ?_
  have e558 : I (ad g 0) 1 = L := hI.1.2
  have b559 := BT_get hI.1.1 0 1 2 (0) (0) (900) (by decide) 1 (by decide) (by decide)
  rw [e558] at b559
  refine WQ_iconst (0) (0) dX11_find_0 rfl rfl (fun v560 hv560 => ?_)
  refine WP_istore_n (ls' := [(0, _), (1, _), (2, _), (3, _)]) dX11_find_1 (by decide) rfl ?_
  have lp2_561 : ∀ (mz : Nat) (i561 : Int32), 0 ≤ i561.toInt → i561.toInt ≤ 3 → i561.toInt ≤ ma.toInt → (4 - i561.toInt).toNat < mz → WP g mX11_find 2 [(0, .ref (ad g 0)), (1, .ref (ad g 3)), (2, .int ma), (3, .int i561)] [] I J R (fun r I' J' R' => (I' = I ∧ J' = J ∧ R' = R) ∧ ∃ v : Int32, r = some (.int v) ∧ -1 ≤ v.toInt ∧ v.toInt ≤ 2 ∧ (v.toInt < ma.toInt ∨ v.toInt = -1)) := by
    intro mz
    induction mz with
    | zero =>
      intro i561 ai561 bi561 j0_I hmlp2_561
      exact absurd hmlp2_561 (Nat.not_lt_zero _)
    | succ mz ihlp2_561 =>
      intro i561 ai561 bi561 j0_I hmlp2_561
      refine WP_iload_n dX11_find_2 rfl ?_
      refine WP_iload_n dX11_find_3 rfl ?_
      refine WQ_icmp_ge 26 dX11_find_4 rfl (fun c562 => ?_) (fun c562 => ?_)
      · refine WQ_iconst (-1) (-1) dX11_find_26 rfl rfl (fun v564 hv564 => ?_)
        exact WP_iret dX11_find_27 rfl ⟨⟨rfl, rfl, rfl⟩, _, rfl, by omega, by omega, by omega⟩
      · refine WP_aload_n dX11_find_7 rfl ?_
        refine WP_iload_n dX11_find_8 rfl ?_
        refine WQ_laldu dX11_find_9 (ly_is hy 3 14 rfl) (ly_n hy 3 3 rfl) (by omega) (by omega) (fun l565 => ?_)
        refine WP_aload_n dX11_find_10 rfl ?_
        refine WP_callV0 (k := 11) dX11_find_11 ⟨⟨⟨by decide, by decide⟩, zX11_name⟩, lX11_67, by decide, rfl, vX11_name.1, vX11_name.2⟩ (ly_is hy 0 11 rfl) (sm_name hy hr hI  ) (Nat.le_of_ble_eq_true rfl) ?_
        intro r Ia Ja Ra hq
        obtain ⟨⟨ea, eb, ec⟩, l566, rfl⟩ := hq
        show WP _ _ _ _ (.long _ :: _) _ _ _ _
        rw [ea, eb, ec]
        clear ea eb ec Ia Ja Ra
        refine WQ_lcmpu dX11_find_14 (fun v567 => ?_)
        refine WX_if_ne 20 dX11_find_15 rfl ?_ ?_
        · refine WP_iinc (ls' := [(0, _), (1, _), (2, _), (3, _)]) dX11_find_20 rfl (by decide) rfl ?_
          have hv568 : (i561 + Int32.ofInt (1)).toInt = i561.toInt + (1) := ia_n rfl (by omega) (by omega)
          generalize i561 + Int32.ofInt (1) = v568 at hv568 ⊢
          refine WP_goto 2 dX11_find_23 rfl ?_
          exact WP_sub (fc rfl (fc rfl (fc rfl (fc rfl fn)))) (ihlp2_561 v568 (by omega) (by omega) (by omega) (by omega))
        · refine WP_iload_n dX11_find_18 rfl ?_
          exact WP_iret dX11_find_19 rfl ⟨⟨rfl, rfl, rfl⟩, _, rfl, by omega, by omega, by omega⟩
  exact WP_sub (fc rfl (fc rfl (fc rfl (fc rfl fn)))) (lp2_561 _ v560 (by omega) (by omega) (by omega) (Nat.lt_succ_self _))
set_option maxHeartbeats 4000000 in
set_option maxRecDepth 100000 in
theorem sm_find_4 {g : GG} {n : Int} {L : Int32} (hy : Ly g)  {I : pI} {J : pJ} {R : pR} (hr : Rf g R) (hI : MP g n L I) (ma : Int32) (ma_lo : 0 ≤ ma.toInt) (ma_hi : ma.toInt ≤ 4) : SP g mX11_find [.ref (ad g 0), .ref (ad g 4), .int ma] I J R (fun r I' J' R' => (I' = I ∧ J' = J ∧ R' = R) ∧ ∃ v : Int32, r = some (.int v) ∧ -1 ≤ v.toInt ∧ v.toInt ≤ 3 ∧ (v.toInt < ma.toInt ∨ v.toInt = -1)) := by
  refine SP_of ⟨by decide, rfl⟩ (Nat.le_of_ble_eq_true rfl) ?_
  have e569 : I (ad g 0) 1 = L := hI.1.2
  have b570 := BT_get hI.1.1 0 1 2 (0) (0) (900) (by decide) 1 (by decide) (by decide)
  rw [e569] at b570
  refine WQ_iconst (0) (0) dX11_find_0 rfl rfl (fun v571 hv571 => ?_)
  refine WP_istore_n (ls' := [(0, _), (1, _), (2, _), (3, _)]) dX11_find_1 (by decide) rfl ?_
  have lp2_572 : ∀ (mz : Nat) (i572 : Int32), 0 ≤ i572.toInt → i572.toInt ≤ 4 → i572.toInt ≤ ma.toInt → (5 - i572.toInt).toNat < mz → WP g mX11_find 2 [(0, .ref (ad g 0)), (1, .ref (ad g 4)), (2, .int ma), (3, .int i572)] [] I J R (fun r I' J' R' => (I' = I ∧ J' = J ∧ R' = R) ∧ ∃ v : Int32, r = some (.int v) ∧ -1 ≤ v.toInt ∧ v.toInt ≤ 3 ∧ (v.toInt < ma.toInt ∨ v.toInt = -1)) := by
    intro mz
    induction mz with
    | zero =>
      intro i572 ai572 bi572 j0_I hmlp2_572
      exact absurd hmlp2_572 (Nat.not_lt_zero _)
    | succ mz ihlp2_572 =>
      intro i572 ai572 bi572 j0_I hmlp2_572
      refine WP_iload_n dX11_find_2 rfl ?_
      refine WP_iload_n dX11_find_3 rfl ?_
      refine WQ_icmp_ge 26 dX11_find_4 rfl (fun c573 => ?_) (fun c573 => ?_)
      · refine WQ_iconst (-1) (-1) dX11_find_26 rfl rfl (fun v575 hv575 => ?_)
        exact WP_iret dX11_find_27 rfl ⟨⟨rfl, rfl, rfl⟩, _, rfl, by omega, by omega, by omega⟩
      · refine WP_aload_n dX11_find_7 rfl ?_
        refine WP_iload_n dX11_find_8 rfl ?_
        refine WQ_laldu dX11_find_9 (ly_is hy 4 14 rfl) (ly_n hy 4 4 rfl) (by omega) (by omega) (fun l576 => ?_)
        refine WP_aload_n dX11_find_10 rfl ?_
        refine WP_callV0 (k := 11) dX11_find_11 ⟨⟨⟨by decide, by decide⟩, zX11_name⟩, lX11_67, by decide, rfl, vX11_name.1, vX11_name.2⟩ (ly_is hy 0 11 rfl) (sm_name hy hr hI  ) (Nat.le_of_ble_eq_true rfl) ?_
        intro r Ia Ja Ra hq
        obtain ⟨⟨ea, eb, ec⟩, l577, rfl⟩ := hq
        show WP _ _ _ _ (.long _ :: _) _ _ _ _
        rw [ea, eb, ec]
        clear ea eb ec Ia Ja Ra
        refine WQ_lcmpu dX11_find_14 (fun v578 => ?_)
        refine WX_if_ne 20 dX11_find_15 rfl ?_ ?_
        · refine WP_iinc (ls' := [(0, _), (1, _), (2, _), (3, _)]) dX11_find_20 rfl (by decide) rfl ?_
          have hv579 : (i572 + Int32.ofInt (1)).toInt = i572.toInt + (1) := ia_n rfl (by omega) (by omega)
          generalize i572 + Int32.ofInt (1) = v579 at hv579 ⊢
          refine WP_goto 2 dX11_find_23 rfl ?_
          exact WP_sub (fc rfl (fc rfl (fc rfl (fc rfl fn)))) (ihlp2_572 v579 (by omega) (by omega) (by omega) (by omega))
        · refine WP_iload_n dX11_find_18 rfl ?_
          exact WP_iret dX11_find_19 rfl ⟨⟨rfl, rfl, rfl⟩, _, rfl, by omega, by omega, by omega⟩
  exact WP_sub (fc rfl (fc rfl (fc rfl (fc rfl fn)))) (lp2_572 _ v571 (by omega) (by omega) (by omega) (Nat.lt_succ_self _))
set_option maxHeartbeats 4000000 in
set_option maxRecDepth 100000 in
theorem sm_find_5 {g : GG} {n : Int} {L : Int32} (hy : Ly g)  {I : pI} {J : pJ} {R : pR} (hr : Rf g R) (hI : MP g n L I) (ma : Int32) (ma_lo : 0 ≤ ma.toInt) (ma_hi : ma.toInt ≤ 3) : SP g mX11_find [.ref (ad g 0), .ref (ad g 5), .int ma] I J R (fun r I' J' R' => (I' = I ∧ J' = J ∧ R' = R) ∧ ∃ v : Int32, r = some (.int v) ∧ -1 ≤ v.toInt ∧ v.toInt ≤ 2 ∧ (v.toInt < ma.toInt ∨ v.toInt = -1)) := by
  refine SP_of ⟨by decide, rfl⟩ (Nat.le_of_ble_eq_true rfl) ?_
  have e580 : I (ad g 0) 1 = L := hI.1.2
  have b581 := BT_get hI.1.1 0 1 2 (0) (0) (900) (by decide) 1 (by decide) (by decide)
  rw [e580] at b581
  refine WQ_iconst (0) (0) dX11_find_0 rfl rfl (fun v582 hv582 => ?_)
  refine WP_istore_n (ls' := [(0, _), (1, _), (2, _), (3, _)]) dX11_find_1 (by decide) rfl ?_
  have lp2_583 : ∀ (mz : Nat) (i583 : Int32), 0 ≤ i583.toInt → i583.toInt ≤ 3 → i583.toInt ≤ ma.toInt → (4 - i583.toInt).toNat < mz → WP g mX11_find 2 [(0, .ref (ad g 0)), (1, .ref (ad g 5)), (2, .int ma), (3, .int i583)] [] I J R (fun r I' J' R' => (I' = I ∧ J' = J ∧ R' = R) ∧ ∃ v : Int32, r = some (.int v) ∧ -1 ≤ v.toInt ∧ v.toInt ≤ 2 ∧ (v.toInt < ma.toInt ∨ v.toInt = -1)) := by
    intro mz
    induction mz with
    | zero =>
      intro i583 ai583 bi583 j0_I hmlp2_583
      exact absurd hmlp2_583 (Nat.not_lt_zero _)
    | succ mz ihlp2_583 =>
      intro i583 ai583 bi583 j0_I hmlp2_583
      refine WP_iload_n dX11_find_2 rfl ?_
      refine WP_iload_n dX11_find_3 rfl ?_
      refine WQ_icmp_ge 26 dX11_find_4 rfl (fun c584 => ?_) (fun c584 => ?_)
      · refine WQ_iconst (-1) (-1) dX11_find_26 rfl rfl (fun v586 hv586 => ?_)
        exact WP_iret dX11_find_27 rfl ⟨⟨rfl, rfl, rfl⟩, _, rfl, by omega, by omega, by omega⟩
      · refine WP_aload_n dX11_find_7 rfl ?_
        refine WP_iload_n dX11_find_8 rfl ?_
        refine WQ_laldu dX11_find_9 (ly_is hy 5 14 rfl) (ly_n hy 5 3 rfl) (by omega) (by omega) (fun l587 => ?_)
        refine WP_aload_n dX11_find_10 rfl ?_
        refine WP_callV0 (k := 11) dX11_find_11 ⟨⟨⟨by decide, by decide⟩, zX11_name⟩, lX11_67, by decide, rfl, vX11_name.1, vX11_name.2⟩ (ly_is hy 0 11 rfl) (sm_name hy hr hI  ) (Nat.le_of_ble_eq_true rfl) ?_
        intro r Ia Ja Ra hq
        obtain ⟨⟨ea, eb, ec⟩, l588, rfl⟩ := hq
        show WP _ _ _ _ (.long _ :: _) _ _ _ _
        rw [ea, eb, ec]
        clear ea eb ec Ia Ja Ra
        refine WQ_lcmpu dX11_find_14 (fun v589 => ?_)
        refine WX_if_ne 20 dX11_find_15 rfl ?_ ?_
        · refine WP_iinc (ls' := [(0, _), (1, _), (2, _), (3, _)]) dX11_find_20 rfl (by decide) rfl ?_
          have hv590 : (i583 + Int32.ofInt (1)).toInt = i583.toInt + (1) := ia_n rfl (by omega) (by omega)
          generalize i583 + Int32.ofInt (1) = v590 at hv590 ⊢
          refine WP_goto 2 dX11_find_23 rfl ?_
          exact WP_sub (fc rfl (fc rfl (fc rfl (fc rfl fn)))) (ihlp2_583 v590 (by omega) (by omega) (by omega) (by omega))
        · refine WP_iload_n dX11_find_18 rfl ?_
          exact WP_iret dX11_find_19 rfl ⟨⟨rfl, rfl, rfl⟩, _, rfl, by omega, by omega, by omega⟩
  exact WP_sub (fc rfl (fc rfl (fc rfl (fc rfl fn)))) (lp2_583 _ v582 (by omega) (by omega) (by omega) (Nat.lt_succ_self _))
set_option maxHeartbeats 4000000 in
set_option maxRecDepth 100000 in
theorem sm_peek {g : GG} {n : Int} {L : Int32} (hy : Ly g)  {I : pI} {J : pJ} {R : pR} (hr : Rf g R) (hI : MP g n L I) (lo : Int32) (hi : Int32) (lo_lo : -1 ≤ lo.toInt) (lo_hi : lo.toInt ≤ 1000) (hi_lo : -1 ≤ hi.toInt) (hi_hi : hi.toInt ≤ 1000) (hb : (I (ad g 0) 4).toInt ≤ (I (ad g 0) 2).toInt) : SP g mX11_peek [.ref (ad g 0), .int lo, .int hi] I J R (fun r I' J' R' => (MP g n L I' ∧ R' = R ∧ (I' (ad g 0) 4).toInt ≤ (I' (ad g 0) 2).toInt ∧ I' (ad g 0) 15 = I (ad g 0) 15 ∧ I' (ad g 0) 16 = I (ad g 0) 16) ∧ ∃ v : Int32, r = some (.int v) ∧ 0 ≤ v.toInt ∧ v.toInt ≤ 1 ∧ (v.toInt = 1 → lo.toInt ≤ (I' (ad g 0) 7).toInt ∧ (I' (ad g 0) 7).toInt ≤ hi.toInt)) := by
  refine SP_of ⟨by decide, rfl⟩ (Nat.le_of_ble_eq_true rfl) ?_
  have e591 : I (ad g 0) 1 = L := hI.1.2
  have b592 := BT_get hI.1.1 0 1 2 (0) (0) (900) (by decide) 1 (by decide) (by decide)
  rw [e591] at b592
  obtain ⟨w593, ew593⟩ : ∃ w : Int32, I (ad g 0) 15 = w := ⟨_, rfl⟩
  have bw593 := BT_get hI.1.1 0 15 16 (0) (0) (4) (by decide) 15 (by decide) (by decide)
  rw [ew593] at bw593
  obtain ⟨w594, ew594⟩ : ∃ w : Int32, I (ad g 0) 16 = w := ⟨_, rfl⟩
  have bw594 := BT_get hI.1.1 0 16 17 (0) (0) (3) (by decide) 16 (by decide) (by decide)
  rw [ew594] at bw594
  obtain ⟨w595, ew595⟩ : ∃ w : Int32, I (ad g 0) 4 = w := ⟨_, rfl⟩
  have bw595 := BT_get hI.1.1 0 4 5 (0) (0) (900) (by decide) 4 (by decide) (by decide)
  rw [ew595] at bw595
  obtain ⟨w596, ew596⟩ : ∃ w : Int32, I (ad g 0) 2 = w := ⟨_, rfl⟩
  have bw596 := BT_get hI.1.1 0 2 3 (0) (0) (900) (by decide) 2 (by decide) (by decide)
  rw [ew596] at bw596
  rw [ew595, ew596] at hb
  refine WP_aload_n dX11_peek_0 rfl ?_
  refine WQ_geti dX11_peek_1 fX11_27 rfl (ly_is hy 0 11 rfl) (BT_get hI.1.1 0 5 6 (0) (0) (4) (by decide) 5 (by decide) (by decide)) (fun v597 ev597 av597 bv597 => ?_)
  refine WQ_iconst (2) (2) dX11_peek_4 rfl rfl (fun v598 hv598 => ?_)
  refine WQ_icmp_eq 14 dX11_peek_5 rfl (fun c598 => ?_) (fun c598 => ?_)
  · refine WP_aload_n dX11_peek_14 rfl ?_
    refine WQ_getiu dX11_peek_15 fX11_37 rfl (ly_is hy 0 11 rfl) (fun v600 ev600 => ?_)
    refine WQ_i2l dX11_peek_18 (fun l601 hl601 => ?_)
    refine WP_iload_n dX11_peek_19 rfl ?_
    refine WQ_i2l dX11_peek_20 (fun l602 hl602 => ?_)
    refine WP_iload_n dX11_peek_21 rfl ?_
    refine WQ_i2l dX11_peek_22 (fun l603 hl603 => ?_)
    refine WP_callS3 dX11_peek_23 ⟨⟨⟨by decide, by decide⟩, zX11_in⟩, lX11_52, tX11_in⟩ (sm_in hy hr hI l601 l602 l603 ) (Nat.le_of_ble_eq_true rfl) ?_
    intro r Ia Ja Ra hq
    obtain ⟨⟨ea, eb, ec⟩, v604, rfl, av604, bv604, cv604⟩ := hq
    show WP _ _ _ _ (.int _ :: _) _ _ _ _
    rw [ea, eb, ec]
    clear ea eb ec Ia Ja Ra
    refine WQ_if_ne 35 dX11_peek_26 rfl (fun c604 => ?_) (fun c604 => ?_)
    · refine WP_aload_n dX11_peek_35 rfl ?_
      refine WP_aload_n dX11_peek_36 rfl ?_
      refine WQ_getim dX11_peek_37 fX11_37 rfl (ly_is hy 0 11 rfl) ev600 ?_
      refine WQ_puti dX11_peek_40 fX11_56 rfl rfl (ly_is hy 0 11 rfl) (fun I606 eI606 => ?_)
      have hI606 : MP g n L I606 := by rw [eI606]; exact (mp_w hy hI (c := 0) (mi_f hy hI.1 (c := 0) (-1) (0) (1000) (by decide) (Or.inr (by decide)) (by decide) (by omega) (by omega)) (by decide) (by decide) (Or.inr (by decide)))
      have e607 : I606 (ad g 0) 1 = L := by rw [eI606, pp_ne _ _ (Or.inr (by decide))]; exact e591
      have e608 : I606 (ad g 0) 15 = w593 := by rw [eI606, pp_ne _ _ (Or.inr (by decide))]; exact ew593
      have e609 : I606 (ad g 0) 16 = w594 := by rw [eI606, pp_ne _ _ (Or.inr (by decide))]; exact ew594
      have e610 : I606 (ad g 0) 4 = w595 := by rw [eI606, pp_ne _ _ (Or.inr (by decide))]; exact ew595
      have e611 : I606 (ad g 0) 2 = w596 := by rw [eI606, pp_ne _ _ (Or.inr (by decide))]; exact ew596
      have e612 : I606 (ad g 0) 5 = v597 := by rw [eI606, pp_ne _ _ (Or.inr (by decide))]; exact ev597
      have e613 : I606 (ad g 0) 6 = v600 := by rw [eI606, pp_ne _ _ (Or.inr (by decide))]; exact ev600
      have e614 : I606 (ad g 0) 7 = v600 := by rw [eI606, pp_self]
      clear eI606
      refine WQ_iconst (1) (1) dX11_peek_43 rfl rfl (fun v615 hv615 => ?_)
      exact WP_zret dX11_peek_44 rfl (nar_z (by omega)) ⟨⟨hI606, rfl, ⟨(by rw [e610, e611]; omega), (by rw [e608, ew593] <;> exact (eq32 _ _).mpr (by omega)), (by rw [e609, ew594] <;> exact (eq32 _ _).mpr (by omega))⟩⟩, _, rfl, by omega, by omega, by (try rw [e614]); omega⟩
    · refine WP_aload_n dX11_peek_29 rfl ?_
      refine WQ_iconst (2) (2) dX11_peek_30 rfl rfl (fun v616 hv616 => ?_)
      refine WP_callV1 (k := 11) dX11_peek_31 ⟨⟨⟨by decide, by decide⟩, zX11_bad⟩, lX11_49, by decide, rfl, vX11_bad.1, vX11_bad.2⟩ (ly_is hy 0 11 rfl) (sm_bad2 hy hr hI v616  (by rw [ew595, ew596]; omega)) (Nat.le_of_ble_eq_true rfl) ?_
      intro r I617 J618 Ra hq
      obtain ⟨⟨hI617, ec, ⟨pI617, sI617_0_15, sI617_0_16⟩⟩, v619, rfl, av619, bv619⟩ := hq
      show WP _ _ _ _ (.int _ :: _) _ _ _ _
      rw [ec]
      clear ec Ra
      have e620 : I617 (ad g 0) 15 = w593 := by rw [sI617_0_15]; exact ew593
      have e621 : I617 (ad g 0) 16 = w594 := by rw [sI617_0_16]; exact ew594
      have e622 : I617 (ad g 0) 1 = L := hI617.1.2
      have b623 := BT_get hI617.1.1 0 1 2 (0) (0) (900) (by decide) 1 (by decide) (by decide)
      rw [e622] at b623
      obtain ⟨w624, ew624⟩ : ∃ w : Int32, I617 (ad g 0) 4 = w := ⟨_, rfl⟩
      have bw624 := BT_get hI617.1.1 0 4 5 (0) (0) (900) (by decide) 4 (by decide) (by decide)
      rw [ew624] at bw624
      obtain ⟨w625, ew625⟩ : ∃ w : Int32, I617 (ad g 0) 2 = w := ⟨_, rfl⟩
      have bw625 := BT_get hI617.1.1 0 2 3 (0) (0) (900) (by decide) 2 (by decide) (by decide)
      rw [ew625] at bw625
      rw [ew624, ew625] at pI617
      obtain ⟨w626, ew626⟩ : ∃ w : Int32, I617 (ad g 0) 7 = w := ⟨_, rfl⟩
      have bw626 := BT_get hI617.1.1 0 7 8 (-1) (0) (1000) (by decide) 7 (by decide) (by decide)
      rw [ew626] at bw626
      exact WP_zret dX11_peek_34 rfl (nar_z (by omega)) ⟨⟨hI617, rfl, ⟨(by rw [ew624, ew625]; omega), (by rw [e620, ew593] <;> exact (eq32 _ _).mpr (by omega)), (by rw [e621, ew594] <;> exact (eq32 _ _).mpr (by omega))⟩⟩, _, rfl, by omega, by omega, by (try rw [ew626]); omega⟩
  · refine WP_aload_n dX11_peek_8 rfl ?_
    refine WQ_iconst (1) (1) dX11_peek_9 rfl rfl (fun v627 hv627 => ?_)
    refine WP_callV1 (k := 11) dX11_peek_10 ⟨⟨⟨by decide, by decide⟩, zX11_bad⟩, lX11_49, by decide, rfl, vX11_bad.1, vX11_bad.2⟩ (ly_is hy 0 11 rfl) (sm_bad2 hy hr hI v627  (by rw [ew595, ew596]; omega)) (Nat.le_of_ble_eq_true rfl) ?_
    intro r I628 J629 Ra hq
    obtain ⟨⟨hI628, ec, ⟨pI628, sI628_0_15, sI628_0_16⟩⟩, v630, rfl, av630, bv630⟩ := hq
    show WP _ _ _ _ (.int _ :: _) _ _ _ _
    rw [ec]
    clear ec Ra
    have e631 : I628 (ad g 0) 15 = w593 := by rw [sI628_0_15]; exact ew593
    have e632 : I628 (ad g 0) 16 = w594 := by rw [sI628_0_16]; exact ew594
    have e633 : I628 (ad g 0) 1 = L := hI628.1.2
    have b634 := BT_get hI628.1.1 0 1 2 (0) (0) (900) (by decide) 1 (by decide) (by decide)
    rw [e633] at b634
    obtain ⟨w635, ew635⟩ : ∃ w : Int32, I628 (ad g 0) 4 = w := ⟨_, rfl⟩
    have bw635 := BT_get hI628.1.1 0 4 5 (0) (0) (900) (by decide) 4 (by decide) (by decide)
    rw [ew635] at bw635
    obtain ⟨w636, ew636⟩ : ∃ w : Int32, I628 (ad g 0) 2 = w := ⟨_, rfl⟩
    have bw636 := BT_get hI628.1.1 0 2 3 (0) (0) (900) (by decide) 2 (by decide) (by decide)
    rw [ew636] at bw636
    rw [ew635, ew636] at pI628
    obtain ⟨w637, ew637⟩ : ∃ w : Int32, I628 (ad g 0) 7 = w := ⟨_, rfl⟩
    have bw637 := BT_get hI628.1.1 0 7 8 (-1) (0) (1000) (by decide) 7 (by decide) (by decide)
    rw [ew637] at bw637
    exact WP_zret dX11_peek_13 rfl (nar_z (by omega)) ⟨⟨hI628, rfl, ⟨(by rw [ew635, ew636]; omega), (by rw [e631, ew593] <;> exact (eq32 _ _).mpr (by omega)), (by rw [e632, ew594] <;> exact (eq32 _ _).mpr (by omega))⟩⟩, _, rfl, by omega, by omega, by (try rw [ew637]); omega⟩
set_option maxHeartbeats 4000000 in
set_option maxRecDepth 100000 in
theorem sm_number {g : GG} {n : Int} {L : Int32} (hy : Ly g)  {I : pI} {J : pJ} {R : pR} (hr : Rf g R) (hI : MP g n L I) (lo : Int32) (hi : Int32) (lo_lo : -1 ≤ lo.toInt) (lo_hi : lo.toInt ≤ 1000) (hi_lo : -1 ≤ hi.toInt) (hi_hi : hi.toInt ≤ 1000) (hb : (I (ad g 0) 4).toInt ≤ (I (ad g 0) 2).toInt) : SP g mX11_number [.ref (ad g 0), .int lo, .int hi] I J R (fun r I' J' R' => (MP g n L I' ∧ R' = R ∧ (I' (ad g 0) 4).toInt ≤ (I' (ad g 0) 2).toInt ∧ I' (ad g 0) 15 = I (ad g 0) 15 ∧ I' (ad g 0) 16 = I (ad g 0) 16) ∧ ∃ v : Int32, r = some (.int v) ∧ 0 ≤ v.toInt ∧ v.toInt ≤ 1 ∧ (v.toInt = 1 → lo.toInt ≤ (I' (ad g 0) 7).toInt ∧ (I' (ad g 0) 7).toInt ≤ hi.toInt)) := by
  refine SP_of ⟨by decide, rfl⟩ (Nat.le_of_ble_eq_true rfl) ?_
  have e638 : I (ad g 0) 1 = L := hI.1.2
  have b639 := BT_get hI.1.1 0 1 2 (0) (0) (900) (by decide) 1 (by decide) (by decide)
  rw [e638] at b639
  obtain ⟨w640, ew640⟩ : ∃ w : Int32, I (ad g 0) 15 = w := ⟨_, rfl⟩
  have bw640 := BT_get hI.1.1 0 15 16 (0) (0) (4) (by decide) 15 (by decide) (by decide)
  rw [ew640] at bw640
  obtain ⟨w641, ew641⟩ : ∃ w : Int32, I (ad g 0) 16 = w := ⟨_, rfl⟩
  have bw641 := BT_get hI.1.1 0 16 17 (0) (0) (3) (by decide) 16 (by decide) (by decide)
  rw [ew641] at bw641
  obtain ⟨w642, ew642⟩ : ∃ w : Int32, I (ad g 0) 4 = w := ⟨_, rfl⟩
  have bw642 := BT_get hI.1.1 0 4 5 (0) (0) (900) (by decide) 4 (by decide) (by decide)
  rw [ew642] at bw642
  obtain ⟨w643, ew643⟩ : ∃ w : Int32, I (ad g 0) 2 = w := ⟨_, rfl⟩
  have bw643 := BT_get hI.1.1 0 2 3 (0) (0) (900) (by decide) 2 (by decide) (by decide)
  rw [ew643] at bw643
  rw [ew642, ew643] at hb
  refine WP_aload_n dX11_number_0 rfl ?_
  refine WP_iload_n dX11_number_1 rfl ?_
  refine WP_iload_n dX11_number_2 rfl ?_
  refine WP_callV2 (k := 11) dX11_number_3 ⟨⟨⟨by decide, by decide⟩, zX11_peek⟩, lX11_59, by decide, rfl, vX11_peek.1, vX11_peek.2⟩ (ly_is hy 0 11 rfl) (sm_peek hy hr hI lo hi (by omega) (by omega) (by omega) (by omega) (by rw [ew642, ew643]; omega)) (Nat.le_of_ble_eq_true rfl) ?_
  intro r I644 J645 Ra hq
  obtain ⟨⟨hI644, ec, ⟨pI644, sI644_0_15, sI644_0_16⟩⟩, v646, rfl, av646, bv646, cv646⟩ := hq
  show WP _ _ _ _ (.int _ :: _) _ _ _ _
  rw [ec]
  clear ec Ra
  have e647 : I644 (ad g 0) 15 = w640 := by rw [sI644_0_15]; exact ew640
  have e648 : I644 (ad g 0) 16 = w641 := by rw [sI644_0_16]; exact ew641
  have e649 : I644 (ad g 0) 1 = L := hI644.1.2
  have b650 := BT_get hI644.1.1 0 1 2 (0) (0) (900) (by decide) 1 (by decide) (by decide)
  rw [e649] at b650
  obtain ⟨w651, ew651⟩ : ∃ w : Int32, I644 (ad g 0) 4 = w := ⟨_, rfl⟩
  have bw651 := BT_get hI644.1.1 0 4 5 (0) (0) (900) (by decide) 4 (by decide) (by decide)
  rw [ew651] at bw651
  obtain ⟨w652, ew652⟩ : ∃ w : Int32, I644 (ad g 0) 2 = w := ⟨_, rfl⟩
  have bw652 := BT_get hI644.1.1 0 2 3 (0) (0) (900) (by decide) 2 (by decide) (by decide)
  rw [ew652] at bw652
  rw [ew651, ew652] at pI644
  obtain ⟨w653, ew653⟩ : ∃ w : Int32, I644 (ad g 0) 7 = w := ⟨_, rfl⟩
  have bw653 := BT_get hI644.1.1 0 7 8 (-1) (0) (1000) (by decide) 7 (by decide) (by decide)
  rw [ew653] at bw653
  rw [ew653] at cv646
  refine WQ_if_ne 11 dX11_number_6 rfl (fun c653 => ?_) (fun c653 => ?_)
  · refine WP_aload_n dX11_number_11 rfl ?_
    refine WP_callV0 (k := 11) dX11_number_12 ⟨⟨⟨by decide, by decide⟩, zX11_scan⟩, lX11_63, by decide, rfl, vX11_scan.1, vX11_scan.2⟩ (ly_is hy 0 11 rfl) (sm_scan hy hr hI644   (by rw [ew651, ew652]; omega)) (Nat.le_of_ble_eq_true rfl) ?_
    intro r I655 J656 Ra hq
    obtain ⟨⟨hI655, ec, ⟨pI655, sI655_0_7, sI655_0_15, sI655_0_16⟩⟩, rfl⟩ := hq
    rw [ec]
    clear ec Ra
    have e657 : I655 (ad g 0) 7 = w653 := by rw [sI655_0_7]; exact ew653
    have e658 : I655 (ad g 0) 15 = w640 := by rw [sI655_0_15]; exact e647
    have e659 : I655 (ad g 0) 16 = w641 := by rw [sI655_0_16]; exact e648
    have e660 : I655 (ad g 0) 1 = L := hI655.1.2
    have b661 := BT_get hI655.1.1 0 1 2 (0) (0) (900) (by decide) 1 (by decide) (by decide)
    rw [e660] at b661
    obtain ⟨w662, ew662⟩ : ∃ w : Int32, I655 (ad g 0) 4 = w := ⟨_, rfl⟩
    have bw662 := BT_get hI655.1.1 0 4 5 (0) (0) (900) (by decide) 4 (by decide) (by decide)
    rw [ew662] at bw662
    obtain ⟨w663, ew663⟩ : ∃ w : Int32, I655 (ad g 0) 2 = w := ⟨_, rfl⟩
    have bw663 := BT_get hI655.1.1 0 2 3 (0) (0) (900) (by decide) 2 (by decide) (by decide)
    rw [ew663] at bw663
    rw [ew662, ew663] at pI655
    refine WQ_iconst (1) (1) dX11_number_15 rfl rfl (fun v664 hv664 => ?_)
    exact WP_zret dX11_number_16 rfl (nar_z (by omega)) ⟨⟨hI655, rfl, ⟨(by rw [ew662, ew663]; omega), (by rw [e658, ew640] <;> exact (eq32 _ _).mpr (by omega)), (by rw [e659, ew641] <;> exact (eq32 _ _).mpr (by omega))⟩⟩, _, rfl, by omega, by omega, by (try rw [e657]); omega⟩
  · refine WQ_iconst (0) (0) dX11_number_9 rfl rfl (fun v665 hv665 => ?_)
    exact WP_zret dX11_number_10 rfl (nar_z (by omega)) ⟨⟨hI644, rfl, ⟨(by rw [ew651, ew652]; omega), (by rw [e647, ew640] <;> exact (eq32 _ _).mpr (by omega)), (by rw [e648, ew641] <;> exact (eq32 _ _).mpr (by omega))⟩⟩, _, rfl, by omega, by omega, by (try rw [ew653]); omega⟩
set_option maxHeartbeats 4000000 in
set_option maxRecDepth 100000 in
theorem sm_close {g : GG} {n : Int} {L : Int32} (hy : Ly g)  {I : pI} {J : pJ} {R : pR} (hr : Rf g R) (hI : MP g n L I)   (hb : (I (ad g 0) 4).toInt ≤ (I (ad g 0) 2).toInt) : SP g mX11_close [.ref (ad g 0)] I J R (fun r I' J' R' => (MP g n L I' ∧ R' = R ∧ (I' (ad g 0) 4).toInt ≤ (I' (ad g 0) 2).toInt ∧ I' (ad g 0) 15 = I (ad g 0) 15 ∧ I' (ad g 0) 16 = I (ad g 0) 16) ∧ ∃ v : Int32, r = some (.int v) ∧ 0 ≤ v.toInt ∧ v.toInt ≤ 1) := by
  refine SP_of ⟨by decide, rfl⟩ (Nat.le_of_ble_eq_true rfl) ?_
  have e666 : I (ad g 0) 1 = L := hI.1.2
  have b667 := BT_get hI.1.1 0 1 2 (0) (0) (900) (by decide) 1 (by decide) (by decide)
  rw [e666] at b667
  obtain ⟨w668, ew668⟩ : ∃ w : Int32, I (ad g 0) 15 = w := ⟨_, rfl⟩
  have bw668 := BT_get hI.1.1 0 15 16 (0) (0) (4) (by decide) 15 (by decide) (by decide)
  rw [ew668] at bw668
  obtain ⟨w669, ew669⟩ : ∃ w : Int32, I (ad g 0) 16 = w := ⟨_, rfl⟩
  have bw669 := BT_get hI.1.1 0 16 17 (0) (0) (3) (by decide) 16 (by decide) (by decide)
  rw [ew669] at bw669
  obtain ⟨w670, ew670⟩ : ∃ w : Int32, I (ad g 0) 4 = w := ⟨_, rfl⟩
  have bw670 := BT_get hI.1.1 0 4 5 (0) (0) (900) (by decide) 4 (by decide) (by decide)
  rw [ew670] at bw670
  obtain ⟨w671, ew671⟩ : ∃ w : Int32, I (ad g 0) 2 = w := ⟨_, rfl⟩
  have bw671 := BT_get hI.1.1 0 2 3 (0) (0) (900) (by decide) 2 (by decide) (by decide)
  rw [ew671] at bw671
  rw [ew670, ew671] at hb
  refine WP_aload_n dX11_close_0 rfl ?_
  refine WQ_geti dX11_close_1 fX11_27 rfl (ly_is hy 0 11 rfl) (BT_get hI.1.1 0 5 6 (0) (0) (4) (by decide) 5 (by decide) (by decide)) (fun v672 ev672 av672 bv672 => ?_)
  refine WQ_iconst (3) (3) dX11_close_4 rfl rfl (fun v673 hv673 => ?_)
  refine WQ_icmp_eq 14 dX11_close_5 rfl (fun c673 => ?_) (fun c673 => ?_)
  · refine WP_aload_n dX11_close_14 rfl ?_
    refine WP_callV0 (k := 11) dX11_close_15 ⟨⟨⟨by decide, by decide⟩, zX11_scan⟩, lX11_63, by decide, rfl, vX11_scan.1, vX11_scan.2⟩ (ly_is hy 0 11 rfl) (sm_scan hy hr hI   (by rw [ew670, ew671]; omega)) (Nat.le_of_ble_eq_true rfl) ?_
    intro r I675 J676 Ra hq
    obtain ⟨⟨hI675, ec, ⟨pI675, sI675_0_7, sI675_0_15, sI675_0_16⟩⟩, rfl⟩ := hq
    rw [ec]
    clear ec Ra
    have e677 : I675 (ad g 0) 15 = w668 := by rw [sI675_0_15]; exact ew668
    have e678 : I675 (ad g 0) 16 = w669 := by rw [sI675_0_16]; exact ew669
    have e679 : I675 (ad g 0) 1 = L := hI675.1.2
    have b680 := BT_get hI675.1.1 0 1 2 (0) (0) (900) (by decide) 1 (by decide) (by decide)
    rw [e679] at b680
    obtain ⟨w681, ew681⟩ : ∃ w : Int32, I675 (ad g 0) 4 = w := ⟨_, rfl⟩
    have bw681 := BT_get hI675.1.1 0 4 5 (0) (0) (900) (by decide) 4 (by decide) (by decide)
    rw [ew681] at bw681
    obtain ⟨w682, ew682⟩ : ∃ w : Int32, I675 (ad g 0) 2 = w := ⟨_, rfl⟩
    have bw682 := BT_get hI675.1.1 0 2 3 (0) (0) (900) (by decide) 2 (by decide) (by decide)
    rw [ew682] at bw682
    rw [ew681, ew682] at pI675
    refine WQ_iconst (1) (1) dX11_close_18 rfl rfl (fun v683 hv683 => ?_)
    exact WP_zret dX11_close_19 rfl (nar_z (by omega)) ⟨⟨hI675, rfl, ⟨(by rw [ew681, ew682]; omega), (by rw [e677, ew668] <;> exact (eq32 _ _).mpr (by omega)), (by rw [e678, ew669] <;> exact (eq32 _ _).mpr (by omega))⟩⟩, _, rfl, by omega, by omega⟩
  · refine WP_aload_n dX11_close_8 rfl ?_
    refine WQ_iconst (1) (1) dX11_close_9 rfl rfl (fun v684 hv684 => ?_)
    refine WP_callV1 (k := 11) dX11_close_10 ⟨⟨⟨by decide, by decide⟩, zX11_bad⟩, lX11_49, by decide, rfl, vX11_bad.1, vX11_bad.2⟩ (ly_is hy 0 11 rfl) (sm_bad2 hy hr hI v684  (by rw [ew670, ew671]; omega)) (Nat.le_of_ble_eq_true rfl) ?_
    intro r I685 J686 Ra hq
    obtain ⟨⟨hI685, ec, ⟨pI685, sI685_0_15, sI685_0_16⟩⟩, v687, rfl, av687, bv687⟩ := hq
    show WP _ _ _ _ (.int _ :: _) _ _ _ _
    rw [ec]
    clear ec Ra
    have e688 : I685 (ad g 0) 15 = w668 := by rw [sI685_0_15]; exact ew668
    have e689 : I685 (ad g 0) 16 = w669 := by rw [sI685_0_16]; exact ew669
    have e690 : I685 (ad g 0) 1 = L := hI685.1.2
    have b691 := BT_get hI685.1.1 0 1 2 (0) (0) (900) (by decide) 1 (by decide) (by decide)
    rw [e690] at b691
    obtain ⟨w692, ew692⟩ : ∃ w : Int32, I685 (ad g 0) 4 = w := ⟨_, rfl⟩
    have bw692 := BT_get hI685.1.1 0 4 5 (0) (0) (900) (by decide) 4 (by decide) (by decide)
    rw [ew692] at bw692
    obtain ⟨w693, ew693⟩ : ∃ w : Int32, I685 (ad g 0) 2 = w := ⟨_, rfl⟩
    have bw693 := BT_get hI685.1.1 0 2 3 (0) (0) (900) (by decide) 2 (by decide) (by decide)
    rw [ew693] at bw693
    rw [ew692, ew693] at pI685
    exact WP_zret dX11_close_13 rfl (nar_z (by omega)) ⟨⟨hI685, rfl, ⟨(by rw [ew692, ew693]; omega), (by rw [e688, ew668] <;> exact (eq32 _ _).mpr (by omega)), (by rw [e689, ew669] <;> exact (eq32 _ _).mpr (by omega))⟩⟩, _, rfl, by omega, by omega⟩
set_option maxHeartbeats 4000000 in
set_option maxRecDepth 100000 in
theorem sm_known_2 {g : GG} {n : Int} {L : Int32} (hy : Ly g)  {I : pI} {J : pJ} {R : pR} (hr : Rf g R) (hI : MP g n L I) (ma : Int32) (ma_lo : 0 ≤ ma.toInt) (ma_hi : ma.toInt ≤ 4) (hb : (I (ad g 0) 4).toInt ≤ (I (ad g 0) 2).toInt) : SP g mX11_known [.ref (ad g 0), .ref (ad g 2), .int ma] I J R (fun r I' J' R' => (MP g n L I' ∧ R' = R ∧ (I' (ad g 0) 4).toInt ≤ (I' (ad g 0) 2).toInt ∧ I' (ad g 0) 15 = I (ad g 0) 15 ∧ I' (ad g 0) 16 = I (ad g 0) 16) ∧ ∃ v : Int32, r = some (.int v) ∧ 0 ≤ v.toInt ∧ v.toInt ≤ 1 ∧ (v.toInt = 1 → 0 ≤ (I' (ad g 0) 7).toInt ∧ (I' (ad g 0) 7).toInt ≤ 3)) := by
  refine SP_of ⟨by decide, rfl⟩ (Nat.le_of_ble_eq_true rfl) ?_
  have e694 : I (ad g 0) 1 = L := hI.1.2
  have b695 := BT_get hI.1.1 0 1 2 (0) (0) (900) (by decide) 1 (by decide) (by decide)
  rw [e694] at b695
  obtain ⟨w696, ew696⟩ : ∃ w : Int32, I (ad g 0) 15 = w := ⟨_, rfl⟩
  have bw696 := BT_get hI.1.1 0 15 16 (0) (0) (4) (by decide) 15 (by decide) (by decide)
  rw [ew696] at bw696
  obtain ⟨w697, ew697⟩ : ∃ w : Int32, I (ad g 0) 16 = w := ⟨_, rfl⟩
  have bw697 := BT_get hI.1.1 0 16 17 (0) (0) (3) (by decide) 16 (by decide) (by decide)
  rw [ew697] at bw697
  obtain ⟨w698, ew698⟩ : ∃ w : Int32, I (ad g 0) 4 = w := ⟨_, rfl⟩
  have bw698 := BT_get hI.1.1 0 4 5 (0) (0) (900) (by decide) 4 (by decide) (by decide)
  rw [ew698] at bw698
  obtain ⟨w699, ew699⟩ : ∃ w : Int32, I (ad g 0) 2 = w := ⟨_, rfl⟩
  have bw699 := BT_get hI.1.1 0 2 3 (0) (0) (900) (by decide) 2 (by decide) (by decide)
  rw [ew699] at bw699
  rw [ew698, ew699] at hb
  refine WP_aload_n dX11_known_0 rfl ?_
  refine WQ_geti dX11_known_1 fX11_27 rfl (ly_is hy 0 11 rfl) (BT_get hI.1.1 0 5 6 (0) (0) (4) (by decide) 5 (by decide) (by decide)) (fun v700 ev700 av700 bv700 => ?_)
  refine WQ_iconst (1) (1) dX11_known_4 rfl rfl (fun v701 hv701 => ?_)
  refine WQ_icmp_eq 14 dX11_known_5 rfl (fun c701 => ?_) (fun c701 => ?_)
  · refine WP_aload_n dX11_known_14 rfl ?_
    refine WP_aload_n dX11_known_15 rfl ?_
    refine WP_aload_n dX11_known_16 rfl ?_
    refine WP_iload_n dX11_known_17 rfl ?_
    refine WP_callV2 (k := 11) dX11_known_18 ⟨⟨⟨by decide, by decide⟩, zX11_find⟩, lX11_71, by decide, rfl, vX11_find.1, vX11_find.2⟩ (ly_is hy 0 11 rfl) (sm_find_2 hy hr hI ma (by omega) (by omega)) (Nat.le_of_ble_eq_true rfl) ?_
    intro r Ia Ja Ra hq
    obtain ⟨⟨ea, eb, ec⟩, v703, rfl, av703, bv703, cv703⟩ := hq
    show WP _ _ _ _ (.int _ :: _) _ _ _ _
    rw [ea, eb, ec]
    clear ea eb ec Ia Ja Ra
    refine WQ_puti dX11_known_21 fX11_56 rfl rfl (ly_is hy 0 11 rfl) (fun I704 eI704 => ?_)
    have hI704 : MP g n L I704 := by rw [eI704]; exact (mp_w hy hI (c := 0) (mi_f hy hI.1 (c := 0) (-1) (0) (1000) (by decide) (Or.inr (by decide)) (by decide) (by omega) (by omega)) (by decide) (by decide) (Or.inr (by decide)))
    have e705 : I704 (ad g 0) 1 = L := by rw [eI704, pp_ne _ _ (Or.inr (by decide))]; exact e694
    have e706 : I704 (ad g 0) 15 = w696 := by rw [eI704, pp_ne _ _ (Or.inr (by decide))]; exact ew696
    have e707 : I704 (ad g 0) 16 = w697 := by rw [eI704, pp_ne _ _ (Or.inr (by decide))]; exact ew697
    have e708 : I704 (ad g 0) 4 = w698 := by rw [eI704, pp_ne _ _ (Or.inr (by decide))]; exact ew698
    have e709 : I704 (ad g 0) 2 = w699 := by rw [eI704, pp_ne _ _ (Or.inr (by decide))]; exact ew699
    have e710 : I704 (ad g 0) 5 = v700 := by rw [eI704, pp_ne _ _ (Or.inr (by decide))]; exact ev700
    have e711 : I704 (ad g 0) 7 = v703 := by rw [eI704, pp_self]
    clear eI704
    refine WP_aload_n dX11_known_24 rfl ?_
    refine WQ_getim dX11_known_25 fX11_56 rfl (ly_is hy 0 11 rfl) e711 ?_
    refine WQ_iconst (-1) (-1) dX11_known_28 rfl rfl (fun v712 hv712 => ?_)
    refine WQ_icmp_ne 38 dX11_known_29 rfl (fun c712 => ?_) (fun c712 => ?_)
    · refine WP_aload_n dX11_known_38 rfl ?_
      refine WP_callV0 (k := 11) dX11_known_39 ⟨⟨⟨by decide, by decide⟩, zX11_scan⟩, lX11_63, by decide, rfl, vX11_scan.1, vX11_scan.2⟩ (ly_is hy 0 11 rfl) (sm_scan hy hr hI704   (by rw [e708, e709]; omega)) (Nat.le_of_ble_eq_true rfl) ?_
      intro r I714 J715 Ra hq
      obtain ⟨⟨hI714, ec, ⟨pI714, sI714_0_7, sI714_0_15, sI714_0_16⟩⟩, rfl⟩ := hq
      rw [ec]
      clear ec Ra
      have e716 : I714 (ad g 0) 7 = v703 := by rw [sI714_0_7]; exact e711
      have e717 : I714 (ad g 0) 15 = w696 := by rw [sI714_0_15]; exact e706
      have e718 : I714 (ad g 0) 16 = w697 := by rw [sI714_0_16]; exact e707
      have e719 : I714 (ad g 0) 1 = L := hI714.1.2
      have b720 := BT_get hI714.1.1 0 1 2 (0) (0) (900) (by decide) 1 (by decide) (by decide)
      rw [e719] at b720
      obtain ⟨w721, ew721⟩ : ∃ w : Int32, I714 (ad g 0) 4 = w := ⟨_, rfl⟩
      have bw721 := BT_get hI714.1.1 0 4 5 (0) (0) (900) (by decide) 4 (by decide) (by decide)
      rw [ew721] at bw721
      obtain ⟨w722, ew722⟩ : ∃ w : Int32, I714 (ad g 0) 2 = w := ⟨_, rfl⟩
      have bw722 := BT_get hI714.1.1 0 2 3 (0) (0) (900) (by decide) 2 (by decide) (by decide)
      rw [ew722] at bw722
      rw [ew721, ew722] at pI714
      refine WQ_iconst (1) (1) dX11_known_42 rfl rfl (fun v723 hv723 => ?_)
      exact WP_zret dX11_known_43 rfl (nar_z (by omega)) ⟨⟨hI714, rfl, ⟨(by rw [ew721, ew722]; omega), (by rw [e717, ew696] <;> exact (eq32 _ _).mpr (by omega)), (by rw [e718, ew697] <;> exact (eq32 _ _).mpr (by omega))⟩⟩, _, rfl, by omega, by omega, by (try rw [e716]); omega⟩
    · refine WP_aload_n dX11_known_32 rfl ?_
      refine WQ_iconst (5) (5) dX11_known_33 rfl rfl (fun v724 hv724 => ?_)
      refine WP_callV1 (k := 11) dX11_known_34 ⟨⟨⟨by decide, by decide⟩, zX11_bad⟩, lX11_49, by decide, rfl, vX11_bad.1, vX11_bad.2⟩ (ly_is hy 0 11 rfl) (sm_bad2 hy hr hI704 v724  (by rw [e708, e709]; omega)) (Nat.le_of_ble_eq_true rfl) ?_
      intro r I725 J726 Ra hq
      obtain ⟨⟨hI725, ec, ⟨pI725, sI725_0_15, sI725_0_16⟩⟩, v727, rfl, av727, bv727⟩ := hq
      show WP _ _ _ _ (.int _ :: _) _ _ _ _
      rw [ec]
      clear ec Ra
      have e728 : I725 (ad g 0) 15 = w696 := by rw [sI725_0_15]; exact e706
      have e729 : I725 (ad g 0) 16 = w697 := by rw [sI725_0_16]; exact e707
      have e730 : I725 (ad g 0) 1 = L := hI725.1.2
      have b731 := BT_get hI725.1.1 0 1 2 (0) (0) (900) (by decide) 1 (by decide) (by decide)
      rw [e730] at b731
      obtain ⟨w732, ew732⟩ : ∃ w : Int32, I725 (ad g 0) 4 = w := ⟨_, rfl⟩
      have bw732 := BT_get hI725.1.1 0 4 5 (0) (0) (900) (by decide) 4 (by decide) (by decide)
      rw [ew732] at bw732
      obtain ⟨w733, ew733⟩ : ∃ w : Int32, I725 (ad g 0) 2 = w := ⟨_, rfl⟩
      have bw733 := BT_get hI725.1.1 0 2 3 (0) (0) (900) (by decide) 2 (by decide) (by decide)
      rw [ew733] at bw733
      rw [ew732, ew733] at pI725
      obtain ⟨w734, ew734⟩ : ∃ w : Int32, I725 (ad g 0) 7 = w := ⟨_, rfl⟩
      have bw734 := BT_get hI725.1.1 0 7 8 (-1) (0) (1000) (by decide) 7 (by decide) (by decide)
      rw [ew734] at bw734
      exact WP_zret dX11_known_37 rfl (nar_z (by omega)) ⟨⟨hI725, rfl, ⟨(by rw [ew732, ew733]; omega), (by rw [e728, ew696] <;> exact (eq32 _ _).mpr (by omega)), (by rw [e729, ew697] <;> exact (eq32 _ _).mpr (by omega))⟩⟩, _, rfl, by omega, by omega, by (try rw [ew734]); omega⟩
  · refine WP_aload_n dX11_known_8 rfl ?_
    refine WQ_iconst (1) (1) dX11_known_9 rfl rfl (fun v735 hv735 => ?_)
    refine WP_callV1 (k := 11) dX11_known_10 ⟨⟨⟨by decide, by decide⟩, zX11_bad⟩, lX11_49, by decide, rfl, vX11_bad.1, vX11_bad.2⟩ (ly_is hy 0 11 rfl) (sm_bad2 hy hr hI v735  (by rw [ew698, ew699]; omega)) (Nat.le_of_ble_eq_true rfl) ?_
    intro r I736 J737 Ra hq
    obtain ⟨⟨hI736, ec, ⟨pI736, sI736_0_15, sI736_0_16⟩⟩, v738, rfl, av738, bv738⟩ := hq
    show WP _ _ _ _ (.int _ :: _) _ _ _ _
    rw [ec]
    clear ec Ra
    have e739 : I736 (ad g 0) 15 = w696 := by rw [sI736_0_15]; exact ew696
    have e740 : I736 (ad g 0) 16 = w697 := by rw [sI736_0_16]; exact ew697
    have e741 : I736 (ad g 0) 1 = L := hI736.1.2
    have b742 := BT_get hI736.1.1 0 1 2 (0) (0) (900) (by decide) 1 (by decide) (by decide)
    rw [e741] at b742
    obtain ⟨w743, ew743⟩ : ∃ w : Int32, I736 (ad g 0) 4 = w := ⟨_, rfl⟩
    have bw743 := BT_get hI736.1.1 0 4 5 (0) (0) (900) (by decide) 4 (by decide) (by decide)
    rw [ew743] at bw743
    obtain ⟨w744, ew744⟩ : ∃ w : Int32, I736 (ad g 0) 2 = w := ⟨_, rfl⟩
    have bw744 := BT_get hI736.1.1 0 2 3 (0) (0) (900) (by decide) 2 (by decide) (by decide)
    rw [ew744] at bw744
    rw [ew743, ew744] at pI736
    obtain ⟨w745, ew745⟩ : ∃ w : Int32, I736 (ad g 0) 7 = w := ⟨_, rfl⟩
    have bw745 := BT_get hI736.1.1 0 7 8 (-1) (0) (1000) (by decide) 7 (by decide) (by decide)
    rw [ew745] at bw745
    exact WP_zret dX11_known_13 rfl (nar_z (by omega)) ⟨⟨hI736, rfl, ⟨(by rw [ew743, ew744]; omega), (by rw [e739, ew696] <;> exact (eq32 _ _).mpr (by omega)), (by rw [e740, ew697] <;> exact (eq32 _ _).mpr (by omega))⟩⟩, _, rfl, by omega, by omega, by (try rw [ew745]); omega⟩
set_option maxHeartbeats 4000000 in
set_option maxRecDepth 100000 in
theorem sm_known_3 {g : GG} {n : Int} {L : Int32} (hy : Ly g)  {I : pI} {J : pJ} {R : pR} (hr : Rf g R) (hI : MP g n L I) (ma : Int32) (ma_lo : 0 ≤ ma.toInt) (ma_hi : ma.toInt ≤ 3) (hb : (I (ad g 0) 4).toInt ≤ (I (ad g 0) 2).toInt) : SP g mX11_known [.ref (ad g 0), .ref (ad g 3), .int ma] I J R (fun r I' J' R' => (MP g n L I' ∧ R' = R ∧ (I' (ad g 0) 4).toInt ≤ (I' (ad g 0) 2).toInt ∧ I' (ad g 0) 15 = I (ad g 0) 15 ∧ I' (ad g 0) 16 = I (ad g 0) 16) ∧ ∃ v : Int32, r = some (.int v) ∧ 0 ≤ v.toInt ∧ v.toInt ≤ 1 ∧ (v.toInt = 1 → 0 ≤ (I' (ad g 0) 7).toInt ∧ (I' (ad g 0) 7).toInt ≤ 2)) := by
  refine SP_of ⟨by decide, rfl⟩ (Nat.le_of_ble_eq_true rfl) ?_
  have e746 : I (ad g 0) 1 = L := hI.1.2
  have b747 := BT_get hI.1.1 0 1 2 (0) (0) (900) (by decide) 1 (by decide) (by decide)
  rw [e746] at b747
  obtain ⟨w748, ew748⟩ : ∃ w : Int32, I (ad g 0) 15 = w := ⟨_, rfl⟩
  have bw748 := BT_get hI.1.1 0 15 16 (0) (0) (4) (by decide) 15 (by decide) (by decide)
  rw [ew748] at bw748
  obtain ⟨w749, ew749⟩ : ∃ w : Int32, I (ad g 0) 16 = w := ⟨_, rfl⟩
  have bw749 := BT_get hI.1.1 0 16 17 (0) (0) (3) (by decide) 16 (by decide) (by decide)
  rw [ew749] at bw749
  obtain ⟨w750, ew750⟩ : ∃ w : Int32, I (ad g 0) 4 = w := ⟨_, rfl⟩
  have bw750 := BT_get hI.1.1 0 4 5 (0) (0) (900) (by decide) 4 (by decide) (by decide)
  rw [ew750] at bw750
  obtain ⟨w751, ew751⟩ : ∃ w : Int32, I (ad g 0) 2 = w := ⟨_, rfl⟩
  have bw751 := BT_get hI.1.1 0 2 3 (0) (0) (900) (by decide) 2 (by decide) (by decide)
  rw [ew751] at bw751
  rw [ew750, ew751] at hb
  refine WP_aload_n dX11_known_0 rfl ?_
  refine WQ_geti dX11_known_1 fX11_27 rfl (ly_is hy 0 11 rfl) (BT_get hI.1.1 0 5 6 (0) (0) (4) (by decide) 5 (by decide) (by decide)) (fun v752 ev752 av752 bv752 => ?_)
  refine WQ_iconst (1) (1) dX11_known_4 rfl rfl (fun v753 hv753 => ?_)
  refine WQ_icmp_eq 14 dX11_known_5 rfl (fun c753 => ?_) (fun c753 => ?_)
  · refine WP_aload_n dX11_known_14 rfl ?_
    refine WP_aload_n dX11_known_15 rfl ?_
    refine WP_aload_n dX11_known_16 rfl ?_
    refine WP_iload_n dX11_known_17 rfl ?_
    refine WP_callV2 (k := 11) dX11_known_18 ⟨⟨⟨by decide, by decide⟩, zX11_find⟩, lX11_71, by decide, rfl, vX11_find.1, vX11_find.2⟩ (ly_is hy 0 11 rfl) (sm_find_3 hy hr hI ma (by omega) (by omega)) (Nat.le_of_ble_eq_true rfl) ?_
    intro r Ia Ja Ra hq
    obtain ⟨⟨ea, eb, ec⟩, v755, rfl, av755, bv755, cv755⟩ := hq
    show WP _ _ _ _ (.int _ :: _) _ _ _ _
    rw [ea, eb, ec]
    clear ea eb ec Ia Ja Ra
    refine WQ_puti dX11_known_21 fX11_56 rfl rfl (ly_is hy 0 11 rfl) (fun I756 eI756 => ?_)
    have hI756 : MP g n L I756 := by rw [eI756]; exact (mp_w hy hI (c := 0) (mi_f hy hI.1 (c := 0) (-1) (0) (1000) (by decide) (Or.inr (by decide)) (by decide) (by omega) (by omega)) (by decide) (by decide) (Or.inr (by decide)))
    have e757 : I756 (ad g 0) 1 = L := by rw [eI756, pp_ne _ _ (Or.inr (by decide))]; exact e746
    have e758 : I756 (ad g 0) 15 = w748 := by rw [eI756, pp_ne _ _ (Or.inr (by decide))]; exact ew748
    have e759 : I756 (ad g 0) 16 = w749 := by rw [eI756, pp_ne _ _ (Or.inr (by decide))]; exact ew749
    have e760 : I756 (ad g 0) 4 = w750 := by rw [eI756, pp_ne _ _ (Or.inr (by decide))]; exact ew750
    have e761 : I756 (ad g 0) 2 = w751 := by rw [eI756, pp_ne _ _ (Or.inr (by decide))]; exact ew751
    have e762 : I756 (ad g 0) 5 = v752 := by rw [eI756, pp_ne _ _ (Or.inr (by decide))]; exact ev752
    have e763 : I756 (ad g 0) 7 = v755 := by rw [eI756, pp_self]
    clear eI756
    refine WP_aload_n dX11_known_24 rfl ?_
    refine WQ_getim dX11_known_25 fX11_56 rfl (ly_is hy 0 11 rfl) e763 ?_
    refine WQ_iconst (-1) (-1) dX11_known_28 rfl rfl (fun v764 hv764 => ?_)
    refine WQ_icmp_ne 38 dX11_known_29 rfl (fun c764 => ?_) (fun c764 => ?_)
    · refine WP_aload_n dX11_known_38 rfl ?_
      refine WP_callV0 (k := 11) dX11_known_39 ⟨⟨⟨by decide, by decide⟩, zX11_scan⟩, lX11_63, by decide, rfl, vX11_scan.1, vX11_scan.2⟩ (ly_is hy 0 11 rfl) (sm_scan hy hr hI756   (by rw [e760, e761]; omega)) (Nat.le_of_ble_eq_true rfl) ?_
      intro r I766 J767 Ra hq
      obtain ⟨⟨hI766, ec, ⟨pI766, sI766_0_7, sI766_0_15, sI766_0_16⟩⟩, rfl⟩ := hq
      rw [ec]
      clear ec Ra
      have e768 : I766 (ad g 0) 7 = v755 := by rw [sI766_0_7]; exact e763
      have e769 : I766 (ad g 0) 15 = w748 := by rw [sI766_0_15]; exact e758
      have e770 : I766 (ad g 0) 16 = w749 := by rw [sI766_0_16]; exact e759
      have e771 : I766 (ad g 0) 1 = L := hI766.1.2
      have b772 := BT_get hI766.1.1 0 1 2 (0) (0) (900) (by decide) 1 (by decide) (by decide)
      rw [e771] at b772
      obtain ⟨w773, ew773⟩ : ∃ w : Int32, I766 (ad g 0) 4 = w := ⟨_, rfl⟩
      have bw773 := BT_get hI766.1.1 0 4 5 (0) (0) (900) (by decide) 4 (by decide) (by decide)
      rw [ew773] at bw773
      obtain ⟨w774, ew774⟩ : ∃ w : Int32, I766 (ad g 0) 2 = w := ⟨_, rfl⟩
      have bw774 := BT_get hI766.1.1 0 2 3 (0) (0) (900) (by decide) 2 (by decide) (by decide)
      rw [ew774] at bw774
      rw [ew773, ew774] at pI766
      refine WQ_iconst (1) (1) dX11_known_42 rfl rfl (fun v775 hv775 => ?_)
      exact WP_zret dX11_known_43 rfl (nar_z (by omega)) ⟨⟨hI766, rfl, ⟨(by rw [ew773, ew774]; omega), (by rw [e769, ew748] <;> exact (eq32 _ _).mpr (by omega)), (by rw [e770, ew749] <;> exact (eq32 _ _).mpr (by omega))⟩⟩, _, rfl, by omega, by omega, by (try rw [e768]); omega⟩
    · refine WP_aload_n dX11_known_32 rfl ?_
      refine WQ_iconst (5) (5) dX11_known_33 rfl rfl (fun v776 hv776 => ?_)
      refine WP_callV1 (k := 11) dX11_known_34 ⟨⟨⟨by decide, by decide⟩, zX11_bad⟩, lX11_49, by decide, rfl, vX11_bad.1, vX11_bad.2⟩ (ly_is hy 0 11 rfl) (sm_bad2 hy hr hI756 v776  (by rw [e760, e761]; omega)) (Nat.le_of_ble_eq_true rfl) ?_
      intro r I777 J778 Ra hq
      obtain ⟨⟨hI777, ec, ⟨pI777, sI777_0_15, sI777_0_16⟩⟩, v779, rfl, av779, bv779⟩ := hq
      show WP _ _ _ _ (.int _ :: _) _ _ _ _
      rw [ec]
      clear ec Ra
      have e780 : I777 (ad g 0) 15 = w748 := by rw [sI777_0_15]; exact e758
      have e781 : I777 (ad g 0) 16 = w749 := by rw [sI777_0_16]; exact e759
      have e782 : I777 (ad g 0) 1 = L := hI777.1.2
      have b783 := BT_get hI777.1.1 0 1 2 (0) (0) (900) (by decide) 1 (by decide) (by decide)
      rw [e782] at b783
      obtain ⟨w784, ew784⟩ : ∃ w : Int32, I777 (ad g 0) 4 = w := ⟨_, rfl⟩
      have bw784 := BT_get hI777.1.1 0 4 5 (0) (0) (900) (by decide) 4 (by decide) (by decide)
      rw [ew784] at bw784
      obtain ⟨w785, ew785⟩ : ∃ w : Int32, I777 (ad g 0) 2 = w := ⟨_, rfl⟩
      have bw785 := BT_get hI777.1.1 0 2 3 (0) (0) (900) (by decide) 2 (by decide) (by decide)
      rw [ew785] at bw785
      rw [ew784, ew785] at pI777
      obtain ⟨w786, ew786⟩ : ∃ w : Int32, I777 (ad g 0) 7 = w := ⟨_, rfl⟩
      have bw786 := BT_get hI777.1.1 0 7 8 (-1) (0) (1000) (by decide) 7 (by decide) (by decide)
      rw [ew786] at bw786
      exact WP_zret dX11_known_37 rfl (nar_z (by omega)) ⟨⟨hI777, rfl, ⟨(by rw [ew784, ew785]; omega), (by rw [e780, ew748] <;> exact (eq32 _ _).mpr (by omega)), (by rw [e781, ew749] <;> exact (eq32 _ _).mpr (by omega))⟩⟩, _, rfl, by omega, by omega, by (try rw [ew786]); omega⟩
  · refine WP_aload_n dX11_known_8 rfl ?_
    refine WQ_iconst (1) (1) dX11_known_9 rfl rfl (fun v787 hv787 => ?_)
    refine WP_callV1 (k := 11) dX11_known_10 ⟨⟨⟨by decide, by decide⟩, zX11_bad⟩, lX11_49, by decide, rfl, vX11_bad.1, vX11_bad.2⟩ (ly_is hy 0 11 rfl) (sm_bad2 hy hr hI v787  (by rw [ew750, ew751]; omega)) (Nat.le_of_ble_eq_true rfl) ?_
    intro r I788 J789 Ra hq
    obtain ⟨⟨hI788, ec, ⟨pI788, sI788_0_15, sI788_0_16⟩⟩, v790, rfl, av790, bv790⟩ := hq
    show WP _ _ _ _ (.int _ :: _) _ _ _ _
    rw [ec]
    clear ec Ra
    have e791 : I788 (ad g 0) 15 = w748 := by rw [sI788_0_15]; exact ew748
    have e792 : I788 (ad g 0) 16 = w749 := by rw [sI788_0_16]; exact ew749
    have e793 : I788 (ad g 0) 1 = L := hI788.1.2
    have b794 := BT_get hI788.1.1 0 1 2 (0) (0) (900) (by decide) 1 (by decide) (by decide)
    rw [e793] at b794
    obtain ⟨w795, ew795⟩ : ∃ w : Int32, I788 (ad g 0) 4 = w := ⟨_, rfl⟩
    have bw795 := BT_get hI788.1.1 0 4 5 (0) (0) (900) (by decide) 4 (by decide) (by decide)
    rw [ew795] at bw795
    obtain ⟨w796, ew796⟩ : ∃ w : Int32, I788 (ad g 0) 2 = w := ⟨_, rfl⟩
    have bw796 := BT_get hI788.1.1 0 2 3 (0) (0) (900) (by decide) 2 (by decide) (by decide)
    rw [ew796] at bw796
    rw [ew795, ew796] at pI788
    obtain ⟨w797, ew797⟩ : ∃ w : Int32, I788 (ad g 0) 7 = w := ⟨_, rfl⟩
    have bw797 := BT_get hI788.1.1 0 7 8 (-1) (0) (1000) (by decide) 7 (by decide) (by decide)
    rw [ew797] at bw797
    exact WP_zret dX11_known_13 rfl (nar_z (by omega)) ⟨⟨hI788, rfl, ⟨(by rw [ew795, ew796]; omega), (by rw [e791, ew748] <;> exact (eq32 _ _).mpr (by omega)), (by rw [e792, ew749] <;> exact (eq32 _ _).mpr (by omega))⟩⟩, _, rfl, by omega, by omega, by (try rw [ew797]); omega⟩
set_option maxHeartbeats 4000000 in
set_option maxRecDepth 100000 in
theorem sm_known_4 {g : GG} {n : Int} {L : Int32} (hy : Ly g)  {I : pI} {J : pJ} {R : pR} (hr : Rf g R) (hI : MP g n L I) (ma : Int32) (ma_lo : 0 ≤ ma.toInt) (ma_hi : ma.toInt ≤ 4) (hb : (I (ad g 0) 4).toInt ≤ (I (ad g 0) 2).toInt) : SP g mX11_known [.ref (ad g 0), .ref (ad g 4), .int ma] I J R (fun r I' J' R' => (MP g n L I' ∧ R' = R ∧ (I' (ad g 0) 4).toInt ≤ (I' (ad g 0) 2).toInt ∧ I' (ad g 0) 15 = I (ad g 0) 15 ∧ I' (ad g 0) 16 = I (ad g 0) 16) ∧ ∃ v : Int32, r = some (.int v) ∧ 0 ≤ v.toInt ∧ v.toInt ≤ 1 ∧ (v.toInt = 1 → 0 ≤ (I' (ad g 0) 7).toInt ∧ (I' (ad g 0) 7).toInt ≤ 3)) := by
  refine SP_of ⟨by decide, rfl⟩ (Nat.le_of_ble_eq_true rfl) ?_
  have e798 : I (ad g 0) 1 = L := hI.1.2
  have b799 := BT_get hI.1.1 0 1 2 (0) (0) (900) (by decide) 1 (by decide) (by decide)
  rw [e798] at b799
  obtain ⟨w800, ew800⟩ : ∃ w : Int32, I (ad g 0) 15 = w := ⟨_, rfl⟩
  have bw800 := BT_get hI.1.1 0 15 16 (0) (0) (4) (by decide) 15 (by decide) (by decide)
  rw [ew800] at bw800
  obtain ⟨w801, ew801⟩ : ∃ w : Int32, I (ad g 0) 16 = w := ⟨_, rfl⟩
  have bw801 := BT_get hI.1.1 0 16 17 (0) (0) (3) (by decide) 16 (by decide) (by decide)
  rw [ew801] at bw801
  obtain ⟨w802, ew802⟩ : ∃ w : Int32, I (ad g 0) 4 = w := ⟨_, rfl⟩
  have bw802 := BT_get hI.1.1 0 4 5 (0) (0) (900) (by decide) 4 (by decide) (by decide)
  rw [ew802] at bw802
  obtain ⟨w803, ew803⟩ : ∃ w : Int32, I (ad g 0) 2 = w := ⟨_, rfl⟩
  have bw803 := BT_get hI.1.1 0 2 3 (0) (0) (900) (by decide) 2 (by decide) (by decide)
  rw [ew803] at bw803
  rw [ew802, ew803] at hb
  refine WP_aload_n dX11_known_0 rfl ?_
  refine WQ_geti dX11_known_1 fX11_27 rfl (ly_is hy 0 11 rfl) (BT_get hI.1.1 0 5 6 (0) (0) (4) (by decide) 5 (by decide) (by decide)) (fun v804 ev804 av804 bv804 => ?_)
  refine WQ_iconst (1) (1) dX11_known_4 rfl rfl (fun v805 hv805 => ?_)
  refine WQ_icmp_eq 14 dX11_known_5 rfl (fun c805 => ?_) (fun c805 => ?_)
  · refine WP_aload_n dX11_known_14 rfl ?_
    refine WP_aload_n dX11_known_15 rfl ?_
    refine WP_aload_n dX11_known_16 rfl ?_
    refine WP_iload_n dX11_known_17 rfl ?_
    refine WP_callV2 (k := 11) dX11_known_18 ⟨⟨⟨by decide, by decide⟩, zX11_find⟩, lX11_71, by decide, rfl, vX11_find.1, vX11_find.2⟩ (ly_is hy 0 11 rfl) (sm_find_4 hy hr hI ma (by omega) (by omega)) (Nat.le_of_ble_eq_true rfl) ?_
    intro r Ia Ja Ra hq
    obtain ⟨⟨ea, eb, ec⟩, v807, rfl, av807, bv807, cv807⟩ := hq
    show WP _ _ _ _ (.int _ :: _) _ _ _ _
    rw [ea, eb, ec]
    clear ea eb ec Ia Ja Ra
    refine WQ_puti dX11_known_21 fX11_56 rfl rfl (ly_is hy 0 11 rfl) (fun I808 eI808 => ?_)
    have hI808 : MP g n L I808 := by rw [eI808]; exact (mp_w hy hI (c := 0) (mi_f hy hI.1 (c := 0) (-1) (0) (1000) (by decide) (Or.inr (by decide)) (by decide) (by omega) (by omega)) (by decide) (by decide) (Or.inr (by decide)))
    have e809 : I808 (ad g 0) 1 = L := by rw [eI808, pp_ne _ _ (Or.inr (by decide))]; exact e798
    have e810 : I808 (ad g 0) 15 = w800 := by rw [eI808, pp_ne _ _ (Or.inr (by decide))]; exact ew800
    have e811 : I808 (ad g 0) 16 = w801 := by rw [eI808, pp_ne _ _ (Or.inr (by decide))]; exact ew801
    have e812 : I808 (ad g 0) 4 = w802 := by rw [eI808, pp_ne _ _ (Or.inr (by decide))]; exact ew802
    have e813 : I808 (ad g 0) 2 = w803 := by rw [eI808, pp_ne _ _ (Or.inr (by decide))]; exact ew803
    have e814 : I808 (ad g 0) 5 = v804 := by rw [eI808, pp_ne _ _ (Or.inr (by decide))]; exact ev804
    have e815 : I808 (ad g 0) 7 = v807 := by rw [eI808, pp_self]
    clear eI808
    refine WP_aload_n dX11_known_24 rfl ?_
    refine WQ_getim dX11_known_25 fX11_56 rfl (ly_is hy 0 11 rfl) e815 ?_
    refine WQ_iconst (-1) (-1) dX11_known_28 rfl rfl (fun v816 hv816 => ?_)
    refine WQ_icmp_ne 38 dX11_known_29 rfl (fun c816 => ?_) (fun c816 => ?_)
    · refine WP_aload_n dX11_known_38 rfl ?_
      refine WP_callV0 (k := 11) dX11_known_39 ⟨⟨⟨by decide, by decide⟩, zX11_scan⟩, lX11_63, by decide, rfl, vX11_scan.1, vX11_scan.2⟩ (ly_is hy 0 11 rfl) (sm_scan hy hr hI808   (by rw [e812, e813]; omega)) (Nat.le_of_ble_eq_true rfl) ?_
      intro r I818 J819 Ra hq
      obtain ⟨⟨hI818, ec, ⟨pI818, sI818_0_7, sI818_0_15, sI818_0_16⟩⟩, rfl⟩ := hq
      rw [ec]
      clear ec Ra
      have e820 : I818 (ad g 0) 7 = v807 := by rw [sI818_0_7]; exact e815
      have e821 : I818 (ad g 0) 15 = w800 := by rw [sI818_0_15]; exact e810
      have e822 : I818 (ad g 0) 16 = w801 := by rw [sI818_0_16]; exact e811
      have e823 : I818 (ad g 0) 1 = L := hI818.1.2
      have b824 := BT_get hI818.1.1 0 1 2 (0) (0) (900) (by decide) 1 (by decide) (by decide)
      rw [e823] at b824
      obtain ⟨w825, ew825⟩ : ∃ w : Int32, I818 (ad g 0) 4 = w := ⟨_, rfl⟩
      have bw825 := BT_get hI818.1.1 0 4 5 (0) (0) (900) (by decide) 4 (by decide) (by decide)
      rw [ew825] at bw825
      obtain ⟨w826, ew826⟩ : ∃ w : Int32, I818 (ad g 0) 2 = w := ⟨_, rfl⟩
      have bw826 := BT_get hI818.1.1 0 2 3 (0) (0) (900) (by decide) 2 (by decide) (by decide)
      rw [ew826] at bw826
      rw [ew825, ew826] at pI818
      refine WQ_iconst (1) (1) dX11_known_42 rfl rfl (fun v827 hv827 => ?_)
      exact WP_zret dX11_known_43 rfl (nar_z (by omega)) ⟨⟨hI818, rfl, ⟨(by rw [ew825, ew826]; omega), (by rw [e821, ew800] <;> exact (eq32 _ _).mpr (by omega)), (by rw [e822, ew801] <;> exact (eq32 _ _).mpr (by omega))⟩⟩, _, rfl, by omega, by omega, by (try rw [e820]); omega⟩
    · refine WP_aload_n dX11_known_32 rfl ?_
      refine WQ_iconst (5) (5) dX11_known_33 rfl rfl (fun v828 hv828 => ?_)
      refine WP_callV1 (k := 11) dX11_known_34 ⟨⟨⟨by decide, by decide⟩, zX11_bad⟩, lX11_49, by decide, rfl, vX11_bad.1, vX11_bad.2⟩ (ly_is hy 0 11 rfl) (sm_bad2 hy hr hI808 v828  (by rw [e812, e813]; omega)) (Nat.le_of_ble_eq_true rfl) ?_
      intro r I829 J830 Ra hq
      obtain ⟨⟨hI829, ec, ⟨pI829, sI829_0_15, sI829_0_16⟩⟩, v831, rfl, av831, bv831⟩ := hq
      show WP _ _ _ _ (.int _ :: _) _ _ _ _
      rw [ec]
      clear ec Ra
      have e832 : I829 (ad g 0) 15 = w800 := by rw [sI829_0_15]; exact e810
      have e833 : I829 (ad g 0) 16 = w801 := by rw [sI829_0_16]; exact e811
      have e834 : I829 (ad g 0) 1 = L := hI829.1.2
      have b835 := BT_get hI829.1.1 0 1 2 (0) (0) (900) (by decide) 1 (by decide) (by decide)
      rw [e834] at b835
      obtain ⟨w836, ew836⟩ : ∃ w : Int32, I829 (ad g 0) 4 = w := ⟨_, rfl⟩
      have bw836 := BT_get hI829.1.1 0 4 5 (0) (0) (900) (by decide) 4 (by decide) (by decide)
      rw [ew836] at bw836
      obtain ⟨w837, ew837⟩ : ∃ w : Int32, I829 (ad g 0) 2 = w := ⟨_, rfl⟩
      have bw837 := BT_get hI829.1.1 0 2 3 (0) (0) (900) (by decide) 2 (by decide) (by decide)
      rw [ew837] at bw837
      rw [ew836, ew837] at pI829
      obtain ⟨w838, ew838⟩ : ∃ w : Int32, I829 (ad g 0) 7 = w := ⟨_, rfl⟩
      have bw838 := BT_get hI829.1.1 0 7 8 (-1) (0) (1000) (by decide) 7 (by decide) (by decide)
      rw [ew838] at bw838
      exact WP_zret dX11_known_37 rfl (nar_z (by omega)) ⟨⟨hI829, rfl, ⟨(by rw [ew836, ew837]; omega), (by rw [e832, ew800] <;> exact (eq32 _ _).mpr (by omega)), (by rw [e833, ew801] <;> exact (eq32 _ _).mpr (by omega))⟩⟩, _, rfl, by omega, by omega, by (try rw [ew838]); omega⟩
  · refine WP_aload_n dX11_known_8 rfl ?_
    refine WQ_iconst (1) (1) dX11_known_9 rfl rfl (fun v839 hv839 => ?_)
    refine WP_callV1 (k := 11) dX11_known_10 ⟨⟨⟨by decide, by decide⟩, zX11_bad⟩, lX11_49, by decide, rfl, vX11_bad.1, vX11_bad.2⟩ (ly_is hy 0 11 rfl) (sm_bad2 hy hr hI v839  (by rw [ew802, ew803]; omega)) (Nat.le_of_ble_eq_true rfl) ?_
    intro r I840 J841 Ra hq
    obtain ⟨⟨hI840, ec, ⟨pI840, sI840_0_15, sI840_0_16⟩⟩, v842, rfl, av842, bv842⟩ := hq
    show WP _ _ _ _ (.int _ :: _) _ _ _ _
    rw [ec]
    clear ec Ra
    have e843 : I840 (ad g 0) 15 = w800 := by rw [sI840_0_15]; exact ew800
    have e844 : I840 (ad g 0) 16 = w801 := by rw [sI840_0_16]; exact ew801
    have e845 : I840 (ad g 0) 1 = L := hI840.1.2
    have b846 := BT_get hI840.1.1 0 1 2 (0) (0) (900) (by decide) 1 (by decide) (by decide)
    rw [e845] at b846
    obtain ⟨w847, ew847⟩ : ∃ w : Int32, I840 (ad g 0) 4 = w := ⟨_, rfl⟩
    have bw847 := BT_get hI840.1.1 0 4 5 (0) (0) (900) (by decide) 4 (by decide) (by decide)
    rw [ew847] at bw847
    obtain ⟨w848, ew848⟩ : ∃ w : Int32, I840 (ad g 0) 2 = w := ⟨_, rfl⟩
    have bw848 := BT_get hI840.1.1 0 2 3 (0) (0) (900) (by decide) 2 (by decide) (by decide)
    rw [ew848] at bw848
    rw [ew847, ew848] at pI840
    obtain ⟨w849, ew849⟩ : ∃ w : Int32, I840 (ad g 0) 7 = w := ⟨_, rfl⟩
    have bw849 := BT_get hI840.1.1 0 7 8 (-1) (0) (1000) (by decide) 7 (by decide) (by decide)
    rw [ew849] at bw849
    exact WP_zret dX11_known_13 rfl (nar_z (by omega)) ⟨⟨hI840, rfl, ⟨(by rw [ew847, ew848]; omega), (by rw [e843, ew800] <;> exact (eq32 _ _).mpr (by omega)), (by rw [e844, ew801] <;> exact (eq32 _ _).mpr (by omega))⟩⟩, _, rfl, by omega, by omega, by (try rw [ew849]); omega⟩
set_option maxHeartbeats 4000000 in
set_option maxRecDepth 100000 in
theorem sm_known_5 {g : GG} {n : Int} {L : Int32} (hy : Ly g)  {I : pI} {J : pJ} {R : pR} (hr : Rf g R) (hI : MP g n L I) (ma : Int32) (ma_lo : 0 ≤ ma.toInt) (ma_hi : ma.toInt ≤ 3) (hb : (I (ad g 0) 4).toInt ≤ (I (ad g 0) 2).toInt) : SP g mX11_known [.ref (ad g 0), .ref (ad g 5), .int ma] I J R (fun r I' J' R' => (MP g n L I' ∧ R' = R ∧ (I' (ad g 0) 4).toInt ≤ (I' (ad g 0) 2).toInt ∧ I' (ad g 0) 15 = I (ad g 0) 15 ∧ I' (ad g 0) 16 = I (ad g 0) 16) ∧ ∃ v : Int32, r = some (.int v) ∧ 0 ≤ v.toInt ∧ v.toInt ≤ 1 ∧ (v.toInt = 1 → 0 ≤ (I' (ad g 0) 7).toInt ∧ (I' (ad g 0) 7).toInt ≤ 2)) := by
  refine SP_of ⟨by decide, rfl⟩ (Nat.le_of_ble_eq_true rfl) ?_
  have e850 : I (ad g 0) 1 = L := hI.1.2
  have b851 := BT_get hI.1.1 0 1 2 (0) (0) (900) (by decide) 1 (by decide) (by decide)
  rw [e850] at b851
  obtain ⟨w852, ew852⟩ : ∃ w : Int32, I (ad g 0) 15 = w := ⟨_, rfl⟩
  have bw852 := BT_get hI.1.1 0 15 16 (0) (0) (4) (by decide) 15 (by decide) (by decide)
  rw [ew852] at bw852
  obtain ⟨w853, ew853⟩ : ∃ w : Int32, I (ad g 0) 16 = w := ⟨_, rfl⟩
  have bw853 := BT_get hI.1.1 0 16 17 (0) (0) (3) (by decide) 16 (by decide) (by decide)
  rw [ew853] at bw853
  obtain ⟨w854, ew854⟩ : ∃ w : Int32, I (ad g 0) 4 = w := ⟨_, rfl⟩
  have bw854 := BT_get hI.1.1 0 4 5 (0) (0) (900) (by decide) 4 (by decide) (by decide)
  rw [ew854] at bw854
  obtain ⟨w855, ew855⟩ : ∃ w : Int32, I (ad g 0) 2 = w := ⟨_, rfl⟩
  have bw855 := BT_get hI.1.1 0 2 3 (0) (0) (900) (by decide) 2 (by decide) (by decide)
  rw [ew855] at bw855
  rw [ew854, ew855] at hb
  refine WP_aload_n dX11_known_0 rfl ?_
  refine WQ_geti dX11_known_1 fX11_27 rfl (ly_is hy 0 11 rfl) (BT_get hI.1.1 0 5 6 (0) (0) (4) (by decide) 5 (by decide) (by decide)) (fun v856 ev856 av856 bv856 => ?_)
  refine WQ_iconst (1) (1) dX11_known_4 rfl rfl (fun v857 hv857 => ?_)
  refine WQ_icmp_eq 14 dX11_known_5 rfl (fun c857 => ?_) (fun c857 => ?_)
  · refine WP_aload_n dX11_known_14 rfl ?_
    refine WP_aload_n dX11_known_15 rfl ?_
    refine WP_aload_n dX11_known_16 rfl ?_
    refine WP_iload_n dX11_known_17 rfl ?_
    refine WP_callV2 (k := 11) dX11_known_18 ⟨⟨⟨by decide, by decide⟩, zX11_find⟩, lX11_71, by decide, rfl, vX11_find.1, vX11_find.2⟩ (ly_is hy 0 11 rfl) (sm_find_5 hy hr hI ma (by omega) (by omega)) (Nat.le_of_ble_eq_true rfl) ?_
    intro r Ia Ja Ra hq
    obtain ⟨⟨ea, eb, ec⟩, v859, rfl, av859, bv859, cv859⟩ := hq
    show WP _ _ _ _ (.int _ :: _) _ _ _ _
    rw [ea, eb, ec]
    clear ea eb ec Ia Ja Ra
    refine WQ_puti dX11_known_21 fX11_56 rfl rfl (ly_is hy 0 11 rfl) (fun I860 eI860 => ?_)
    have hI860 : MP g n L I860 := by rw [eI860]; exact (mp_w hy hI (c := 0) (mi_f hy hI.1 (c := 0) (-1) (0) (1000) (by decide) (Or.inr (by decide)) (by decide) (by omega) (by omega)) (by decide) (by decide) (Or.inr (by decide)))
    have e861 : I860 (ad g 0) 1 = L := by rw [eI860, pp_ne _ _ (Or.inr (by decide))]; exact e850
    have e862 : I860 (ad g 0) 15 = w852 := by rw [eI860, pp_ne _ _ (Or.inr (by decide))]; exact ew852
    have e863 : I860 (ad g 0) 16 = w853 := by rw [eI860, pp_ne _ _ (Or.inr (by decide))]; exact ew853
    have e864 : I860 (ad g 0) 4 = w854 := by rw [eI860, pp_ne _ _ (Or.inr (by decide))]; exact ew854
    have e865 : I860 (ad g 0) 2 = w855 := by rw [eI860, pp_ne _ _ (Or.inr (by decide))]; exact ew855
    have e866 : I860 (ad g 0) 5 = v856 := by rw [eI860, pp_ne _ _ (Or.inr (by decide))]; exact ev856
    have e867 : I860 (ad g 0) 7 = v859 := by rw [eI860, pp_self]
    clear eI860
    refine WP_aload_n dX11_known_24 rfl ?_
    refine WQ_getim dX11_known_25 fX11_56 rfl (ly_is hy 0 11 rfl) e867 ?_
    refine WQ_iconst (-1) (-1) dX11_known_28 rfl rfl (fun v868 hv868 => ?_)
    refine WQ_icmp_ne 38 dX11_known_29 rfl (fun c868 => ?_) (fun c868 => ?_)
    · refine WP_aload_n dX11_known_38 rfl ?_
      refine WP_callV0 (k := 11) dX11_known_39 ⟨⟨⟨by decide, by decide⟩, zX11_scan⟩, lX11_63, by decide, rfl, vX11_scan.1, vX11_scan.2⟩ (ly_is hy 0 11 rfl) (sm_scan hy hr hI860   (by rw [e864, e865]; omega)) (Nat.le_of_ble_eq_true rfl) ?_
      intro r I870 J871 Ra hq
      obtain ⟨⟨hI870, ec, ⟨pI870, sI870_0_7, sI870_0_15, sI870_0_16⟩⟩, rfl⟩ := hq
      rw [ec]
      clear ec Ra
      have e872 : I870 (ad g 0) 7 = v859 := by rw [sI870_0_7]; exact e867
      have e873 : I870 (ad g 0) 15 = w852 := by rw [sI870_0_15]; exact e862
      have e874 : I870 (ad g 0) 16 = w853 := by rw [sI870_0_16]; exact e863
      have e875 : I870 (ad g 0) 1 = L := hI870.1.2
      have b876 := BT_get hI870.1.1 0 1 2 (0) (0) (900) (by decide) 1 (by decide) (by decide)
      rw [e875] at b876
      obtain ⟨w877, ew877⟩ : ∃ w : Int32, I870 (ad g 0) 4 = w := ⟨_, rfl⟩
      have bw877 := BT_get hI870.1.1 0 4 5 (0) (0) (900) (by decide) 4 (by decide) (by decide)
      rw [ew877] at bw877
      obtain ⟨w878, ew878⟩ : ∃ w : Int32, I870 (ad g 0) 2 = w := ⟨_, rfl⟩
      have bw878 := BT_get hI870.1.1 0 2 3 (0) (0) (900) (by decide) 2 (by decide) (by decide)
      rw [ew878] at bw878
      rw [ew877, ew878] at pI870
      refine WQ_iconst (1) (1) dX11_known_42 rfl rfl (fun v879 hv879 => ?_)
      exact WP_zret dX11_known_43 rfl (nar_z (by omega)) ⟨⟨hI870, rfl, ⟨(by rw [ew877, ew878]; omega), (by rw [e873, ew852] <;> exact (eq32 _ _).mpr (by omega)), (by rw [e874, ew853] <;> exact (eq32 _ _).mpr (by omega))⟩⟩, _, rfl, by omega, by omega, by (try rw [e872]); omega⟩
    · refine WP_aload_n dX11_known_32 rfl ?_
      refine WQ_iconst (5) (5) dX11_known_33 rfl rfl (fun v880 hv880 => ?_)
      refine WP_callV1 (k := 11) dX11_known_34 ⟨⟨⟨by decide, by decide⟩, zX11_bad⟩, lX11_49, by decide, rfl, vX11_bad.1, vX11_bad.2⟩ (ly_is hy 0 11 rfl) (sm_bad2 hy hr hI860 v880  (by rw [e864, e865]; omega)) (Nat.le_of_ble_eq_true rfl) ?_
      intro r I881 J882 Ra hq
      obtain ⟨⟨hI881, ec, ⟨pI881, sI881_0_15, sI881_0_16⟩⟩, v883, rfl, av883, bv883⟩ := hq
      show WP _ _ _ _ (.int _ :: _) _ _ _ _
      rw [ec]
      clear ec Ra
      have e884 : I881 (ad g 0) 15 = w852 := by rw [sI881_0_15]; exact e862
      have e885 : I881 (ad g 0) 16 = w853 := by rw [sI881_0_16]; exact e863
      have e886 : I881 (ad g 0) 1 = L := hI881.1.2
      have b887 := BT_get hI881.1.1 0 1 2 (0) (0) (900) (by decide) 1 (by decide) (by decide)
      rw [e886] at b887
      obtain ⟨w888, ew888⟩ : ∃ w : Int32, I881 (ad g 0) 4 = w := ⟨_, rfl⟩
      have bw888 := BT_get hI881.1.1 0 4 5 (0) (0) (900) (by decide) 4 (by decide) (by decide)
      rw [ew888] at bw888
      obtain ⟨w889, ew889⟩ : ∃ w : Int32, I881 (ad g 0) 2 = w := ⟨_, rfl⟩
      have bw889 := BT_get hI881.1.1 0 2 3 (0) (0) (900) (by decide) 2 (by decide) (by decide)
      rw [ew889] at bw889
      rw [ew888, ew889] at pI881
      obtain ⟨w890, ew890⟩ : ∃ w : Int32, I881 (ad g 0) 7 = w := ⟨_, rfl⟩
      have bw890 := BT_get hI881.1.1 0 7 8 (-1) (0) (1000) (by decide) 7 (by decide) (by decide)
      rw [ew890] at bw890
      exact WP_zret dX11_known_37 rfl (nar_z (by omega)) ⟨⟨hI881, rfl, ⟨(by rw [ew888, ew889]; omega), (by rw [e884, ew852] <;> exact (eq32 _ _).mpr (by omega)), (by rw [e885, ew853] <;> exact (eq32 _ _).mpr (by omega))⟩⟩, _, rfl, by omega, by omega, by (try rw [ew890]); omega⟩
  · refine WP_aload_n dX11_known_8 rfl ?_
    refine WQ_iconst (1) (1) dX11_known_9 rfl rfl (fun v891 hv891 => ?_)
    refine WP_callV1 (k := 11) dX11_known_10 ⟨⟨⟨by decide, by decide⟩, zX11_bad⟩, lX11_49, by decide, rfl, vX11_bad.1, vX11_bad.2⟩ (ly_is hy 0 11 rfl) (sm_bad2 hy hr hI v891  (by rw [ew854, ew855]; omega)) (Nat.le_of_ble_eq_true rfl) ?_
    intro r I892 J893 Ra hq
    obtain ⟨⟨hI892, ec, ⟨pI892, sI892_0_15, sI892_0_16⟩⟩, v894, rfl, av894, bv894⟩ := hq
    show WP _ _ _ _ (.int _ :: _) _ _ _ _
    rw [ec]
    clear ec Ra
    have e895 : I892 (ad g 0) 15 = w852 := by rw [sI892_0_15]; exact ew852
    have e896 : I892 (ad g 0) 16 = w853 := by rw [sI892_0_16]; exact ew853
    have e897 : I892 (ad g 0) 1 = L := hI892.1.2
    have b898 := BT_get hI892.1.1 0 1 2 (0) (0) (900) (by decide) 1 (by decide) (by decide)
    rw [e897] at b898
    obtain ⟨w899, ew899⟩ : ∃ w : Int32, I892 (ad g 0) 4 = w := ⟨_, rfl⟩
    have bw899 := BT_get hI892.1.1 0 4 5 (0) (0) (900) (by decide) 4 (by decide) (by decide)
    rw [ew899] at bw899
    obtain ⟨w900, ew900⟩ : ∃ w : Int32, I892 (ad g 0) 2 = w := ⟨_, rfl⟩
    have bw900 := BT_get hI892.1.1 0 2 3 (0) (0) (900) (by decide) 2 (by decide) (by decide)
    rw [ew900] at bw900
    rw [ew899, ew900] at pI892
    obtain ⟨w901, ew901⟩ : ∃ w : Int32, I892 (ad g 0) 7 = w := ⟨_, rfl⟩
    have bw901 := BT_get hI892.1.1 0 7 8 (-1) (0) (1000) (by decide) 7 (by decide) (by decide)
    rw [ew901] at bw901
    exact WP_zret dX11_known_13 rfl (nar_z (by omega)) ⟨⟨hI892, rfl, ⟨(by rw [ew899, ew900]; omega), (by rw [e895, ew852] <;> exact (eq32 _ _).mpr (by omega)), (by rw [e896, ew853] <;> exact (eq32 _ _).mpr (by omega))⟩⟩, _, rfl, by omega, by omega, by (try rw [ew901]); omega⟩
set_option maxHeartbeats 4000000 in
set_option maxRecDepth 100000 in
theorem sm_fresh_4 {g : GG} {n : Int} {L : Int32} (hy : Ly g)  {I : pI} {J : pJ} {R : pR} (hr : Rf g R) (hI : MP g n L I) (ma : Int32) (ma_lo : 0 ≤ ma.toInt) (ma_hi : ma.toInt ≤ 3) (hb : (I (ad g 0) 4).toInt ≤ (I (ad g 0) 2).toInt) : SP g mX11_fresh [.ref (ad g 0), .ref (ad g 4), .int ma] I J R (fun r I' J' R' => (MP g n L I' ∧ R' = R ∧ (I' (ad g 0) 4).toInt ≤ (I' (ad g 0) 2).toInt ∧ I' (ad g 0) 15 = I (ad g 0) 15 ∧ I' (ad g 0) 16 = I (ad g 0) 16) ∧ ∃ v : Int32, r = some (.int v) ∧ 0 ≤ v.toInt ∧ v.toInt ≤ 1) := by
  refine SP_of ⟨by decide, rfl⟩ (Nat.le_of_ble_eq_true rfl) ?_
  have e902 : I (ad g 0) 1 = L := hI.1.2
  have b903 := BT_get hI.1.1 0 1 2 (0) (0) (900) (by decide) 1 (by decide) (by decide)
  rw [e902] at b903
  obtain ⟨w904, ew904⟩ : ∃ w : Int32, I (ad g 0) 15 = w := ⟨_, rfl⟩
  have bw904 := BT_get hI.1.1 0 15 16 (0) (0) (4) (by decide) 15 (by decide) (by decide)
  rw [ew904] at bw904
  obtain ⟨w905, ew905⟩ : ∃ w : Int32, I (ad g 0) 16 = w := ⟨_, rfl⟩
  have bw905 := BT_get hI.1.1 0 16 17 (0) (0) (3) (by decide) 16 (by decide) (by decide)
  rw [ew905] at bw905
  obtain ⟨w906, ew906⟩ : ∃ w : Int32, I (ad g 0) 4 = w := ⟨_, rfl⟩
  have bw906 := BT_get hI.1.1 0 4 5 (0) (0) (900) (by decide) 4 (by decide) (by decide)
  rw [ew906] at bw906
  obtain ⟨w907, ew907⟩ : ∃ w : Int32, I (ad g 0) 2 = w := ⟨_, rfl⟩
  have bw907 := BT_get hI.1.1 0 2 3 (0) (0) (900) (by decide) 2 (by decide) (by decide)
  rw [ew907] at bw907
  rw [ew906, ew907] at hb
  refine WP_aload_n dX11_fresh_0 rfl ?_
  refine WQ_geti dX11_fresh_1 fX11_27 rfl (ly_is hy 0 11 rfl) (BT_get hI.1.1 0 5 6 (0) (0) (4) (by decide) 5 (by decide) (by decide)) (fun v908 ev908 av908 bv908 => ?_)
  refine WQ_iconst (1) (1) dX11_fresh_4 rfl rfl (fun v909 hv909 => ?_)
  refine WQ_icmp_eq 14 dX11_fresh_5 rfl (fun c909 => ?_) (fun c909 => ?_)
  · refine WP_aload_n dX11_fresh_14 rfl ?_
    refine WP_aload_n dX11_fresh_15 rfl ?_
    refine WP_iload_n dX11_fresh_16 rfl ?_
    refine WP_callV2 (k := 11) dX11_fresh_17 ⟨⟨⟨by decide, by decide⟩, zX11_find⟩, lX11_71, by decide, rfl, vX11_find.1, vX11_find.2⟩ (ly_is hy 0 11 rfl) (sm_find_4 hy hr hI ma (by omega) (by omega)) (Nat.le_of_ble_eq_true rfl) ?_
    intro r Ia Ja Ra hq
    obtain ⟨⟨ea, eb, ec⟩, v911, rfl, av911, bv911, cv911⟩ := hq
    show WP _ _ _ _ (.int _ :: _) _ _ _ _
    rw [ea, eb, ec]
    clear ea eb ec Ia Ja Ra
    refine WQ_iconst (-1) (-1) dX11_fresh_20 rfl rfl (fun v912 hv912 => ?_)
    refine WQ_icmp_eq 30 dX11_fresh_21 rfl (fun c912 => ?_) (fun c912 => ?_)
    · refine WP_aload_n dX11_fresh_30 rfl ?_
      refine WP_iload_n dX11_fresh_31 rfl ?_
      refine WP_aload_n dX11_fresh_32 rfl ?_
      refine WP_callV0 (k := 11) dX11_fresh_33 ⟨⟨⟨by decide, by decide⟩, zX11_name⟩, lX11_67, by decide, rfl, vX11_name.1, vX11_name.2⟩ (ly_is hy 0 11 rfl) (sm_name hy hr hI  ) (Nat.le_of_ble_eq_true rfl) ?_
      intro r Ia Ja Ra hq
      obtain ⟨⟨ea, eb, ec⟩, l914, rfl⟩ := hq
      show WP _ _ _ _ (.long _ :: _) _ _ _ _
      rw [ea, eb, ec]
      clear ea eb ec Ia Ja Ra
      refine WQ_last dX11_fresh_36 (ly_is hy 4 14 rfl) (ly_n hy 4 4 rfl) (by omega) (by omega) (fun J915 eJ915 => ?_)
      clear eJ915
      refine WP_aload_n dX11_fresh_37 rfl ?_
      refine WP_callV0 (k := 11) dX11_fresh_38 ⟨⟨⟨by decide, by decide⟩, zX11_scan⟩, lX11_63, by decide, rfl, vX11_scan.1, vX11_scan.2⟩ (ly_is hy 0 11 rfl) (sm_scan hy hr hI   (by rw [ew906, ew907]; omega)) (Nat.le_of_ble_eq_true rfl) ?_
      intro r I916 J917 Ra hq
      obtain ⟨⟨hI916, ec, ⟨pI916, sI916_0_7, sI916_0_15, sI916_0_16⟩⟩, rfl⟩ := hq
      rw [ec]
      clear ec Ra
      have e918 : I916 (ad g 0) 15 = w904 := by rw [sI916_0_15]; exact ew904
      have e919 : I916 (ad g 0) 16 = w905 := by rw [sI916_0_16]; exact ew905
      have e920 : I916 (ad g 0) 1 = L := hI916.1.2
      have b921 := BT_get hI916.1.1 0 1 2 (0) (0) (900) (by decide) 1 (by decide) (by decide)
      rw [e920] at b921
      obtain ⟨w922, ew922⟩ : ∃ w : Int32, I916 (ad g 0) 4 = w := ⟨_, rfl⟩
      have bw922 := BT_get hI916.1.1 0 4 5 (0) (0) (900) (by decide) 4 (by decide) (by decide)
      rw [ew922] at bw922
      obtain ⟨w923, ew923⟩ : ∃ w : Int32, I916 (ad g 0) 2 = w := ⟨_, rfl⟩
      have bw923 := BT_get hI916.1.1 0 2 3 (0) (0) (900) (by decide) 2 (by decide) (by decide)
      rw [ew923] at bw923
      rw [ew922, ew923] at pI916
      refine WQ_iconst (1) (1) dX11_fresh_41 rfl rfl (fun v924 hv924 => ?_)
      exact WP_zret dX11_fresh_42 rfl (nar_z (by omega)) ⟨⟨hI916, rfl, ⟨(by rw [ew922, ew923]; omega), (by rw [e918, ew904] <;> exact (eq32 _ _).mpr (by omega)), (by rw [e919, ew905] <;> exact (eq32 _ _).mpr (by omega))⟩⟩, _, rfl, by omega, by omega⟩
    · refine WP_aload_n dX11_fresh_24 rfl ?_
      refine WQ_iconst (3) (3) dX11_fresh_25 rfl rfl (fun v925 hv925 => ?_)
      refine WP_callV1 (k := 11) dX11_fresh_26 ⟨⟨⟨by decide, by decide⟩, zX11_bad⟩, lX11_49, by decide, rfl, vX11_bad.1, vX11_bad.2⟩ (ly_is hy 0 11 rfl) (sm_bad2 hy hr hI v925  (by rw [ew906, ew907]; omega)) (Nat.le_of_ble_eq_true rfl) ?_
      intro r I926 J927 Ra hq
      obtain ⟨⟨hI926, ec, ⟨pI926, sI926_0_15, sI926_0_16⟩⟩, v928, rfl, av928, bv928⟩ := hq
      show WP _ _ _ _ (.int _ :: _) _ _ _ _
      rw [ec]
      clear ec Ra
      have e929 : I926 (ad g 0) 15 = w904 := by rw [sI926_0_15]; exact ew904
      have e930 : I926 (ad g 0) 16 = w905 := by rw [sI926_0_16]; exact ew905
      have e931 : I926 (ad g 0) 1 = L := hI926.1.2
      have b932 := BT_get hI926.1.1 0 1 2 (0) (0) (900) (by decide) 1 (by decide) (by decide)
      rw [e931] at b932
      obtain ⟨w933, ew933⟩ : ∃ w : Int32, I926 (ad g 0) 4 = w := ⟨_, rfl⟩
      have bw933 := BT_get hI926.1.1 0 4 5 (0) (0) (900) (by decide) 4 (by decide) (by decide)
      rw [ew933] at bw933
      obtain ⟨w934, ew934⟩ : ∃ w : Int32, I926 (ad g 0) 2 = w := ⟨_, rfl⟩
      have bw934 := BT_get hI926.1.1 0 2 3 (0) (0) (900) (by decide) 2 (by decide) (by decide)
      rw [ew934] at bw934
      rw [ew933, ew934] at pI926
      exact WP_zret dX11_fresh_29 rfl (nar_z (by omega)) ⟨⟨hI926, rfl, ⟨(by rw [ew933, ew934]; omega), (by rw [e929, ew904] <;> exact (eq32 _ _).mpr (by omega)), (by rw [e930, ew905] <;> exact (eq32 _ _).mpr (by omega))⟩⟩, _, rfl, by omega, by omega⟩
  · refine WP_aload_n dX11_fresh_8 rfl ?_
    refine WQ_iconst (1) (1) dX11_fresh_9 rfl rfl (fun v935 hv935 => ?_)
    refine WP_callV1 (k := 11) dX11_fresh_10 ⟨⟨⟨by decide, by decide⟩, zX11_bad⟩, lX11_49, by decide, rfl, vX11_bad.1, vX11_bad.2⟩ (ly_is hy 0 11 rfl) (sm_bad2 hy hr hI v935  (by rw [ew906, ew907]; omega)) (Nat.le_of_ble_eq_true rfl) ?_
    intro r I936 J937 Ra hq
    obtain ⟨⟨hI936, ec, ⟨pI936, sI936_0_15, sI936_0_16⟩⟩, v938, rfl, av938, bv938⟩ := hq
    show WP _ _ _ _ (.int _ :: _) _ _ _ _
    rw [ec]
    clear ec Ra
    have e939 : I936 (ad g 0) 15 = w904 := by rw [sI936_0_15]; exact ew904
    have e940 : I936 (ad g 0) 16 = w905 := by rw [sI936_0_16]; exact ew905
    have e941 : I936 (ad g 0) 1 = L := hI936.1.2
    have b942 := BT_get hI936.1.1 0 1 2 (0) (0) (900) (by decide) 1 (by decide) (by decide)
    rw [e941] at b942
    obtain ⟨w943, ew943⟩ : ∃ w : Int32, I936 (ad g 0) 4 = w := ⟨_, rfl⟩
    have bw943 := BT_get hI936.1.1 0 4 5 (0) (0) (900) (by decide) 4 (by decide) (by decide)
    rw [ew943] at bw943
    obtain ⟨w944, ew944⟩ : ∃ w : Int32, I936 (ad g 0) 2 = w := ⟨_, rfl⟩
    have bw944 := BT_get hI936.1.1 0 2 3 (0) (0) (900) (by decide) 2 (by decide) (by decide)
    rw [ew944] at bw944
    rw [ew943, ew944] at pI936
    exact WP_zret dX11_fresh_13 rfl (nar_z (by omega)) ⟨⟨hI936, rfl, ⟨(by rw [ew943, ew944]; omega), (by rw [e939, ew904] <;> exact (eq32 _ _).mpr (by omega)), (by rw [e940, ew905] <;> exact (eq32 _ _).mpr (by omega))⟩⟩, _, rfl, by omega, by omega⟩
set_option maxHeartbeats 4000000 in
set_option maxRecDepth 100000 in
theorem sm_fresh_5 {g : GG} {n : Int} {L : Int32} (hy : Ly g)  {I : pI} {J : pJ} {R : pR} (hr : Rf g R) (hI : MP g n L I) (ma : Int32) (ma_lo : 0 ≤ ma.toInt) (ma_hi : ma.toInt ≤ 2) (hb : (I (ad g 0) 4).toInt ≤ (I (ad g 0) 2).toInt) : SP g mX11_fresh [.ref (ad g 0), .ref (ad g 5), .int ma] I J R (fun r I' J' R' => (MP g n L I' ∧ R' = R ∧ (I' (ad g 0) 4).toInt ≤ (I' (ad g 0) 2).toInt ∧ I' (ad g 0) 15 = I (ad g 0) 15 ∧ I' (ad g 0) 16 = I (ad g 0) 16) ∧ ∃ v : Int32, r = some (.int v) ∧ 0 ≤ v.toInt ∧ v.toInt ≤ 1) := by
  refine SP_of ⟨by decide, rfl⟩ (Nat.le_of_ble_eq_true rfl) ?_
  have e945 : I (ad g 0) 1 = L := hI.1.2
  have b946 := BT_get hI.1.1 0 1 2 (0) (0) (900) (by decide) 1 (by decide) (by decide)
  rw [e945] at b946
  obtain ⟨w947, ew947⟩ : ∃ w : Int32, I (ad g 0) 15 = w := ⟨_, rfl⟩
  have bw947 := BT_get hI.1.1 0 15 16 (0) (0) (4) (by decide) 15 (by decide) (by decide)
  rw [ew947] at bw947
  obtain ⟨w948, ew948⟩ : ∃ w : Int32, I (ad g 0) 16 = w := ⟨_, rfl⟩
  have bw948 := BT_get hI.1.1 0 16 17 (0) (0) (3) (by decide) 16 (by decide) (by decide)
  rw [ew948] at bw948
  obtain ⟨w949, ew949⟩ : ∃ w : Int32, I (ad g 0) 4 = w := ⟨_, rfl⟩
  have bw949 := BT_get hI.1.1 0 4 5 (0) (0) (900) (by decide) 4 (by decide) (by decide)
  rw [ew949] at bw949
  obtain ⟨w950, ew950⟩ : ∃ w : Int32, I (ad g 0) 2 = w := ⟨_, rfl⟩
  have bw950 := BT_get hI.1.1 0 2 3 (0) (0) (900) (by decide) 2 (by decide) (by decide)
  rw [ew950] at bw950
  rw [ew949, ew950] at hb
  refine WP_aload_n dX11_fresh_0 rfl ?_
  refine WQ_geti dX11_fresh_1 fX11_27 rfl (ly_is hy 0 11 rfl) (BT_get hI.1.1 0 5 6 (0) (0) (4) (by decide) 5 (by decide) (by decide)) (fun v951 ev951 av951 bv951 => ?_)
  refine WQ_iconst (1) (1) dX11_fresh_4 rfl rfl (fun v952 hv952 => ?_)
  refine WQ_icmp_eq 14 dX11_fresh_5 rfl (fun c952 => ?_) (fun c952 => ?_)
  · refine WP_aload_n dX11_fresh_14 rfl ?_
    refine WP_aload_n dX11_fresh_15 rfl ?_
    refine WP_iload_n dX11_fresh_16 rfl ?_
    refine WP_callV2 (k := 11) dX11_fresh_17 ⟨⟨⟨by decide, by decide⟩, zX11_find⟩, lX11_71, by decide, rfl, vX11_find.1, vX11_find.2⟩ (ly_is hy 0 11 rfl) (sm_find_5 hy hr hI ma (by omega) (by omega)) (Nat.le_of_ble_eq_true rfl) ?_
    intro r Ia Ja Ra hq
    obtain ⟨⟨ea, eb, ec⟩, v954, rfl, av954, bv954, cv954⟩ := hq
    show WP _ _ _ _ (.int _ :: _) _ _ _ _
    rw [ea, eb, ec]
    clear ea eb ec Ia Ja Ra
    refine WQ_iconst (-1) (-1) dX11_fresh_20 rfl rfl (fun v955 hv955 => ?_)
    refine WQ_icmp_eq 30 dX11_fresh_21 rfl (fun c955 => ?_) (fun c955 => ?_)
    · refine WP_aload_n dX11_fresh_30 rfl ?_
      refine WP_iload_n dX11_fresh_31 rfl ?_
      refine WP_aload_n dX11_fresh_32 rfl ?_
      refine WP_callV0 (k := 11) dX11_fresh_33 ⟨⟨⟨by decide, by decide⟩, zX11_name⟩, lX11_67, by decide, rfl, vX11_name.1, vX11_name.2⟩ (ly_is hy 0 11 rfl) (sm_name hy hr hI  ) (Nat.le_of_ble_eq_true rfl) ?_
      intro r Ia Ja Ra hq
      obtain ⟨⟨ea, eb, ec⟩, l957, rfl⟩ := hq
      show WP _ _ _ _ (.long _ :: _) _ _ _ _
      rw [ea, eb, ec]
      clear ea eb ec Ia Ja Ra
      refine WQ_last dX11_fresh_36 (ly_is hy 5 14 rfl) (ly_n hy 5 3 rfl) (by omega) (by omega) (fun J958 eJ958 => ?_)
      clear eJ958
      refine WP_aload_n dX11_fresh_37 rfl ?_
      refine WP_callV0 (k := 11) dX11_fresh_38 ⟨⟨⟨by decide, by decide⟩, zX11_scan⟩, lX11_63, by decide, rfl, vX11_scan.1, vX11_scan.2⟩ (ly_is hy 0 11 rfl) (sm_scan hy hr hI   (by rw [ew949, ew950]; omega)) (Nat.le_of_ble_eq_true rfl) ?_
      intro r I959 J960 Ra hq
      obtain ⟨⟨hI959, ec, ⟨pI959, sI959_0_7, sI959_0_15, sI959_0_16⟩⟩, rfl⟩ := hq
      rw [ec]
      clear ec Ra
      have e961 : I959 (ad g 0) 15 = w947 := by rw [sI959_0_15]; exact ew947
      have e962 : I959 (ad g 0) 16 = w948 := by rw [sI959_0_16]; exact ew948
      have e963 : I959 (ad g 0) 1 = L := hI959.1.2
      have b964 := BT_get hI959.1.1 0 1 2 (0) (0) (900) (by decide) 1 (by decide) (by decide)
      rw [e963] at b964
      obtain ⟨w965, ew965⟩ : ∃ w : Int32, I959 (ad g 0) 4 = w := ⟨_, rfl⟩
      have bw965 := BT_get hI959.1.1 0 4 5 (0) (0) (900) (by decide) 4 (by decide) (by decide)
      rw [ew965] at bw965
      obtain ⟨w966, ew966⟩ : ∃ w : Int32, I959 (ad g 0) 2 = w := ⟨_, rfl⟩
      have bw966 := BT_get hI959.1.1 0 2 3 (0) (0) (900) (by decide) 2 (by decide) (by decide)
      rw [ew966] at bw966
      rw [ew965, ew966] at pI959
      refine WQ_iconst (1) (1) dX11_fresh_41 rfl rfl (fun v967 hv967 => ?_)
      exact WP_zret dX11_fresh_42 rfl (nar_z (by omega)) ⟨⟨hI959, rfl, ⟨(by rw [ew965, ew966]; omega), (by rw [e961, ew947] <;> exact (eq32 _ _).mpr (by omega)), (by rw [e962, ew948] <;> exact (eq32 _ _).mpr (by omega))⟩⟩, _, rfl, by omega, by omega⟩
    · refine WP_aload_n dX11_fresh_24 rfl ?_
      refine WQ_iconst (3) (3) dX11_fresh_25 rfl rfl (fun v968 hv968 => ?_)
      refine WP_callV1 (k := 11) dX11_fresh_26 ⟨⟨⟨by decide, by decide⟩, zX11_bad⟩, lX11_49, by decide, rfl, vX11_bad.1, vX11_bad.2⟩ (ly_is hy 0 11 rfl) (sm_bad2 hy hr hI v968  (by rw [ew949, ew950]; omega)) (Nat.le_of_ble_eq_true rfl) ?_
      intro r I969 J970 Ra hq
      obtain ⟨⟨hI969, ec, ⟨pI969, sI969_0_15, sI969_0_16⟩⟩, v971, rfl, av971, bv971⟩ := hq
      show WP _ _ _ _ (.int _ :: _) _ _ _ _
      rw [ec]
      clear ec Ra
      have e972 : I969 (ad g 0) 15 = w947 := by rw [sI969_0_15]; exact ew947
      have e973 : I969 (ad g 0) 16 = w948 := by rw [sI969_0_16]; exact ew948
      have e974 : I969 (ad g 0) 1 = L := hI969.1.2
      have b975 := BT_get hI969.1.1 0 1 2 (0) (0) (900) (by decide) 1 (by decide) (by decide)
      rw [e974] at b975
      obtain ⟨w976, ew976⟩ : ∃ w : Int32, I969 (ad g 0) 4 = w := ⟨_, rfl⟩
      have bw976 := BT_get hI969.1.1 0 4 5 (0) (0) (900) (by decide) 4 (by decide) (by decide)
      rw [ew976] at bw976
      obtain ⟨w977, ew977⟩ : ∃ w : Int32, I969 (ad g 0) 2 = w := ⟨_, rfl⟩
      have bw977 := BT_get hI969.1.1 0 2 3 (0) (0) (900) (by decide) 2 (by decide) (by decide)
      rw [ew977] at bw977
      rw [ew976, ew977] at pI969
      exact WP_zret dX11_fresh_29 rfl (nar_z (by omega)) ⟨⟨hI969, rfl, ⟨(by rw [ew976, ew977]; omega), (by rw [e972, ew947] <;> exact (eq32 _ _).mpr (by omega)), (by rw [e973, ew948] <;> exact (eq32 _ _).mpr (by omega))⟩⟩, _, rfl, by omega, by omega⟩
  · refine WP_aload_n dX11_fresh_8 rfl ?_
    refine WQ_iconst (1) (1) dX11_fresh_9 rfl rfl (fun v978 hv978 => ?_)
    refine WP_callV1 (k := 11) dX11_fresh_10 ⟨⟨⟨by decide, by decide⟩, zX11_bad⟩, lX11_49, by decide, rfl, vX11_bad.1, vX11_bad.2⟩ (ly_is hy 0 11 rfl) (sm_bad2 hy hr hI v978  (by rw [ew949, ew950]; omega)) (Nat.le_of_ble_eq_true rfl) ?_
    intro r I979 J980 Ra hq
    obtain ⟨⟨hI979, ec, ⟨pI979, sI979_0_15, sI979_0_16⟩⟩, v981, rfl, av981, bv981⟩ := hq
    show WP _ _ _ _ (.int _ :: _) _ _ _ _
    rw [ec]
    clear ec Ra
    have e982 : I979 (ad g 0) 15 = w947 := by rw [sI979_0_15]; exact ew947
    have e983 : I979 (ad g 0) 16 = w948 := by rw [sI979_0_16]; exact ew948
    have e984 : I979 (ad g 0) 1 = L := hI979.1.2
    have b985 := BT_get hI979.1.1 0 1 2 (0) (0) (900) (by decide) 1 (by decide) (by decide)
    rw [e984] at b985
    obtain ⟨w986, ew986⟩ : ∃ w : Int32, I979 (ad g 0) 4 = w := ⟨_, rfl⟩
    have bw986 := BT_get hI979.1.1 0 4 5 (0) (0) (900) (by decide) 4 (by decide) (by decide)
    rw [ew986] at bw986
    obtain ⟨w987, ew987⟩ : ∃ w : Int32, I979 (ad g 0) 2 = w := ⟨_, rfl⟩
    have bw987 := BT_get hI979.1.1 0 2 3 (0) (0) (900) (by decide) 2 (by decide) (by decide)
    rw [ew987] at bw987
    rw [ew986, ew987] at pI979
    exact WP_zret dX11_fresh_13 rfl (nar_z (by omega)) ⟨⟨hI979, rfl, ⟨(by rw [ew986, ew987]; omega), (by rw [e982, ew947] <;> exact (eq32 _ _).mpr (by omega)), (by rw [e983, ew948] <;> exact (eq32 _ _).mpr (by omega))⟩⟩, _, rfl, by omega, by omega⟩
set_option maxHeartbeats 4000000 in
set_option maxRecDepth 100000 in
theorem sm_readRot {g : GG} {n : Int} {L : Int32} (hy : Ly g)  {I : pI} {J : pJ} {R : pR} (hr : Rf g R) (hI : MP g n L I)   (hb : (I (ad g 0) 4).toInt ≤ (I (ad g 0) 2).toInt) : SP g mX11_readRot [.ref (ad g 0)] I J R (fun r I' J' R' => (MP g n L I' ∧ R' = R ∧ (I' (ad g 0) 4).toInt ≤ (I' (ad g 0) 2).toInt) ∧ ∃ v : Int32, r = some (.int v) ∧ 0 ≤ v.toInt ∧ v.toInt ≤ 1) := by
  refine SP_of ⟨by decide, rfl⟩ (Nat.le_of_ble_eq_true rfl) ?_
  have e988 : I (ad g 0) 1 = L := hI.1.2
  have b989 := BT_get hI.1.1 0 1 2 (0) (0) (900) (by decide) 1 (by decide) (by decide)
  rw [e988] at b989
  obtain ⟨w990, ew990⟩ : ∃ w : Int32, I (ad g 0) 4 = w := ⟨_, rfl⟩
  have bw990 := BT_get hI.1.1 0 4 5 (0) (0) (900) (by decide) 4 (by decide) (by decide)
  rw [ew990] at bw990
  obtain ⟨w991, ew991⟩ : ∃ w : Int32, I (ad g 0) 2 = w := ⟨_, rfl⟩
  have bw991 := BT_get hI.1.1 0 2 3 (0) (0) (900) (by decide) 2 (by decide) (by decide)
  rw [ew991] at bw991
  rw [ew990, ew991] at hb
  refine WP_aload_n dX11_readRot_0 rfl ?_
  refine WP_callV0 (k := 11) dX11_readRot_1 ⟨⟨⟨by decide, by decide⟩, zX11_scan⟩, lX11_63, by decide, rfl, vX11_scan.1, vX11_scan.2⟩ (ly_is hy 0 11 rfl) (sm_scan hy hr hI   (by rw [ew990, ew991]; omega)) (Nat.le_of_ble_eq_true rfl) ?_
  intro r I992 J993 Ra hq
  obtain ⟨⟨hI992, ec, ⟨pI992, sI992_0_7, sI992_0_15, sI992_0_16⟩⟩, rfl⟩ := hq
  rw [ec]
  clear ec Ra
  have e994 : I992 (ad g 0) 1 = L := hI992.1.2
  have b995 := BT_get hI992.1.1 0 1 2 (0) (0) (900) (by decide) 1 (by decide) (by decide)
  rw [e994] at b995
  obtain ⟨w996, ew996⟩ : ∃ w : Int32, I992 (ad g 0) 4 = w := ⟨_, rfl⟩
  have bw996 := BT_get hI992.1.1 0 4 5 (0) (0) (900) (by decide) 4 (by decide) (by decide)
  rw [ew996] at bw996
  obtain ⟨w997, ew997⟩ : ∃ w : Int32, I992 (ad g 0) 2 = w := ⟨_, rfl⟩
  have bw997 := BT_get hI992.1.1 0 2 3 (0) (0) (900) (by decide) 2 (by decide) (by decide)
  rw [ew997] at bw997
  rw [ew996, ew997] at pI992
  refine WP_aload_n dX11_readRot_4 rfl ?_
  refine WQ_iconst (0) (0) dX11_readRot_5 rfl rfl (fun v998 hv998 => ?_)
  refine WQ_bipush (6) (6) dX11_readRot_6 rfl rfl (fun v999 hv999 => ?_)
  refine WP_callV2 (k := 11) dX11_readRot_8 ⟨⟨⟨by decide, by decide⟩, zX11_peek⟩, lX11_59, by decide, rfl, vX11_peek.1, vX11_peek.2⟩ (ly_is hy 0 11 rfl) (sm_peek hy hr hI992 v998 v999 (by omega) (by omega) (by omega) (by omega) (by rw [ew996, ew997]; omega)) (Nat.le_of_ble_eq_true rfl) ?_
  intro r I1000 J1001 Ra hq
  obtain ⟨⟨hI1000, ec, ⟨pI1000, sI1000_0_15, sI1000_0_16⟩⟩, v1002, rfl, av1002, bv1002, cv1002⟩ := hq
  show WP _ _ _ _ (.int _ :: _) _ _ _ _
  rw [ec]
  clear ec Ra
  have e1003 : I1000 (ad g 0) 1 = L := hI1000.1.2
  have b1004 := BT_get hI1000.1.1 0 1 2 (0) (0) (900) (by decide) 1 (by decide) (by decide)
  rw [e1003] at b1004
  obtain ⟨w1005, ew1005⟩ : ∃ w : Int32, I1000 (ad g 0) 4 = w := ⟨_, rfl⟩
  have bw1005 := BT_get hI1000.1.1 0 4 5 (0) (0) (900) (by decide) 4 (by decide) (by decide)
  rw [ew1005] at bw1005
  obtain ⟨w1006, ew1006⟩ : ∃ w : Int32, I1000 (ad g 0) 2 = w := ⟨_, rfl⟩
  have bw1006 := BT_get hI1000.1.1 0 2 3 (0) (0) (900) (by decide) 2 (by decide) (by decide)
  rw [ew1006] at bw1006
  rw [ew1005, ew1006] at pI1000
  obtain ⟨w1007, ew1007⟩ : ∃ w : Int32, I1000 (ad g 0) 7 = w := ⟨_, rfl⟩
  have bw1007 := BT_get hI1000.1.1 0 7 8 (-1) (0) (1000) (by decide) 7 (by decide) (by decide)
  rw [ew1007] at bw1007
  rw [ew1007] at cv1002
  refine WQ_if_ne 16 dX11_readRot_11 rfl (fun c1007 => ?_) (fun c1007 => ?_)
  · refine WP_aload_n dX11_readRot_16 rfl ?_
    refine WQ_getiu dX11_readRot_17 fX11_78 rfl (ly_is hy 0 11 rfl) (fun v1009 ev1009 => ?_)
    refine WP_aload_n dX11_readRot_20 rfl ?_
    refine WQ_getim dX11_readRot_21 fX11_56 rfl (ly_is hy 0 11 rfl) ew1007 ?_
    refine WQ_ishru dX11_readRot_24 (fun v1010 => ?_)
    refine WQ_iconst (1) (1) dX11_readRot_25 rfl rfl (fun v1011 hv1011 => ?_)
    refine WQ_iandu dX11_readRot_26 (fun v1012 => ?_)
    refine WQ_iconst (1) (1) dX11_readRot_27 rfl rfl (fun v1013 hv1013 => ?_)
    refine WQ_icmp_ne 37 dX11_readRot_28 rfl (fun c1013 => ?_) (fun c1013 => ?_)
    · refine WP_aload_n dX11_readRot_37 rfl ?_
      refine WP_dup dX11_readRot_38 rfl ?_
      refine WQ_getim dX11_readRot_39 fX11_78 rfl (ly_is hy 0 11 rfl) ev1009 ?_
      refine WQ_iconst (1) (1) dX11_readRot_42 rfl rfl (fun v1015 hv1015 => ?_)
      refine WP_aload_n dX11_readRot_43 rfl ?_
      refine WQ_getim dX11_readRot_44 fX11_56 rfl (ly_is hy 0 11 rfl) ew1007 ?_
      refine WQ_ishlu dX11_readRot_47 (fun v1016 => ?_)
      refine WQ_ioru dX11_readRot_48 (fun v1017 => ?_)
      refine WQ_puti dX11_readRot_49 fX11_78 rfl rfl (ly_is hy 0 11 rfl) (fun I1018 eI1018 => ?_)
      have hI1018 : MP g n L I1018 := by rw [eI1018]; exact (mp_w hy hI1000 (c := 0) (mi_f0 hy hI1000.1 (c := 0) (by decide) (Or.inr (by decide)) (by decide)) (by decide) (by decide) (Or.inr (by decide)))
      have e1019 : I1018 (ad g 0) 1 = L := by rw [eI1018, pp_ne _ _ (Or.inr (by decide))]; exact e1003
      have e1020 : I1018 (ad g 0) 4 = w1005 := by rw [eI1018, pp_ne _ _ (Or.inr (by decide))]; exact ew1005
      have e1021 : I1018 (ad g 0) 2 = w1006 := by rw [eI1018, pp_ne _ _ (Or.inr (by decide))]; exact ew1006
      have e1022 : I1018 (ad g 0) 7 = w1007 := by rw [eI1018, pp_ne _ _ (Or.inr (by decide))]; exact ew1007
      have e1023 : I1018 (ad g 0) 51 = v1017 := by rw [eI1018, pp_self]
      clear eI1018
      refine WP_aload_n dX11_readRot_52 rfl ?_
      refine WQ_getim dX11_readRot_53 fX11_56 rfl (ly_is hy 0 11 rfl) e1022 ?_
      refine WP_istore_n (ls' := [(0, _), (1, _)]) dX11_readRot_56 (by decide) rfl ?_
      refine WP_aload_n dX11_readRot_57 rfl ?_
      refine WP_callV0 (k := 11) dX11_readRot_58 ⟨⟨⟨by decide, by decide⟩, zX11_scan⟩, lX11_63, by decide, rfl, vX11_scan.1, vX11_scan.2⟩ (ly_is hy 0 11 rfl) (sm_scan hy hr hI1018   (by rw [e1020, e1021]; omega)) (Nat.le_of_ble_eq_true rfl) ?_
      intro r I1024 J1025 Ra hq
      obtain ⟨⟨hI1024, ec, ⟨pI1024, sI1024_0_7, sI1024_0_15, sI1024_0_16⟩⟩, rfl⟩ := hq
      rw [ec]
      clear ec Ra
      have e1026 : I1024 (ad g 0) 7 = w1007 := by rw [sI1024_0_7]; exact e1022
      have e1027 : I1024 (ad g 0) 1 = L := hI1024.1.2
      have b1028 := BT_get hI1024.1.1 0 1 2 (0) (0) (900) (by decide) 1 (by decide) (by decide)
      rw [e1027] at b1028
      obtain ⟨w1029, ew1029⟩ : ∃ w : Int32, I1024 (ad g 0) 4 = w := ⟨_, rfl⟩
      have bw1029 := BT_get hI1024.1.1 0 4 5 (0) (0) (900) (by decide) 4 (by decide) (by decide)
      rw [ew1029] at bw1029
      obtain ⟨w1030, ew1030⟩ : ∃ w : Int32, I1024 (ad g 0) 2 = w := ⟨_, rfl⟩
      have bw1030 := BT_get hI1024.1.1 0 2 3 (0) (0) (900) (by decide) 2 (by decide) (by decide)
      rw [ew1030] at bw1030
      rw [ew1029, ew1030] at pI1024
      refine WP_aload_n dX11_readRot_61 rfl ?_
      refine WQ_iconst (0) (0) dX11_readRot_62 rfl rfl (fun v1031 hv1031 => ?_)
      refine WQ_sipush (900) (900) dX11_readRot_63 rfl rfl (fun v1032 hv1032 => ?_)
      refine WP_callV2 (k := 11) dX11_readRot_66 ⟨⟨⟨by decide, by decide⟩, zX11_number⟩, lX11_81, by decide, rfl, vX11_number.1, vX11_number.2⟩ (ly_is hy 0 11 rfl) (sm_number hy hr hI1024 v1031 v1032 (by omega) (by omega) (by omega) (by omega) (by rw [ew1029, ew1030]; omega)) (Nat.le_of_ble_eq_true rfl) ?_
      intro r I1033 J1034 Ra hq
      obtain ⟨⟨hI1033, ec, ⟨pI1033, sI1033_0_15, sI1033_0_16⟩⟩, v1035, rfl, av1035, bv1035, cv1035⟩ := hq
      show WP _ _ _ _ (.int _ :: _) _ _ _ _
      rw [ec]
      clear ec Ra
      have e1036 : I1033 (ad g 0) 1 = L := hI1033.1.2
      have b1037 := BT_get hI1033.1.1 0 1 2 (0) (0) (900) (by decide) 1 (by decide) (by decide)
      rw [e1036] at b1037
      obtain ⟨w1038, ew1038⟩ : ∃ w : Int32, I1033 (ad g 0) 4 = w := ⟨_, rfl⟩
      have bw1038 := BT_get hI1033.1.1 0 4 5 (0) (0) (900) (by decide) 4 (by decide) (by decide)
      rw [ew1038] at bw1038
      obtain ⟨w1039, ew1039⟩ : ∃ w : Int32, I1033 (ad g 0) 2 = w := ⟨_, rfl⟩
      have bw1039 := BT_get hI1033.1.1 0 2 3 (0) (0) (900) (by decide) 2 (by decide) (by decide)
      rw [ew1039] at bw1039
      rw [ew1038, ew1039] at pI1033
      obtain ⟨w1040, ew1040⟩ : ∃ w : Int32, I1033 (ad g 0) 7 = w := ⟨_, rfl⟩
      have bw1040 := BT_get hI1033.1.1 0 7 8 (-1) (0) (1000) (by decide) 7 (by decide) (by decide)
      rw [ew1040] at bw1040
      rw [ew1040] at cv1035
      refine WQ_if_ne 74 dX11_readRot_69 rfl (fun c1040 => ?_) (fun c1040 => ?_)
      · refine WP_aload_n dX11_readRot_74 rfl ?_
        refine WP_getr dX11_readRot_75 fX11_84 rfl (ly_is hy 0 11 rfl) (rf hr 0 25 7 (by decide)) ?_
        refine WP_iload_n dX11_readRot_78 rfl ?_
        refine WP_aload_n dX11_readRot_79 rfl ?_
        refine WQ_getim dX11_readRot_80 fX11_56 rfl (ly_is hy 0 11 rfl) ew1040 ?_
        refine WQ_iast dX11_readRot_83 (ly_is hy 7 13 rfl) (ly_n hy 7 7 rfl) (by omega) (by omega) (fun I1042 eI1042 => ?_)
        have hI1042 : MP g n L I1042 := by rw [eI1042]; exact (mp_w hy hI1033 (c := 7) (mi_r hy hI1033.1 (c := 7) (0) (0) (900) (by decide) (Or.inl (by decide)) (by decide) (by omega) (by omega)) (by decide) (by decide) (Or.inl (by decide)))
        have e1043 : I1042 (ad g 0) 1 = L := by rw [eI1042, pp_ne _ _ (Or.inl (ly_ne hy (by decide) (by decide) (by decide)))]; exact e1036
        have e1044 : I1042 (ad g 0) 4 = w1038 := by rw [eI1042, pp_ne _ _ (Or.inl (ly_ne hy (by decide) (by decide) (by decide)))]; exact ew1038
        have e1045 : I1042 (ad g 0) 2 = w1039 := by rw [eI1042, pp_ne _ _ (Or.inl (ly_ne hy (by decide) (by decide) (by decide)))]; exact ew1039
        have e1046 : I1042 (ad g 0) 7 = w1040 := by rw [eI1042, pp_ne _ _ (Or.inl (ly_ne hy (by decide) (by decide) (by decide)))]; exact ew1040
        clear eI1042
        refine WQ_iconst (1) (1) dX11_readRot_84 rfl rfl (fun v1047 hv1047 => ?_)
        exact WP_zret dX11_readRot_85 rfl (nar_z (by omega)) ⟨⟨hI1042, rfl, (by rw [e1044, e1045]; omega)⟩, _, rfl, by omega, by omega⟩
      · refine WQ_iconst (0) (0) dX11_readRot_72 rfl rfl (fun v1048 hv1048 => ?_)
        exact WP_zret dX11_readRot_73 rfl (nar_z (by omega)) ⟨⟨hI1033, rfl, (by rw [ew1038, ew1039]; omega)⟩, _, rfl, by omega, by omega⟩
    · refine WP_aload_n dX11_readRot_31 rfl ?_
      refine WQ_iconst (3) (3) dX11_readRot_32 rfl rfl (fun v1049 hv1049 => ?_)
      refine WP_callV1 (k := 11) dX11_readRot_33 ⟨⟨⟨by decide, by decide⟩, zX11_bad⟩, lX11_49, by decide, rfl, vX11_bad.1, vX11_bad.2⟩ (ly_is hy 0 11 rfl) (sm_bad2 hy hr hI1000 v1049  (by rw [ew1005, ew1006]; omega)) (Nat.le_of_ble_eq_true rfl) ?_
      intro r I1050 J1051 Ra hq
      obtain ⟨⟨hI1050, ec, ⟨pI1050, sI1050_0_15, sI1050_0_16⟩⟩, v1052, rfl, av1052, bv1052⟩ := hq
      show WP _ _ _ _ (.int _ :: _) _ _ _ _
      rw [ec]
      clear ec Ra
      have e1053 : I1050 (ad g 0) 1 = L := hI1050.1.2
      have b1054 := BT_get hI1050.1.1 0 1 2 (0) (0) (900) (by decide) 1 (by decide) (by decide)
      rw [e1053] at b1054
      obtain ⟨w1055, ew1055⟩ : ∃ w : Int32, I1050 (ad g 0) 4 = w := ⟨_, rfl⟩
      have bw1055 := BT_get hI1050.1.1 0 4 5 (0) (0) (900) (by decide) 4 (by decide) (by decide)
      rw [ew1055] at bw1055
      obtain ⟨w1056, ew1056⟩ : ∃ w : Int32, I1050 (ad g 0) 2 = w := ⟨_, rfl⟩
      have bw1056 := BT_get hI1050.1.1 0 2 3 (0) (0) (900) (by decide) 2 (by decide) (by decide)
      rw [ew1056] at bw1056
      rw [ew1055, ew1056] at pI1050
      exact WP_zret dX11_readRot_36 rfl (nar_z (by omega)) ⟨⟨hI1050, rfl, (by rw [ew1055, ew1056]; omega)⟩, _, rfl, by omega, by omega⟩
  · refine WQ_iconst (0) (0) dX11_readRot_14 rfl rfl (fun v1057 hv1057 => ?_)
    exact WP_zret dX11_readRot_15 rfl (nar_z (by omega)) ⟨⟨hI1000, rfl, (by rw [ew1005, ew1006]; omega)⟩, _, rfl, by omega, by omega⟩
set_option maxHeartbeats 4000000 in
set_option maxRecDepth 100000 in
theorem sm_readSort {g : GG} {n : Int} {L : Int32} (hy : Ly g)  {I : pI} {J : pJ} {R : pR} (hr : Rf g R) (hI : MP g n L I)   (hb : (I (ad g 0) 4).toInt ≤ (I (ad g 0) 2).toInt) : SP g mX11_readSort [.ref (ad g 0)] I J R (fun r I' J' R' => (MP g n L I' ∧ R' = R ∧ (I' (ad g 0) 4).toInt ≤ (I' (ad g 0) 2).toInt) ∧ ∃ v : Int32, r = some (.int v) ∧ 0 ≤ v.toInt ∧ v.toInt ≤ 1) := by
  refine SP_of ⟨by decide, rfl⟩ (Nat.le_of_ble_eq_true rfl) ?_
  have e1058 : I (ad g 0) 1 = L := hI.1.2
  have b1059 := BT_get hI.1.1 0 1 2 (0) (0) (900) (by decide) 1 (by decide) (by decide)
  rw [e1058] at b1059
  obtain ⟨w1060, ew1060⟩ : ∃ w : Int32, I (ad g 0) 4 = w := ⟨_, rfl⟩
  have bw1060 := BT_get hI.1.1 0 4 5 (0) (0) (900) (by decide) 4 (by decide) (by decide)
  rw [ew1060] at bw1060
  obtain ⟨w1061, ew1061⟩ : ∃ w : Int32, I (ad g 0) 2 = w := ⟨_, rfl⟩
  have bw1061 := BT_get hI.1.1 0 2 3 (0) (0) (900) (by decide) 2 (by decide) (by decide)
  rw [ew1061] at bw1061
  rw [ew1060, ew1061] at hb
  refine WP_aload_n dX11_readSort_0 rfl ?_
  refine WQ_geti dX11_readSort_1 fX11_88 rfl (ly_is hy 0 11 rfl) (BT_get hI.1.1 0 15 16 (0) (0) (4) (by decide) 15 (by decide) (by decide)) (fun v1062 ev1062 av1062 bv1062 => ?_)
  refine WQ_iconst (4) (4) dX11_readSort_4 rfl rfl (fun v1063 hv1063 => ?_)
  refine WQ_icmp_ne 14 dX11_readSort_5 rfl (fun c1063 => ?_) (fun c1063 => ?_)
  · refine WP_aload_n dX11_readSort_14 rfl ?_
    refine WP_callV0 (k := 11) dX11_readSort_15 ⟨⟨⟨by decide, by decide⟩, zX11_scan⟩, lX11_63, by decide, rfl, vX11_scan.1, vX11_scan.2⟩ (ly_is hy 0 11 rfl) (sm_scan hy hr hI   (by rw [ew1060, ew1061]; omega)) (Nat.le_of_ble_eq_true rfl) ?_
    intro r I1065 J1066 Ra hq
    obtain ⟨⟨hI1065, ec, ⟨pI1065, sI1065_0_7, sI1065_0_15, sI1065_0_16⟩⟩, rfl⟩ := hq
    rw [ec]
    clear ec Ra
    have e1067 : I1065 (ad g 0) 15 = v1062 := by rw [sI1065_0_15]; exact ev1062
    have e1068 : I1065 (ad g 0) 1 = L := hI1065.1.2
    have b1069 := BT_get hI1065.1.1 0 1 2 (0) (0) (900) (by decide) 1 (by decide) (by decide)
    rw [e1068] at b1069
    obtain ⟨w1070, ew1070⟩ : ∃ w : Int32, I1065 (ad g 0) 4 = w := ⟨_, rfl⟩
    have bw1070 := BT_get hI1065.1.1 0 4 5 (0) (0) (900) (by decide) 4 (by decide) (by decide)
    rw [ew1070] at bw1070
    obtain ⟨w1071, ew1071⟩ : ∃ w : Int32, I1065 (ad g 0) 2 = w := ⟨_, rfl⟩
    have bw1071 := BT_get hI1065.1.1 0 2 3 (0) (0) (900) (by decide) 2 (by decide) (by decide)
    rw [ew1071] at bw1071
    rw [ew1070, ew1071] at pI1065
    refine WP_aload_n dX11_readSort_18 rfl ?_
    refine WQ_getim dX11_readSort_19 fX11_88 rfl (ly_is hy 0 11 rfl) e1067 ?_
    refine WP_istore_n (ls' := [(0, _), (1, _)]) dX11_readSort_22 (by decide) rfl ?_
    refine WP_aload_n dX11_readSort_23 rfl ?_
    refine WP_aload_n dX11_readSort_24 rfl ?_
    refine WP_getr dX11_readSort_25 fX11_91 rfl (ly_is hy 0 11 rfl) (rf hr 0 22 4 (by decide)) ?_
    refine WP_iload_n dX11_readSort_28 rfl ?_
    refine WP_callV2 (k := 11) dX11_readSort_29 ⟨⟨⟨by decide, by decide⟩, zX11_fresh⟩, lX11_95, by decide, rfl, vX11_fresh.1, vX11_fresh.2⟩ (ly_is hy 0 11 rfl) (sm_fresh_4 hy hr hI1065 v1062 (by omega) (by omega) (by rw [ew1070, ew1071]; omega)) (Nat.le_of_ble_eq_true rfl) ?_
    intro r I1072 J1073 Ra hq
    obtain ⟨⟨hI1072, ec, ⟨pI1072, sI1072_0_15, sI1072_0_16⟩⟩, v1074, rfl, av1074, bv1074⟩ := hq
    show WP _ _ _ _ (.int _ :: _) _ _ _ _
    rw [ec]
    clear ec Ra
    have e1075 : I1072 (ad g 0) 15 = v1062 := by rw [sI1072_0_15]; exact e1067
    have e1076 : I1072 (ad g 0) 1 = L := hI1072.1.2
    have b1077 := BT_get hI1072.1.1 0 1 2 (0) (0) (900) (by decide) 1 (by decide) (by decide)
    rw [e1076] at b1077
    obtain ⟨w1078, ew1078⟩ : ∃ w : Int32, I1072 (ad g 0) 4 = w := ⟨_, rfl⟩
    have bw1078 := BT_get hI1072.1.1 0 4 5 (0) (0) (900) (by decide) 4 (by decide) (by decide)
    rw [ew1078] at bw1078
    obtain ⟨w1079, ew1079⟩ : ∃ w : Int32, I1072 (ad g 0) 2 = w := ⟨_, rfl⟩
    have bw1079 := BT_get hI1072.1.1 0 2 3 (0) (0) (900) (by decide) 2 (by decide) (by decide)
    rw [ew1079] at bw1079
    rw [ew1078, ew1079] at pI1072
    refine WQ_if_eq 45 dX11_readSort_32 rfl (fun c1079 => ?_) (fun c1079 => ?_)
    · refine WQ_iconst (0) (0) dX11_readSort_45 rfl rfl (fun v1081 hv1081 => ?_)
      exact WP_zret dX11_readSort_46 rfl (nar_z (by omega)) ⟨⟨hI1072, rfl, (by rw [ew1078, ew1079]; omega)⟩, _, rfl, by omega, by omega⟩
    · refine WP_aload_n dX11_readSort_35 rfl ?_
      refine WQ_iconst (1) (1) dX11_readSort_36 rfl rfl (fun v1082 hv1082 => ?_)
      refine WQ_bipush (99) (99) dX11_readSort_37 rfl rfl (fun v1083 hv1083 => ?_)
      refine WP_callV2 (k := 11) dX11_readSort_39 ⟨⟨⟨by decide, by decide⟩, zX11_number⟩, lX11_81, by decide, rfl, vX11_number.1, vX11_number.2⟩ (ly_is hy 0 11 rfl) (sm_number hy hr hI1072 v1082 v1083 (by omega) (by omega) (by omega) (by omega) (by rw [ew1078, ew1079]; omega)) (Nat.le_of_ble_eq_true rfl) ?_
      intro r I1084 J1085 Ra hq
      obtain ⟨⟨hI1084, ec, ⟨pI1084, sI1084_0_15, sI1084_0_16⟩⟩, v1086, rfl, av1086, bv1086, cv1086⟩ := hq
      show WP _ _ _ _ (.int _ :: _) _ _ _ _
      rw [ec]
      clear ec Ra
      have e1087 : I1084 (ad g 0) 15 = v1062 := by rw [sI1084_0_15]; exact e1075
      have e1088 : I1084 (ad g 0) 1 = L := hI1084.1.2
      have b1089 := BT_get hI1084.1.1 0 1 2 (0) (0) (900) (by decide) 1 (by decide) (by decide)
      rw [e1088] at b1089
      obtain ⟨w1090, ew1090⟩ : ∃ w : Int32, I1084 (ad g 0) 4 = w := ⟨_, rfl⟩
      have bw1090 := BT_get hI1084.1.1 0 4 5 (0) (0) (900) (by decide) 4 (by decide) (by decide)
      rw [ew1090] at bw1090
      obtain ⟨w1091, ew1091⟩ : ∃ w : Int32, I1084 (ad g 0) 2 = w := ⟨_, rfl⟩
      have bw1091 := BT_get hI1084.1.1 0 2 3 (0) (0) (900) (by decide) 2 (by decide) (by decide)
      rw [ew1091] at bw1091
      rw [ew1090, ew1091] at pI1084
      obtain ⟨w1092, ew1092⟩ : ∃ w : Int32, I1084 (ad g 0) 7 = w := ⟨_, rfl⟩
      have bw1092 := BT_get hI1084.1.1 0 7 8 (-1) (0) (1000) (by decide) 7 (by decide) (by decide)
      rw [ew1092] at bw1092
      rw [ew1092] at cv1086
      refine WQ_if_ne 47 dX11_readSort_42 rfl (fun c1092 => ?_) (fun c1092 => ?_)
      · refine WP_aload_n dX11_readSort_47 rfl ?_
        refine WP_getr dX11_readSort_48 fX11_99 rfl (ly_is hy 0 11 rfl) (rf hr 0 32 14 (by decide)) ?_
        refine WP_iload_n dX11_readSort_51 rfl ?_
        refine WP_aload_n dX11_readSort_52 rfl ?_
        refine WQ_getim dX11_readSort_53 fX11_56 rfl (ly_is hy 0 11 rfl) ew1092 ?_
        refine WQ_iast dX11_readSort_56 (ly_is hy 14 13 rfl) (ly_n hy 14 4 rfl) (by omega) (by omega) (fun I1094 eI1094 => ?_)
        have hI1094 : MP g n L I1094 := by rw [eI1094]; exact (mp_w hy hI1084 (c := 14) (mi_r hy hI1084.1 (c := 14) (0) (0) (99) (by decide) (Or.inl (by decide)) (by decide) (by omega) (by omega)) (by decide) (by decide) (Or.inl (by decide)))
        have e1095 : I1094 (ad g 0) 15 = v1062 := by rw [eI1094, pp_ne _ _ (Or.inl (ly_ne hy (by decide) (by decide) (by decide)))]; exact e1087
        have e1096 : I1094 (ad g 0) 1 = L := by rw [eI1094, pp_ne _ _ (Or.inl (ly_ne hy (by decide) (by decide) (by decide)))]; exact e1088
        have e1097 : I1094 (ad g 0) 4 = w1090 := by rw [eI1094, pp_ne _ _ (Or.inl (ly_ne hy (by decide) (by decide) (by decide)))]; exact ew1090
        have e1098 : I1094 (ad g 0) 2 = w1091 := by rw [eI1094, pp_ne _ _ (Or.inl (ly_ne hy (by decide) (by decide) (by decide)))]; exact ew1091
        have e1099 : I1094 (ad g 0) 7 = w1092 := by rw [eI1094, pp_ne _ _ (Or.inl (ly_ne hy (by decide) (by decide) (by decide)))]; exact ew1092
        clear eI1094
        refine WP_aload_n dX11_readSort_57 rfl ?_
        refine WQ_iconst (0) (0) dX11_readSort_58 rfl rfl (fun v1100 hv1100 => ?_)
        refine WQ_sipush (1000) (1000) dX11_readSort_59 rfl rfl (fun v1101 hv1101 => ?_)
        refine WP_callV2 (k := 11) dX11_readSort_62 ⟨⟨⟨by decide, by decide⟩, zX11_number⟩, lX11_81, by decide, rfl, vX11_number.1, vX11_number.2⟩ (ly_is hy 0 11 rfl) (sm_number hy hr hI1094 v1100 v1101 (by omega) (by omega) (by omega) (by omega) (by rw [e1097, e1098]; omega)) (Nat.le_of_ble_eq_true rfl) ?_
        intro r I1102 J1103 Ra hq
        obtain ⟨⟨hI1102, ec, ⟨pI1102, sI1102_0_15, sI1102_0_16⟩⟩, v1104, rfl, av1104, bv1104, cv1104⟩ := hq
        show WP _ _ _ _ (.int _ :: _) _ _ _ _
        rw [ec]
        clear ec Ra
        have e1105 : I1102 (ad g 0) 15 = v1062 := by rw [sI1102_0_15]; exact e1095
        have e1106 : I1102 (ad g 0) 1 = L := hI1102.1.2
        have b1107 := BT_get hI1102.1.1 0 1 2 (0) (0) (900) (by decide) 1 (by decide) (by decide)
        rw [e1106] at b1107
        obtain ⟨w1108, ew1108⟩ : ∃ w : Int32, I1102 (ad g 0) 4 = w := ⟨_, rfl⟩
        have bw1108 := BT_get hI1102.1.1 0 4 5 (0) (0) (900) (by decide) 4 (by decide) (by decide)
        rw [ew1108] at bw1108
        obtain ⟨w1109, ew1109⟩ : ∃ w : Int32, I1102 (ad g 0) 2 = w := ⟨_, rfl⟩
        have bw1109 := BT_get hI1102.1.1 0 2 3 (0) (0) (900) (by decide) 2 (by decide) (by decide)
        rw [ew1109] at bw1109
        rw [ew1108, ew1109] at pI1102
        obtain ⟨w1110, ew1110⟩ : ∃ w : Int32, I1102 (ad g 0) 7 = w := ⟨_, rfl⟩
        have bw1110 := BT_get hI1102.1.1 0 7 8 (-1) (0) (1000) (by decide) 7 (by decide) (by decide)
        rw [ew1110] at bw1110
        rw [ew1110] at cv1104
        refine WQ_if_ne 70 dX11_readSort_65 rfl (fun c1110 => ?_) (fun c1110 => ?_)
        · refine WP_aload_n dX11_readSort_70 rfl ?_
          refine WP_getr dX11_readSort_71 fX11_102 rfl (ly_is hy 0 11 rfl) (rf hr 0 33 15 (by decide)) ?_
          refine WP_iload_n dX11_readSort_74 rfl ?_
          refine WP_aload_n dX11_readSort_75 rfl ?_
          refine WQ_getim dX11_readSort_76 fX11_56 rfl (ly_is hy 0 11 rfl) ew1110 ?_
          refine WQ_iast dX11_readSort_79 (ly_is hy 15 13 rfl) (ly_n hy 15 4 rfl) (by omega) (by omega) (fun I1112 eI1112 => ?_)
          have hI1112 : MP g n L I1112 := by rw [eI1112]; exact (mp_w hy hI1102 (c := 15) (mi_r hy hI1102.1 (c := 15) (0) (0) (1000) (by decide) (Or.inl (by decide)) (by decide) (by omega) (by omega)) (by decide) (by decide) (Or.inl (by decide)))
          have e1113 : I1112 (ad g 0) 15 = v1062 := by rw [eI1112, pp_ne _ _ (Or.inl (ly_ne hy (by decide) (by decide) (by decide)))]; exact e1105
          have e1114 : I1112 (ad g 0) 1 = L := by rw [eI1112, pp_ne _ _ (Or.inl (ly_ne hy (by decide) (by decide) (by decide)))]; exact e1106
          have e1115 : I1112 (ad g 0) 4 = w1108 := by rw [eI1112, pp_ne _ _ (Or.inl (ly_ne hy (by decide) (by decide) (by decide)))]; exact ew1108
          have e1116 : I1112 (ad g 0) 2 = w1109 := by rw [eI1112, pp_ne _ _ (Or.inl (ly_ne hy (by decide) (by decide) (by decide)))]; exact ew1109
          have e1117 : I1112 (ad g 0) 7 = w1110 := by rw [eI1112, pp_ne _ _ (Or.inl (ly_ne hy (by decide) (by decide) (by decide)))]; exact ew1110
          clear eI1112
          refine WP_aload_n dX11_readSort_80 rfl ?_
          refine WQ_iconst (0) (0) dX11_readSort_81 rfl rfl (fun v1118 hv1118 => ?_)
          refine WQ_bipush (60) (60) dX11_readSort_82 rfl rfl (fun v1119 hv1119 => ?_)
          refine WP_callV2 (k := 11) dX11_readSort_84 ⟨⟨⟨by decide, by decide⟩, zX11_number⟩, lX11_81, by decide, rfl, vX11_number.1, vX11_number.2⟩ (ly_is hy 0 11 rfl) (sm_number hy hr hI1112 v1118 v1119 (by omega) (by omega) (by omega) (by omega) (by rw [e1115, e1116]; omega)) (Nat.le_of_ble_eq_true rfl) ?_
          intro r I1120 J1121 Ra hq
          obtain ⟨⟨hI1120, ec, ⟨pI1120, sI1120_0_15, sI1120_0_16⟩⟩, v1122, rfl, av1122, bv1122, cv1122⟩ := hq
          show WP _ _ _ _ (.int _ :: _) _ _ _ _
          rw [ec]
          clear ec Ra
          have e1123 : I1120 (ad g 0) 15 = v1062 := by rw [sI1120_0_15]; exact e1113
          have e1124 : I1120 (ad g 0) 1 = L := hI1120.1.2
          have b1125 := BT_get hI1120.1.1 0 1 2 (0) (0) (900) (by decide) 1 (by decide) (by decide)
          rw [e1124] at b1125
          obtain ⟨w1126, ew1126⟩ : ∃ w : Int32, I1120 (ad g 0) 4 = w := ⟨_, rfl⟩
          have bw1126 := BT_get hI1120.1.1 0 4 5 (0) (0) (900) (by decide) 4 (by decide) (by decide)
          rw [ew1126] at bw1126
          obtain ⟨w1127, ew1127⟩ : ∃ w : Int32, I1120 (ad g 0) 2 = w := ⟨_, rfl⟩
          have bw1127 := BT_get hI1120.1.1 0 2 3 (0) (0) (900) (by decide) 2 (by decide) (by decide)
          rw [ew1127] at bw1127
          rw [ew1126, ew1127] at pI1120
          obtain ⟨w1128, ew1128⟩ : ∃ w : Int32, I1120 (ad g 0) 7 = w := ⟨_, rfl⟩
          have bw1128 := BT_get hI1120.1.1 0 7 8 (-1) (0) (1000) (by decide) 7 (by decide) (by decide)
          rw [ew1128] at bw1128
          rw [ew1128] at cv1122
          refine WQ_if_ne 92 dX11_readSort_87 rfl (fun c1128 => ?_) (fun c1128 => ?_)
          · refine WP_aload_n dX11_readSort_92 rfl ?_
            refine WP_getr dX11_readSort_93 fX11_105 rfl (ly_is hy 0 11 rfl) (rf hr 0 34 16 (by decide)) ?_
            refine WP_iload_n dX11_readSort_96 rfl ?_
            refine WP_aload_n dX11_readSort_97 rfl ?_
            refine WQ_getim dX11_readSort_98 fX11_56 rfl (ly_is hy 0 11 rfl) ew1128 ?_
            refine WQ_iast dX11_readSort_101 (ly_is hy 16 13 rfl) (ly_n hy 16 4 rfl) (by omega) (by omega) (fun I1130 eI1130 => ?_)
            have hI1130 : MP g n L I1130 := by rw [eI1130]; exact (mp_w hy hI1120 (c := 16) (mi_r hy hI1120.1 (c := 16) (0) (0) (60) (by decide) (Or.inl (by decide)) (by decide) (by omega) (by omega)) (by decide) (by decide) (Or.inl (by decide)))
            have e1131 : I1130 (ad g 0) 15 = v1062 := by rw [eI1130, pp_ne _ _ (Or.inl (ly_ne hy (by decide) (by decide) (by decide)))]; exact e1123
            have e1132 : I1130 (ad g 0) 1 = L := by rw [eI1130, pp_ne _ _ (Or.inl (ly_ne hy (by decide) (by decide) (by decide)))]; exact e1124
            have e1133 : I1130 (ad g 0) 4 = w1126 := by rw [eI1130, pp_ne _ _ (Or.inl (ly_ne hy (by decide) (by decide) (by decide)))]; exact ew1126
            have e1134 : I1130 (ad g 0) 2 = w1127 := by rw [eI1130, pp_ne _ _ (Or.inl (ly_ne hy (by decide) (by decide) (by decide)))]; exact ew1127
            have e1135 : I1130 (ad g 0) 7 = w1128 := by rw [eI1130, pp_ne _ _ (Or.inl (ly_ne hy (by decide) (by decide) (by decide)))]; exact ew1128
            clear eI1130
            refine WP_aload_n dX11_readSort_102 rfl ?_
            refine WP_getr dX11_readSort_103 fX11_108 rfl (ly_is hy 0 11 rfl) (rf hr 0 35 17 (by decide)) ?_
            refine WP_iload_n dX11_readSort_106 rfl ?_
            refine WQ_iconst (0) (0) dX11_readSort_107 rfl rfl (fun v1136 hv1136 => ?_)
            refine WQ_iast dX11_readSort_108 (ly_is hy 17 13 rfl) (ly_n hy 17 4 rfl) (by omega) (by omega) (fun I1137 eI1137 => ?_)
            have hI1137 : MP g n L I1137 := by rw [eI1137]; exact (mp_w hy hI1130 (c := 17) (mi_r hy hI1130.1 (c := 17) (0) (0) (127) (by decide) (Or.inl (by decide)) (by decide) (by omega) (by omega)) (by decide) (by decide) (Or.inl (by decide)))
            have e1138 : I1137 (ad g 0) 15 = v1062 := by rw [eI1137, pp_ne _ _ (Or.inl (ly_ne hy (by decide) (by decide) (by decide)))]; exact e1131
            have e1139 : I1137 (ad g 0) 1 = L := by rw [eI1137, pp_ne _ _ (Or.inl (ly_ne hy (by decide) (by decide) (by decide)))]; exact e1132
            have e1140 : I1137 (ad g 0) 4 = w1126 := by rw [eI1137, pp_ne _ _ (Or.inl (ly_ne hy (by decide) (by decide) (by decide)))]; exact e1133
            have e1141 : I1137 (ad g 0) 2 = w1127 := by rw [eI1137, pp_ne _ _ (Or.inl (ly_ne hy (by decide) (by decide) (by decide)))]; exact e1134
            have e1142 : I1137 (ad g 0) 7 = w1128 := by rw [eI1137, pp_ne _ _ (Or.inl (ly_ne hy (by decide) (by decide) (by decide)))]; exact e1135
            clear eI1137
            refine WP_aload_n dX11_readSort_109 rfl ?_
            refine WP_getr dX11_readSort_110 fX11_111 rfl (ly_is hy 0 11 rfl) (rf hr 0 52 33 (by decide)) ?_
            refine WP_iload_n dX11_readSort_113 rfl ?_
            refine WQ_iconst (0) (0) dX11_readSort_114 rfl rfl (fun v1143 hv1143 => ?_)
            refine WQ_iast dX11_readSort_115 (ly_is hy 33 13 rfl) (ly_n hy 33 4 rfl) (by omega) (by omega) (fun I1144 eI1144 => ?_)
            have hI1144 : MP g n L I1144 := by rw [eI1144]; exact (mp_w hy hI1137 (c := 33) (mi_r0 hy hI1137.1 (c := 33) (by decide) (Or.inl (by decide)) (by decide)) (by decide) (by decide) (Or.inl (by decide)))
            have e1145 : I1144 (ad g 0) 15 = v1062 := by rw [eI1144, pp_ne _ _ (Or.inl (ly_ne hy (by decide) (by decide) (by decide)))]; exact e1138
            have e1146 : I1144 (ad g 0) 1 = L := by rw [eI1144, pp_ne _ _ (Or.inl (ly_ne hy (by decide) (by decide) (by decide)))]; exact e1139
            have e1147 : I1144 (ad g 0) 4 = w1126 := by rw [eI1144, pp_ne _ _ (Or.inl (ly_ne hy (by decide) (by decide) (by decide)))]; exact e1140
            have e1148 : I1144 (ad g 0) 2 = w1127 := by rw [eI1144, pp_ne _ _ (Or.inl (ly_ne hy (by decide) (by decide) (by decide)))]; exact e1141
            have e1149 : I1144 (ad g 0) 7 = w1128 := by rw [eI1144, pp_ne _ _ (Or.inl (ly_ne hy (by decide) (by decide) (by decide)))]; exact e1142
            clear eI1144
            refine WQ_iconst (0) (0) dX11_readSort_116 rfl rfl (fun v1150 hv1150 => ?_)
            refine WP_istore_n (ls' := [(0, _), (1, _), (2, _)]) dX11_readSort_117 (by decide) rfl ?_
            have lp118_1156 : ∀ (mz : Nat) (i1151 : Int32) (I1152 : pI) (J1153 : pJ), MP g n L I1152 → ∀ (w1154 : Int32), I1152 (ad g 0) 4 = w1154 → ∀ (w1155 : Int32), I1152 (ad g 0) 2 = w1155 → ∀ (w1156 : Int32), I1152 (ad g 0) 15 = w1156 → 0 ≤ i1151.toInt → i1151.toInt ≤ 7 → w1154.toInt ≤ w1155.toInt → w1156.toInt ≤ 3 → (8 - i1151.toInt).toNat < mz → WP g mX11_readSort 118 [(0, .ref (ad g 0)), (1, .int v1062), (2, .int i1151)] [] I1152 J1153 R (fun r I' J' R' => (MP g n L I' ∧ R' = R ∧ (I' (ad g 0) 4).toInt ≤ (I' (ad g 0) 2).toInt) ∧ ∃ v : Int32, r = some (.int v) ∧ 0 ≤ v.toInt ∧ v.toInt ≤ 1) := by
              intro mz
              induction mz with
              | zero =>
                intro i1151 I1152 J1153 hI1152 w1154 ew1154 w1155 ew1155 w1156 ew1156 ai1151 bi1151 j0_I1152 j1_I1152 hmlp118_1156
                exact absurd hmlp118_1156 (Nat.not_lt_zero _)
              | succ mz ihlp118_1156 =>
                intro i1151 I1152 J1153 hI1152 w1154 ew1154 w1155 ew1155 w1156 ew1156 ai1151 bi1151 j0_I1152 j1_I1152 hmlp118_1156
                have bw1154 := BT_get hI1152.1.1 0 4 5 (0) (0) (900) (by decide) 4 (by decide) (by decide)
                rw [ew1154] at bw1154
                have bw1155 := BT_get hI1152.1.1 0 2 3 (0) (0) (900) (by decide) 2 (by decide) (by decide)
                rw [ew1155] at bw1155
                have bw1156 := BT_get hI1152.1.1 0 15 16 (0) (0) (4) (by decide) 15 (by decide) (by decide)
                rw [ew1156] at bw1156
                have e1158 : I1152 (ad g 0) 1 = L := hI1152.1.2
                have b1159 := BT_get hI1152.1.1 0 1 2 (0) (0) (900) (by decide) 1 (by decide) (by decide)
                rw [e1158] at b1159
                refine WP_iload_n dX11_readSort_118 rfl ?_
                refine WQ_bipush (7) (7) dX11_readSort_119 rfl rfl (fun v1160 hv1160 => ?_)
                refine WQ_icmp_ge 178 dX11_readSort_121 rfl (fun c1160 => ?_) (fun c1160 => ?_)
                · refine WP_aload_n dX11_readSort_178 rfl ?_
                  refine WP_dup dX11_readSort_179 rfl ?_
                  refine WQ_getim dX11_readSort_180 fX11_88 rfl (ly_is hy 0 11 rfl) ew1156 ?_
                  refine WQ_iconst (1) (1) dX11_readSort_183 rfl rfl (fun v1162 hv1162 => ?_)
                  refine WQ_iadd dX11_readSort_184 (by omega) (by omega) (fun v1163 hv1163 => ?_)
                  refine WQ_puti dX11_readSort_185 fX11_88 rfl rfl (ly_is hy 0 11 rfl) (fun I1164 eI1164 => ?_)
                  have hI1164 : MP g n L I1164 := by rw [eI1164]; exact (mp_w hy hI1152 (c := 0) (mi_f hy hI1152.1 (c := 0) (0) (0) (4) (by decide) (Or.inr (by decide)) (by decide) (by omega) (by omega)) (by decide) (by decide) (Or.inr (by decide)))
                  have e1165 : I1164 (ad g 0) 4 = w1154 := by rw [eI1164, pp_ne _ _ (Or.inr (by decide))]; exact ew1154
                  have e1166 : I1164 (ad g 0) 2 = w1155 := by rw [eI1164, pp_ne _ _ (Or.inr (by decide))]; exact ew1155
                  have e1167 : I1164 (ad g 0) 1 = L := by rw [eI1164, pp_ne _ _ (Or.inr (by decide))]; exact e1158
                  have e1168 : I1164 (ad g 0) 15 = v1163 := by rw [eI1164, pp_self]
                  clear eI1164
                  refine WQ_iconst (1) (1) dX11_readSort_188 rfl rfl (fun v1169 hv1169 => ?_)
                  exact WP_zret dX11_readSort_189 rfl (nar_z (by omega)) ⟨⟨hI1164, rfl, (by rw [e1165, e1166]; omega)⟩, _, rfl, by omega, by omega⟩
                · refine WP_aload_n dX11_readSort_124 rfl ?_
                  refine WP_getr dX11_readSort_125 fX11_114 rfl (ly_is hy 0 11 rfl) (rf hr 0 45 27 (by decide)) ?_
                  refine WQ_bipush (7) (7) dX11_readSort_128 rfl rfl (fun v1170 hv1170 => ?_)
                  refine WP_iload_n dX11_readSort_130 rfl ?_
                  refine WQ_imulK (7) dX11_readSort_131 hv1170 (by omega) (by omega) (fun v1171 hv1171 => ?_)
                  refine WP_iload_n dX11_readSort_132 rfl ?_
                  refine WQ_iadd dX11_readSort_133 (by omega) (by omega) (fun v1172 hv1172 => ?_)
                  refine WQ_iconst (0) (0) dX11_readSort_134 rfl rfl (fun v1173 hv1173 => ?_)
                  refine WQ_iast dX11_readSort_135 (ly_is hy 27 13 rfl) (ly_n hy 27 28 rfl) (by omega) (by omega) (fun I1174 eI1174 => ?_)
                  have hI1174 : MP g n L I1174 := by rw [eI1174]; exact (mp_w hy hI1152 (c := 27) (mi_r hy hI1152.1 (c := 27) (0) (0) (20) (by decide) (Or.inl (by decide)) (by decide) (by omega) (by omega)) (by decide) (by decide) (Or.inl (by decide)))
                  have e1175 : I1174 (ad g 0) 4 = w1154 := by rw [eI1174, pp_ne _ _ (Or.inl (ly_ne hy (by decide) (by decide) (by decide)))]; exact ew1154
                  have e1176 : I1174 (ad g 0) 2 = w1155 := by rw [eI1174, pp_ne _ _ (Or.inl (ly_ne hy (by decide) (by decide) (by decide)))]; exact ew1155
                  have e1177 : I1174 (ad g 0) 15 = w1156 := by rw [eI1174, pp_ne _ _ (Or.inl (ly_ne hy (by decide) (by decide) (by decide)))]; exact ew1156
                  have e1178 : I1174 (ad g 0) 1 = L := by rw [eI1174, pp_ne _ _ (Or.inl (ly_ne hy (by decide) (by decide) (by decide)))]; exact e1158
                  clear eI1174
                  refine WP_aload_n dX11_readSort_136 rfl ?_
                  refine WP_getr dX11_readSort_137 fX11_117 rfl (ly_is hy 0 11 rfl) (rf hr 0 48 30 (by decide)) ?_
                  refine WQ_bipush (7) (7) dX11_readSort_140 rfl rfl (fun v1179 hv1179 => ?_)
                  refine WP_iload_n dX11_readSort_142 rfl ?_
                  refine WQ_imulK (7) dX11_readSort_143 hv1179 (by omega) (by omega) (fun v1180 hv1180 => ?_)
                  refine WP_iload_n dX11_readSort_144 rfl ?_
                  refine WQ_iadd dX11_readSort_145 (by omega) (by omega) (fun v1181 hv1181 => ?_)
                  refine WQ_iconst (-1) (-1) dX11_readSort_146 rfl rfl (fun v1182 hv1182 => ?_)
                  refine WQ_iast dX11_readSort_147 (ly_is hy 30 13 rfl) (ly_n hy 30 28 rfl) (by omega) (by omega) (fun I1183 eI1183 => ?_)
                  have hI1183 : MP g n L I1183 := by rw [eI1183]; exact (mp_w hy hI1174 (c := 30) (mi_r hy hI1174.1 (c := 30) (-1) (0) (2) (by decide) (Or.inl (by decide)) (by decide) (by omega) (by omega)) (by decide) (by decide) (Or.inl (by decide)))
                  have e1184 : I1183 (ad g 0) 4 = w1154 := by rw [eI1183, pp_ne _ _ (Or.inl (ly_ne hy (by decide) (by decide) (by decide)))]; exact e1175
                  have e1185 : I1183 (ad g 0) 2 = w1155 := by rw [eI1183, pp_ne _ _ (Or.inl (ly_ne hy (by decide) (by decide) (by decide)))]; exact e1176
                  have e1186 : I1183 (ad g 0) 15 = w1156 := by rw [eI1183, pp_ne _ _ (Or.inl (ly_ne hy (by decide) (by decide) (by decide)))]; exact e1177
                  have e1187 : I1183 (ad g 0) 1 = L := by rw [eI1183, pp_ne _ _ (Or.inl (ly_ne hy (by decide) (by decide) (by decide)))]; exact e1178
                  clear eI1183
                  refine WP_aload_n dX11_readSort_148 rfl ?_
                  refine WP_getr dX11_readSort_149 fX11_120 rfl (ly_is hy 0 11 rfl) (rf hr 0 49 31 (by decide)) ?_
                  refine WQ_bipush (7) (7) dX11_readSort_152 rfl rfl (fun v1188 hv1188 => ?_)
                  refine WP_iload_n dX11_readSort_154 rfl ?_
                  refine WQ_imulK (7) dX11_readSort_155 hv1188 (by omega) (by omega) (fun v1189 hv1189 => ?_)
                  refine WP_iload_n dX11_readSort_156 rfl ?_
                  refine WQ_iadd dX11_readSort_157 (by omega) (by omega) (fun v1190 hv1190 => ?_)
                  refine WQ_iconst (0) (0) dX11_readSort_158 rfl rfl (fun v1191 hv1191 => ?_)
                  refine WQ_iast dX11_readSort_159 (ly_is hy 31 13 rfl) (ly_n hy 31 28 rfl) (by omega) (by omega) (fun I1192 eI1192 => ?_)
                  have hI1192 : MP g n L I1192 := by rw [eI1192]; exact (mp_w hy hI1183 (c := 31) (mi_r hy hI1183.1 (c := 31) (0) (0) (3) (by decide) (Or.inl (by decide)) (by decide) (by omega) (by omega)) (by decide) (by decide) (Or.inl (by decide)))
                  have e1193 : I1192 (ad g 0) 4 = w1154 := by rw [eI1192, pp_ne _ _ (Or.inl (ly_ne hy (by decide) (by decide) (by decide)))]; exact e1184
                  have e1194 : I1192 (ad g 0) 2 = w1155 := by rw [eI1192, pp_ne _ _ (Or.inl (ly_ne hy (by decide) (by decide) (by decide)))]; exact e1185
                  have e1195 : I1192 (ad g 0) 15 = w1156 := by rw [eI1192, pp_ne _ _ (Or.inl (ly_ne hy (by decide) (by decide) (by decide)))]; exact e1186
                  have e1196 : I1192 (ad g 0) 1 = L := by rw [eI1192, pp_ne _ _ (Or.inl (ly_ne hy (by decide) (by decide) (by decide)))]; exact e1187
                  clear eI1192
                  refine WP_aload_n dX11_readSort_160 rfl ?_
                  refine WP_getr dX11_readSort_161 fX11_123 rfl (ly_is hy 0 11 rfl) (rf hr 0 50 32 (by decide)) ?_
                  refine WQ_bipush (7) (7) dX11_readSort_164 rfl rfl (fun v1197 hv1197 => ?_)
                  refine WP_iload_n dX11_readSort_166 rfl ?_
                  refine WQ_imulK (7) dX11_readSort_167 hv1197 (by omega) (by omega) (fun v1198 hv1198 => ?_)
                  refine WP_iload_n dX11_readSort_168 rfl ?_
                  refine WQ_iadd dX11_readSort_169 (by omega) (by omega) (fun v1199 hv1199 => ?_)
                  refine WQ_iconst (0) (0) dX11_readSort_170 rfl rfl (fun v1200 hv1200 => ?_)
                  refine WQ_iast dX11_readSort_171 (ly_is hy 32 13 rfl) (ly_n hy 32 28 rfl) (by omega) (by omega) (fun I1201 eI1201 => ?_)
                  have hI1201 : MP g n L I1201 := by rw [eI1201]; exact (mp_w hy hI1192 (c := 32) (mi_r hy hI1192.1 (c := 32) (0) (0) (99) (by decide) (Or.inl (by decide)) (by decide) (by omega) (by omega)) (by decide) (by decide) (Or.inl (by decide)))
                  have e1202 : I1201 (ad g 0) 4 = w1154 := by rw [eI1201, pp_ne _ _ (Or.inl (ly_ne hy (by decide) (by decide) (by decide)))]; exact e1193
                  have e1203 : I1201 (ad g 0) 2 = w1155 := by rw [eI1201, pp_ne _ _ (Or.inl (ly_ne hy (by decide) (by decide) (by decide)))]; exact e1194
                  have e1204 : I1201 (ad g 0) 15 = w1156 := by rw [eI1201, pp_ne _ _ (Or.inl (ly_ne hy (by decide) (by decide) (by decide)))]; exact e1195
                  have e1205 : I1201 (ad g 0) 1 = L := by rw [eI1201, pp_ne _ _ (Or.inl (ly_ne hy (by decide) (by decide) (by decide)))]; exact e1196
                  clear eI1201
                  refine WP_iinc (ls' := [(0, _), (1, _), (2, _)]) dX11_readSort_172 rfl (by decide) rfl ?_
                  have hv1206 : (i1151 + Int32.ofInt (1)).toInt = i1151.toInt + (1) := ia_n rfl (by omega) (by omega)
                  generalize i1151 + Int32.ofInt (1) = v1206 at hv1206 ⊢
                  refine WP_goto 118 dX11_readSort_175 rfl ?_
                  exact WP_sub (fc rfl (fc rfl (fc rfl fn))) (ihlp118_1156 v1206 I1201 J1153 hI1201 w1154 e1202 w1155 e1203 w1156 e1204 (by omega) (by omega) (by omega) (by omega) (by omega))
            exact WP_sub (fc rfl (fc rfl (fc rfl fn))) (lp118_1156 _ v1150 I1144 J1121 hI1144 w1126 e1147 w1127 e1148 v1062 e1145 (by omega) (by omega) (by omega) (by omega) (Nat.lt_succ_self _))
          · refine WQ_iconst (0) (0) dX11_readSort_90 rfl rfl (fun v1207 hv1207 => ?_)
            exact WP_zret dX11_readSort_91 rfl (nar_z (by omega)) ⟨⟨hI1120, rfl, (by rw [ew1126, ew1127]; omega)⟩, _, rfl, by omega, by omega⟩
        · refine WQ_iconst (0) (0) dX11_readSort_68 rfl rfl (fun v1208 hv1208 => ?_)
          exact WP_zret dX11_readSort_69 rfl (nar_z (by omega)) ⟨⟨hI1102, rfl, (by rw [ew1108, ew1109]; omega)⟩, _, rfl, by omega, by omega⟩
      · refine WQ_iconst (0) (0) dX11_readSort_45 rfl rfl (fun v1209 hv1209 => ?_)
        exact WP_zret dX11_readSort_46 rfl (nar_z (by omega)) ⟨⟨hI1084, rfl, (by rw [ew1090, ew1091]; omega)⟩, _, rfl, by omega, by omega⟩
  · refine WP_aload_n dX11_readSort_8 rfl ?_
    refine WQ_iconst (4) (4) dX11_readSort_9 rfl rfl (fun v1210 hv1210 => ?_)
    refine WP_callV1 (k := 11) dX11_readSort_10 ⟨⟨⟨by decide, by decide⟩, zX11_bad⟩, lX11_49, by decide, rfl, vX11_bad.1, vX11_bad.2⟩ (ly_is hy 0 11 rfl) (sm_bad2 hy hr hI v1210  (by rw [ew1060, ew1061]; omega)) (Nat.le_of_ble_eq_true rfl) ?_
    intro r I1211 J1212 Ra hq
    obtain ⟨⟨hI1211, ec, ⟨pI1211, sI1211_0_15, sI1211_0_16⟩⟩, v1213, rfl, av1213, bv1213⟩ := hq
    show WP _ _ _ _ (.int _ :: _) _ _ _ _
    rw [ec]
    clear ec Ra
    have e1214 : I1211 (ad g 0) 15 = v1062 := by rw [sI1211_0_15]; exact ev1062
    have e1215 : I1211 (ad g 0) 1 = L := hI1211.1.2
    have b1216 := BT_get hI1211.1.1 0 1 2 (0) (0) (900) (by decide) 1 (by decide) (by decide)
    rw [e1215] at b1216
    obtain ⟨w1217, ew1217⟩ : ∃ w : Int32, I1211 (ad g 0) 4 = w := ⟨_, rfl⟩
    have bw1217 := BT_get hI1211.1.1 0 4 5 (0) (0) (900) (by decide) 4 (by decide) (by decide)
    rw [ew1217] at bw1217
    obtain ⟨w1218, ew1218⟩ : ∃ w : Int32, I1211 (ad g 0) 2 = w := ⟨_, rfl⟩
    have bw1218 := BT_get hI1211.1.1 0 2 3 (0) (0) (900) (by decide) 2 (by decide) (by decide)
    rw [ew1218] at bw1218
    rw [ew1217, ew1218] at pI1211
    exact WP_zret dX11_readSort_13 rfl (nar_z (by omega)) ⟨⟨hI1211, rfl, (by rw [ew1217, ew1218]; omega)⟩, _, rfl, by omega, by omega⟩
set_option maxHeartbeats 4000000 in
set_option maxRecDepth 100000 in
theorem sm_readThingOf {g : GG} {n : Int} {L : Int32} (hy : Ly g)  {I : pI} {J : pJ} {R : pR} (hr : Rf g R) (hI : MP g n L I)   (hb : (I (ad g 0) 4).toInt ≤ (I (ad g 0) 2).toInt) : SP g mX11_readThingOf [.ref (ad g 0)] I J R (fun r I' J' R' => (MP g n L I' ∧ R' = R ∧ (I' (ad g 0) 4).toInt ≤ (I' (ad g 0) 2).toInt) ∧ ∃ v : Int32, r = some (.int v) ∧ 0 ≤ v.toInt ∧ v.toInt ≤ 1) := by
  refine SP_of ⟨by decide, rfl⟩ (Nat.le_of_ble_eq_true rfl) ?_
  have e1219 : I (ad g 0) 1 = L := hI.1.2
  have b1220 := BT_get hI.1.1 0 1 2 (0) (0) (900) (by decide) 1 (by decide) (by decide)
  rw [e1219] at b1220
  obtain ⟨w1221, ew1221⟩ : ∃ w : Int32, I (ad g 0) 4 = w := ⟨_, rfl⟩
  have bw1221 := BT_get hI.1.1 0 4 5 (0) (0) (900) (by decide) 4 (by decide) (by decide)
  rw [ew1221] at bw1221
  obtain ⟨w1222, ew1222⟩ : ∃ w : Int32, I (ad g 0) 2 = w := ⟨_, rfl⟩
  have bw1222 := BT_get hI.1.1 0 2 3 (0) (0) (900) (by decide) 2 (by decide) (by decide)
  rw [ew1222] at bw1222
  rw [ew1221, ew1222] at hb
  refine WP_aload_n dX11_readThingOf_0 rfl ?_
  refine WQ_geti dX11_readThingOf_1 fX11_126 rfl (ly_is hy 0 11 rfl) (BT_get hI.1.1 0 16 17 (0) (0) (3) (by decide) 16 (by decide) (by decide)) (fun v1223 ev1223 av1223 bv1223 => ?_)
  refine WQ_iconst (3) (3) dX11_readThingOf_4 rfl rfl (fun v1224 hv1224 => ?_)
  refine WQ_icmp_ne 14 dX11_readThingOf_5 rfl (fun c1224 => ?_) (fun c1224 => ?_)
  · refine WP_aload_n dX11_readThingOf_14 rfl ?_
    refine WP_callV0 (k := 11) dX11_readThingOf_15 ⟨⟨⟨by decide, by decide⟩, zX11_scan⟩, lX11_63, by decide, rfl, vX11_scan.1, vX11_scan.2⟩ (ly_is hy 0 11 rfl) (sm_scan hy hr hI   (by rw [ew1221, ew1222]; omega)) (Nat.le_of_ble_eq_true rfl) ?_
    intro r I1226 J1227 Ra hq
    obtain ⟨⟨hI1226, ec, ⟨pI1226, sI1226_0_7, sI1226_0_15, sI1226_0_16⟩⟩, rfl⟩ := hq
    rw [ec]
    clear ec Ra
    have e1228 : I1226 (ad g 0) 16 = v1223 := by rw [sI1226_0_16]; exact ev1223
    have e1229 : I1226 (ad g 0) 1 = L := hI1226.1.2
    have b1230 := BT_get hI1226.1.1 0 1 2 (0) (0) (900) (by decide) 1 (by decide) (by decide)
    rw [e1229] at b1230
    obtain ⟨w1231, ew1231⟩ : ∃ w : Int32, I1226 (ad g 0) 4 = w := ⟨_, rfl⟩
    have bw1231 := BT_get hI1226.1.1 0 4 5 (0) (0) (900) (by decide) 4 (by decide) (by decide)
    rw [ew1231] at bw1231
    obtain ⟨w1232, ew1232⟩ : ∃ w : Int32, I1226 (ad g 0) 2 = w := ⟨_, rfl⟩
    have bw1232 := BT_get hI1226.1.1 0 2 3 (0) (0) (900) (by decide) 2 (by decide) (by decide)
    rw [ew1232] at bw1232
    rw [ew1231, ew1232] at pI1226
    refine WP_aload_n dX11_readThingOf_18 rfl ?_
    refine WQ_getim dX11_readThingOf_19 fX11_126 rfl (ly_is hy 0 11 rfl) e1228 ?_
    refine WP_istore_n (ls' := [(0, _), (1, _)]) dX11_readThingOf_22 (by decide) rfl ?_
    refine WP_aload_n dX11_readThingOf_23 rfl ?_
    refine WP_aload_n dX11_readThingOf_24 rfl ?_
    refine WP_getr dX11_readThingOf_25 fX11_129 rfl (ly_is hy 0 11 rfl) (rf hr 0 23 5 (by decide)) ?_
    refine WP_iload_n dX11_readThingOf_28 rfl ?_
    refine WP_callV2 (k := 11) dX11_readThingOf_29 ⟨⟨⟨by decide, by decide⟩, zX11_fresh⟩, lX11_95, by decide, rfl, vX11_fresh.1, vX11_fresh.2⟩ (ly_is hy 0 11 rfl) (sm_fresh_5 hy hr hI1226 v1223 (by omega) (by omega) (by rw [ew1231, ew1232]; omega)) (Nat.le_of_ble_eq_true rfl) ?_
    intro r I1233 J1234 Ra hq
    obtain ⟨⟨hI1233, ec, ⟨pI1233, sI1233_0_15, sI1233_0_16⟩⟩, v1235, rfl, av1235, bv1235⟩ := hq
    show WP _ _ _ _ (.int _ :: _) _ _ _ _
    rw [ec]
    clear ec Ra
    have e1236 : I1233 (ad g 0) 16 = v1223 := by rw [sI1233_0_16]; exact e1228
    have e1237 : I1233 (ad g 0) 1 = L := hI1233.1.2
    have b1238 := BT_get hI1233.1.1 0 1 2 (0) (0) (900) (by decide) 1 (by decide) (by decide)
    rw [e1237] at b1238
    obtain ⟨w1239, ew1239⟩ : ∃ w : Int32, I1233 (ad g 0) 4 = w := ⟨_, rfl⟩
    have bw1239 := BT_get hI1233.1.1 0 4 5 (0) (0) (900) (by decide) 4 (by decide) (by decide)
    rw [ew1239] at bw1239
    obtain ⟨w1240, ew1240⟩ : ∃ w : Int32, I1233 (ad g 0) 2 = w := ⟨_, rfl⟩
    have bw1240 := BT_get hI1233.1.1 0 2 3 (0) (0) (900) (by decide) 2 (by decide) (by decide)
    rw [ew1240] at bw1240
    rw [ew1239, ew1240] at pI1233
    refine WQ_if_eq 46 dX11_readThingOf_32 rfl (fun c1240 => ?_) (fun c1240 => ?_)
    · refine WQ_iconst (0) (0) dX11_readThingOf_46 rfl rfl (fun v1242 hv1242 => ?_)
      exact WP_zret dX11_readThingOf_47 rfl (nar_z (by omega)) ⟨⟨hI1233, rfl, (by rw [ew1239, ew1240]; omega)⟩, _, rfl, by omega, by omega⟩
    · refine WP_aload_n dX11_readThingOf_35 rfl ?_
      refine WQ_iconst (0) (0) dX11_readThingOf_36 rfl rfl (fun v1243 hv1243 => ?_)
      refine WQ_sipush (1000) (1000) dX11_readThingOf_37 rfl rfl (fun v1244 hv1244 => ?_)
      refine WP_callV2 (k := 11) dX11_readThingOf_40 ⟨⟨⟨by decide, by decide⟩, zX11_number⟩, lX11_81, by decide, rfl, vX11_number.1, vX11_number.2⟩ (ly_is hy 0 11 rfl) (sm_number hy hr hI1233 v1243 v1244 (by omega) (by omega) (by omega) (by omega) (by rw [ew1239, ew1240]; omega)) (Nat.le_of_ble_eq_true rfl) ?_
      intro r I1245 J1246 Ra hq
      obtain ⟨⟨hI1245, ec, ⟨pI1245, sI1245_0_15, sI1245_0_16⟩⟩, v1247, rfl, av1247, bv1247, cv1247⟩ := hq
      show WP _ _ _ _ (.int _ :: _) _ _ _ _
      rw [ec]
      clear ec Ra
      have e1248 : I1245 (ad g 0) 16 = v1223 := by rw [sI1245_0_16]; exact e1236
      have e1249 : I1245 (ad g 0) 1 = L := hI1245.1.2
      have b1250 := BT_get hI1245.1.1 0 1 2 (0) (0) (900) (by decide) 1 (by decide) (by decide)
      rw [e1249] at b1250
      obtain ⟨w1251, ew1251⟩ : ∃ w : Int32, I1245 (ad g 0) 4 = w := ⟨_, rfl⟩
      have bw1251 := BT_get hI1245.1.1 0 4 5 (0) (0) (900) (by decide) 4 (by decide) (by decide)
      rw [ew1251] at bw1251
      obtain ⟨w1252, ew1252⟩ : ∃ w : Int32, I1245 (ad g 0) 2 = w := ⟨_, rfl⟩
      have bw1252 := BT_get hI1245.1.1 0 2 3 (0) (0) (900) (by decide) 2 (by decide) (by decide)
      rw [ew1252] at bw1252
      rw [ew1251, ew1252] at pI1245
      obtain ⟨w1253, ew1253⟩ : ∃ w : Int32, I1245 (ad g 0) 7 = w := ⟨_, rfl⟩
      have bw1253 := BT_get hI1245.1.1 0 7 8 (-1) (0) (1000) (by decide) 7 (by decide) (by decide)
      rw [ew1253] at bw1253
      rw [ew1253] at cv1247
      refine WQ_if_ne 48 dX11_readThingOf_43 rfl (fun c1253 => ?_) (fun c1253 => ?_)
      · refine WP_aload_n dX11_readThingOf_48 rfl ?_
        refine WP_getr dX11_readThingOf_49 fX11_132 rfl (ly_is hy 0 11 rfl) (rf hr 0 36 18 (by decide)) ?_
        refine WP_iload_n dX11_readThingOf_52 rfl ?_
        refine WP_aload_n dX11_readThingOf_53 rfl ?_
        refine WQ_getim dX11_readThingOf_54 fX11_56 rfl (ly_is hy 0 11 rfl) ew1253 ?_
        refine WQ_iast dX11_readThingOf_57 (ly_is hy 18 13 rfl) (ly_n hy 18 3 rfl) (by omega) (by omega) (fun I1255 eI1255 => ?_)
        have hI1255 : MP g n L I1255 := by rw [eI1255]; exact (mp_w hy hI1245 (c := 18) (mi_r hy hI1245.1 (c := 18) (0) (0) (1000) (by decide) (Or.inl (by decide)) (by decide) (by omega) (by omega)) (by decide) (by decide) (Or.inl (by decide)))
        have e1256 : I1255 (ad g 0) 16 = v1223 := by rw [eI1255, pp_ne _ _ (Or.inl (ly_ne hy (by decide) (by decide) (by decide)))]; exact e1248
        have e1257 : I1255 (ad g 0) 1 = L := by rw [eI1255, pp_ne _ _ (Or.inl (ly_ne hy (by decide) (by decide) (by decide)))]; exact e1249
        have e1258 : I1255 (ad g 0) 4 = w1251 := by rw [eI1255, pp_ne _ _ (Or.inl (ly_ne hy (by decide) (by decide) (by decide)))]; exact ew1251
        have e1259 : I1255 (ad g 0) 2 = w1252 := by rw [eI1255, pp_ne _ _ (Or.inl (ly_ne hy (by decide) (by decide) (by decide)))]; exact ew1252
        have e1260 : I1255 (ad g 0) 7 = w1253 := by rw [eI1255, pp_ne _ _ (Or.inl (ly_ne hy (by decide) (by decide) (by decide)))]; exact ew1253
        clear eI1255
        refine WP_aload_n dX11_readThingOf_58 rfl ?_
        refine WQ_iconst (0) (0) dX11_readThingOf_59 rfl rfl (fun v1261 hv1261 => ?_)
        refine WQ_bipush (9) (9) dX11_readThingOf_60 rfl rfl (fun v1262 hv1262 => ?_)
        refine WP_callV2 (k := 11) dX11_readThingOf_62 ⟨⟨⟨by decide, by decide⟩, zX11_number⟩, lX11_81, by decide, rfl, vX11_number.1, vX11_number.2⟩ (ly_is hy 0 11 rfl) (sm_number hy hr hI1255 v1261 v1262 (by omega) (by omega) (by omega) (by omega) (by rw [e1258, e1259]; omega)) (Nat.le_of_ble_eq_true rfl) ?_
        intro r I1263 J1264 Ra hq
        obtain ⟨⟨hI1263, ec, ⟨pI1263, sI1263_0_15, sI1263_0_16⟩⟩, v1265, rfl, av1265, bv1265, cv1265⟩ := hq
        show WP _ _ _ _ (.int _ :: _) _ _ _ _
        rw [ec]
        clear ec Ra
        have e1266 : I1263 (ad g 0) 16 = v1223 := by rw [sI1263_0_16]; exact e1256
        have e1267 : I1263 (ad g 0) 1 = L := hI1263.1.2
        have b1268 := BT_get hI1263.1.1 0 1 2 (0) (0) (900) (by decide) 1 (by decide) (by decide)
        rw [e1267] at b1268
        obtain ⟨w1269, ew1269⟩ : ∃ w : Int32, I1263 (ad g 0) 4 = w := ⟨_, rfl⟩
        have bw1269 := BT_get hI1263.1.1 0 4 5 (0) (0) (900) (by decide) 4 (by decide) (by decide)
        rw [ew1269] at bw1269
        obtain ⟨w1270, ew1270⟩ : ∃ w : Int32, I1263 (ad g 0) 2 = w := ⟨_, rfl⟩
        have bw1270 := BT_get hI1263.1.1 0 2 3 (0) (0) (900) (by decide) 2 (by decide) (by decide)
        rw [ew1270] at bw1270
        rw [ew1269, ew1270] at pI1263
        obtain ⟨w1271, ew1271⟩ : ∃ w : Int32, I1263 (ad g 0) 7 = w := ⟨_, rfl⟩
        have bw1271 := BT_get hI1263.1.1 0 7 8 (-1) (0) (1000) (by decide) 7 (by decide) (by decide)
        rw [ew1271] at bw1271
        rw [ew1271] at cv1265
        refine WQ_if_ne 70 dX11_readThingOf_65 rfl (fun c1271 => ?_) (fun c1271 => ?_)
        · refine WP_aload_n dX11_readThingOf_70 rfl ?_
          refine WP_getr dX11_readThingOf_71 fX11_135 rfl (ly_is hy 0 11 rfl) (rf hr 0 37 19 (by decide)) ?_
          refine WP_iload_n dX11_readThingOf_74 rfl ?_
          refine WP_aload_n dX11_readThingOf_75 rfl ?_
          refine WQ_getim dX11_readThingOf_76 fX11_56 rfl (ly_is hy 0 11 rfl) ew1271 ?_
          refine WQ_iast dX11_readThingOf_79 (ly_is hy 19 13 rfl) (ly_n hy 19 3 rfl) (by omega) (by omega) (fun I1273 eI1273 => ?_)
          have hI1273 : MP g n L I1273 := by rw [eI1273]; exact (mp_w hy hI1263 (c := 19) (mi_r hy hI1263.1 (c := 19) (0) (0) (9) (by decide) (Or.inl (by decide)) (by decide) (by omega) (by omega)) (by decide) (by decide) (Or.inl (by decide)))
          have e1274 : I1273 (ad g 0) 16 = v1223 := by rw [eI1273, pp_ne _ _ (Or.inl (ly_ne hy (by decide) (by decide) (by decide)))]; exact e1266
          have e1275 : I1273 (ad g 0) 1 = L := by rw [eI1273, pp_ne _ _ (Or.inl (ly_ne hy (by decide) (by decide) (by decide)))]; exact e1267
          have e1276 : I1273 (ad g 0) 4 = w1269 := by rw [eI1273, pp_ne _ _ (Or.inl (ly_ne hy (by decide) (by decide) (by decide)))]; exact ew1269
          have e1277 : I1273 (ad g 0) 2 = w1270 := by rw [eI1273, pp_ne _ _ (Or.inl (ly_ne hy (by decide) (by decide) (by decide)))]; exact ew1270
          have e1278 : I1273 (ad g 0) 7 = w1271 := by rw [eI1273, pp_ne _ _ (Or.inl (ly_ne hy (by decide) (by decide) (by decide)))]; exact ew1271
          clear eI1273
          refine WP_aload_n dX11_readThingOf_80 rfl ?_
          refine WP_getr dX11_readThingOf_81 fX11_138 rfl (ly_is hy 0 11 rfl) (rf hr 0 53 34 (by decide)) ?_
          refine WP_iload_n dX11_readThingOf_84 rfl ?_
          refine WQ_iconst (0) (0) dX11_readThingOf_85 rfl rfl (fun v1279 hv1279 => ?_)
          refine WQ_iast dX11_readThingOf_86 (ly_is hy 34 13 rfl) (ly_n hy 34 3 rfl) (by omega) (by omega) (fun I1280 eI1280 => ?_)
          have hI1280 : MP g n L I1280 := by rw [eI1280]; exact (mp_w hy hI1273 (c := 34) (mi_r0 hy hI1273.1 (c := 34) (by decide) (Or.inl (by decide)) (by decide)) (by decide) (by decide) (Or.inl (by decide)))
          have e1281 : I1280 (ad g 0) 16 = v1223 := by rw [eI1280, pp_ne _ _ (Or.inl (ly_ne hy (by decide) (by decide) (by decide)))]; exact e1274
          have e1282 : I1280 (ad g 0) 1 = L := by rw [eI1280, pp_ne _ _ (Or.inl (ly_ne hy (by decide) (by decide) (by decide)))]; exact e1275
          have e1283 : I1280 (ad g 0) 4 = w1269 := by rw [eI1280, pp_ne _ _ (Or.inl (ly_ne hy (by decide) (by decide) (by decide)))]; exact e1276
          have e1284 : I1280 (ad g 0) 2 = w1270 := by rw [eI1280, pp_ne _ _ (Or.inl (ly_ne hy (by decide) (by decide) (by decide)))]; exact e1277
          have e1285 : I1280 (ad g 0) 7 = w1271 := by rw [eI1280, pp_ne _ _ (Or.inl (ly_ne hy (by decide) (by decide) (by decide)))]; exact e1278
          clear eI1280
          refine WQ_iconst (0) (0) dX11_readThingOf_87 rfl rfl (fun v1286 hv1286 => ?_)
          refine WP_istore_n (ls' := [(0, _), (1, _), (2, _)]) dX11_readThingOf_88 (by decide) rfl ?_
          have lp89_1292 : ∀ (mz : Nat) (i1287 : Int32) (I1288 : pI) (J1289 : pJ), MP g n L I1288 → ∀ (w1290 : Int32), I1288 (ad g 0) 4 = w1290 → ∀ (w1291 : Int32), I1288 (ad g 0) 2 = w1291 → ∀ (w1292 : Int32), I1288 (ad g 0) 16 = w1292 → 0 ≤ i1287.toInt → i1287.toInt ≤ 7 → w1290.toInt ≤ w1291.toInt → w1292.toInt ≤ 2 → (8 - i1287.toInt).toNat < mz → WP g mX11_readThingOf 89 [(0, .ref (ad g 0)), (1, .int v1223), (2, .int i1287)] [] I1288 J1289 R (fun r I' J' R' => (MP g n L I' ∧ R' = R ∧ (I' (ad g 0) 4).toInt ≤ (I' (ad g 0) 2).toInt) ∧ ∃ v : Int32, r = some (.int v) ∧ 0 ≤ v.toInt ∧ v.toInt ≤ 1) := by
            intro mz
            induction mz with
            | zero =>
              intro i1287 I1288 J1289 hI1288 w1290 ew1290 w1291 ew1291 w1292 ew1292 ai1287 bi1287 j0_I1288 j1_I1288 hmlp89_1292
              exact absurd hmlp89_1292 (Nat.not_lt_zero _)
            | succ mz ihlp89_1292 =>
              intro i1287 I1288 J1289 hI1288 w1290 ew1290 w1291 ew1291 w1292 ew1292 ai1287 bi1287 j0_I1288 j1_I1288 hmlp89_1292
              have bw1290 := BT_get hI1288.1.1 0 4 5 (0) (0) (900) (by decide) 4 (by decide) (by decide)
              rw [ew1290] at bw1290
              have bw1291 := BT_get hI1288.1.1 0 2 3 (0) (0) (900) (by decide) 2 (by decide) (by decide)
              rw [ew1291] at bw1291
              have bw1292 := BT_get hI1288.1.1 0 16 17 (0) (0) (3) (by decide) 16 (by decide) (by decide)
              rw [ew1292] at bw1292
              have e1294 : I1288 (ad g 0) 1 = L := hI1288.1.2
              have b1295 := BT_get hI1288.1.1 0 1 2 (0) (0) (900) (by decide) 1 (by decide) (by decide)
              rw [e1294] at b1295
              refine WP_iload_n dX11_readThingOf_89 rfl ?_
              refine WQ_bipush (7) (7) dX11_readThingOf_90 rfl rfl (fun v1296 hv1296 => ?_)
              refine WQ_icmp_ge 125 dX11_readThingOf_92 rfl (fun c1296 => ?_) (fun c1296 => ?_)
              · refine WP_aload_n dX11_readThingOf_125 rfl ?_
                refine WP_dup dX11_readThingOf_126 rfl ?_
                refine WQ_getim dX11_readThingOf_127 fX11_126 rfl (ly_is hy 0 11 rfl) ew1292 ?_
                refine WQ_iconst (1) (1) dX11_readThingOf_130 rfl rfl (fun v1298 hv1298 => ?_)
                refine WQ_iadd dX11_readThingOf_131 (by omega) (by omega) (fun v1299 hv1299 => ?_)
                refine WQ_puti dX11_readThingOf_132 fX11_126 rfl rfl (ly_is hy 0 11 rfl) (fun I1300 eI1300 => ?_)
                have hI1300 : MP g n L I1300 := by rw [eI1300]; exact (mp_w hy hI1288 (c := 0) (mi_f hy hI1288.1 (c := 0) (0) (0) (3) (by decide) (Or.inr (by decide)) (by decide) (by omega) (by omega)) (by decide) (by decide) (Or.inr (by decide)))
                have e1301 : I1300 (ad g 0) 4 = w1290 := by rw [eI1300, pp_ne _ _ (Or.inr (by decide))]; exact ew1290
                have e1302 : I1300 (ad g 0) 2 = w1291 := by rw [eI1300, pp_ne _ _ (Or.inr (by decide))]; exact ew1291
                have e1303 : I1300 (ad g 0) 1 = L := by rw [eI1300, pp_ne _ _ (Or.inr (by decide))]; exact e1294
                have e1304 : I1300 (ad g 0) 16 = v1299 := by rw [eI1300, pp_self]
                clear eI1300
                refine WQ_iconst (1) (1) dX11_readThingOf_135 rfl rfl (fun v1305 hv1305 => ?_)
                exact WP_zret dX11_readThingOf_136 rfl (nar_z (by omega)) ⟨⟨hI1300, rfl, (by rw [e1301, e1302]; omega)⟩, _, rfl, by omega, by omega⟩
              · refine WP_aload_n dX11_readThingOf_95 rfl ?_
                refine WP_getr dX11_readThingOf_96 fX11_141 rfl (ly_is hy 0 11 rfl) (rf hr 0 46 28 (by decide)) ?_
                refine WQ_bipush (7) (7) dX11_readThingOf_99 rfl rfl (fun v1306 hv1306 => ?_)
                refine WP_iload_n dX11_readThingOf_101 rfl ?_
                refine WQ_imulK (7) dX11_readThingOf_102 hv1306 (by omega) (by omega) (fun v1307 hv1307 => ?_)
                refine WP_iload_n dX11_readThingOf_103 rfl ?_
                refine WQ_iadd dX11_readThingOf_104 (by omega) (by omega) (fun v1308 hv1308 => ?_)
                refine WQ_iconst (5) (5) dX11_readThingOf_105 rfl rfl (fun v1309 hv1309 => ?_)
                refine WQ_iast dX11_readThingOf_106 (ly_is hy 28 13 rfl) (ly_n hy 28 21 rfl) (by omega) (by omega) (fun I1310 eI1310 => ?_)
                have hI1310 : MP g n L I1310 := by rw [eI1310]; exact (mp_w hy hI1288 (c := 28) (mi_r hy hI1288.1 (c := 28) (0) (0) (20) (by decide) (Or.inl (by decide)) (by decide) (by omega) (by omega)) (by decide) (by decide) (Or.inl (by decide)))
                have e1311 : I1310 (ad g 0) 4 = w1290 := by rw [eI1310, pp_ne _ _ (Or.inl (ly_ne hy (by decide) (by decide) (by decide)))]; exact ew1290
                have e1312 : I1310 (ad g 0) 2 = w1291 := by rw [eI1310, pp_ne _ _ (Or.inl (ly_ne hy (by decide) (by decide) (by decide)))]; exact ew1291
                have e1313 : I1310 (ad g 0) 16 = w1292 := by rw [eI1310, pp_ne _ _ (Or.inl (ly_ne hy (by decide) (by decide) (by decide)))]; exact ew1292
                have e1314 : I1310 (ad g 0) 1 = L := by rw [eI1310, pp_ne _ _ (Or.inl (ly_ne hy (by decide) (by decide) (by decide)))]; exact e1294
                clear eI1310
                refine WP_aload_n dX11_readThingOf_107 rfl ?_
                refine WP_getr dX11_readThingOf_108 fX11_144 rfl (ly_is hy 0 11 rfl) (rf hr 0 47 29 (by decide)) ?_
                refine WQ_bipush (7) (7) dX11_readThingOf_111 rfl rfl (fun v1315 hv1315 => ?_)
                refine WP_iload_n dX11_readThingOf_113 rfl ?_
                refine WQ_imulK (7) dX11_readThingOf_114 hv1315 (by omega) (by omega) (fun v1316 hv1316 => ?_)
                refine WP_iload_n dX11_readThingOf_115 rfl ?_
                refine WQ_iadd dX11_readThingOf_116 (by omega) (by omega) (fun v1317 hv1317 => ?_)
                refine WQ_iconst (-1) (-1) dX11_readThingOf_117 rfl rfl (fun v1318 hv1318 => ?_)
                refine WQ_iast dX11_readThingOf_118 (ly_is hy 29 13 rfl) (ly_n hy 29 21 rfl) (by omega) (by omega) (fun I1319 eI1319 => ?_)
                have hI1319 : MP g n L I1319 := by rw [eI1319]; exact (mp_w hy hI1310 (c := 29) (mi_r hy hI1310.1 (c := 29) (-1) (0) (999) (by decide) (Or.inl (by decide)) (by decide) (by omega) (by omega)) (by decide) (by decide) (Or.inl (by decide)))
                have e1320 : I1319 (ad g 0) 4 = w1290 := by rw [eI1319, pp_ne _ _ (Or.inl (ly_ne hy (by decide) (by decide) (by decide)))]; exact e1311
                have e1321 : I1319 (ad g 0) 2 = w1291 := by rw [eI1319, pp_ne _ _ (Or.inl (ly_ne hy (by decide) (by decide) (by decide)))]; exact e1312
                have e1322 : I1319 (ad g 0) 16 = w1292 := by rw [eI1319, pp_ne _ _ (Or.inl (ly_ne hy (by decide) (by decide) (by decide)))]; exact e1313
                have e1323 : I1319 (ad g 0) 1 = L := by rw [eI1319, pp_ne _ _ (Or.inl (ly_ne hy (by decide) (by decide) (by decide)))]; exact e1314
                clear eI1319
                refine WP_iinc (ls' := [(0, _), (1, _), (2, _)]) dX11_readThingOf_119 rfl (by decide) rfl ?_
                have hv1324 : (i1287 + Int32.ofInt (1)).toInt = i1287.toInt + (1) := ia_n rfl (by omega) (by omega)
                generalize i1287 + Int32.ofInt (1) = v1324 at hv1324 ⊢
                refine WP_goto 89 dX11_readThingOf_122 rfl ?_
                exact WP_sub (fc rfl (fc rfl (fc rfl fn))) (ihlp89_1292 v1324 I1319 J1289 hI1319 w1290 e1320 w1291 e1321 w1292 e1322 (by omega) (by omega) (by omega) (by omega) (by omega))
          exact WP_sub (fc rfl (fc rfl (fc rfl fn))) (lp89_1292 _ v1286 I1280 J1264 hI1280 w1269 e1283 w1270 e1284 v1223 e1281 (by omega) (by omega) (by omega) (by omega) (Nat.lt_succ_self _))
        · refine WQ_iconst (0) (0) dX11_readThingOf_68 rfl rfl (fun v1325 hv1325 => ?_)
          exact WP_zret dX11_readThingOf_69 rfl (nar_z (by omega)) ⟨⟨hI1263, rfl, (by rw [ew1269, ew1270]; omega)⟩, _, rfl, by omega, by omega⟩
      · refine WQ_iconst (0) (0) dX11_readThingOf_46 rfl rfl (fun v1326 hv1326 => ?_)
        exact WP_zret dX11_readThingOf_47 rfl (nar_z (by omega)) ⟨⟨hI1245, rfl, (by rw [ew1251, ew1252]; omega)⟩, _, rfl, by omega, by omega⟩
  · refine WP_aload_n dX11_readThingOf_8 rfl ?_
    refine WQ_iconst (4) (4) dX11_readThingOf_9 rfl rfl (fun v1327 hv1327 => ?_)
    refine WP_callV1 (k := 11) dX11_readThingOf_10 ⟨⟨⟨by decide, by decide⟩, zX11_bad⟩, lX11_49, by decide, rfl, vX11_bad.1, vX11_bad.2⟩ (ly_is hy 0 11 rfl) (sm_bad2 hy hr hI v1327  (by rw [ew1221, ew1222]; omega)) (Nat.le_of_ble_eq_true rfl) ?_
    intro r I1328 J1329 Ra hq
    obtain ⟨⟨hI1328, ec, ⟨pI1328, sI1328_0_15, sI1328_0_16⟩⟩, v1330, rfl, av1330, bv1330⟩ := hq
    show WP _ _ _ _ (.int _ :: _) _ _ _ _
    rw [ec]
    clear ec Ra
    have e1331 : I1328 (ad g 0) 16 = v1223 := by rw [sI1328_0_16]; exact ev1223
    have e1332 : I1328 (ad g 0) 1 = L := hI1328.1.2
    have b1333 := BT_get hI1328.1.1 0 1 2 (0) (0) (900) (by decide) 1 (by decide) (by decide)
    rw [e1332] at b1333
    obtain ⟨w1334, ew1334⟩ : ∃ w : Int32, I1328 (ad g 0) 4 = w := ⟨_, rfl⟩
    have bw1334 := BT_get hI1328.1.1 0 4 5 (0) (0) (900) (by decide) 4 (by decide) (by decide)
    rw [ew1334] at bw1334
    obtain ⟨w1335, ew1335⟩ : ∃ w : Int32, I1328 (ad g 0) 2 = w := ⟨_, rfl⟩
    have bw1335 := BT_get hI1328.1.1 0 2 3 (0) (0) (900) (by decide) 2 (by decide) (by decide)
    rw [ew1335] at bw1335
    rw [ew1334, ew1335] at pI1328
    exact WP_zret dX11_readThingOf_13 rfl (nar_z (by omega)) ⟨⟨hI1328, rfl, (by rw [ew1334, ew1335]; omega)⟩, _, rfl, by omega, by omega⟩
set_option maxHeartbeats 4000000 in
set_option maxRecDepth 100000 in
theorem sm_readEarns {g : GG} {n : Int} {L : Int32} (hy : Ly g)  {I : pI} {J : pJ} {R : pR} (hr : Rf g R) (hI : MP g n L I)   (hb : (I (ad g 0) 4).toInt ≤ (I (ad g 0) 2).toInt) : SP g mX11_readEarns [.ref (ad g 0)] I J R (fun r I' J' R' => (MP g n L I' ∧ R' = R ∧ (I' (ad g 0) 4).toInt ≤ (I' (ad g 0) 2).toInt) ∧ ∃ v : Int32, r = some (.int v) ∧ 0 ≤ v.toInt ∧ v.toInt ≤ 1) := by
  refine SP_of ⟨by decide, rfl⟩ (Nat.le_of_ble_eq_true rfl) ?_
  have e1336 : I (ad g 0) 1 = L := hI.1.2
  have b1337 := BT_get hI.1.1 0 1 2 (0) (0) (900) (by decide) 1 (by decide) (by decide)
  rw [e1336] at b1337
  obtain ⟨w1338, ew1338⟩ : ∃ w : Int32, I (ad g 0) 4 = w := ⟨_, rfl⟩
  have bw1338 := BT_get hI.1.1 0 4 5 (0) (0) (900) (by decide) 4 (by decide) (by decide)
  rw [ew1338] at bw1338
  obtain ⟨w1339, ew1339⟩ : ∃ w : Int32, I (ad g 0) 2 = w := ⟨_, rfl⟩
  have bw1339 := BT_get hI.1.1 0 2 3 (0) (0) (900) (by decide) 2 (by decide) (by decide)
  rw [ew1339] at bw1339
  rw [ew1338, ew1339] at hb
  refine WP_aload_n dX11_readEarns_0 rfl ?_
  refine WP_callV0 (k := 11) dX11_readEarns_1 ⟨⟨⟨by decide, by decide⟩, zX11_scan⟩, lX11_63, by decide, rfl, vX11_scan.1, vX11_scan.2⟩ (ly_is hy 0 11 rfl) (sm_scan hy hr hI   (by rw [ew1338, ew1339]; omega)) (Nat.le_of_ble_eq_true rfl) ?_
  intro r I1340 J1341 Ra hq
  obtain ⟨⟨hI1340, ec, ⟨pI1340, sI1340_0_7, sI1340_0_15, sI1340_0_16⟩⟩, rfl⟩ := hq
  rw [ec]
  clear ec Ra
  have e1342 : I1340 (ad g 0) 1 = L := hI1340.1.2
  have b1343 := BT_get hI1340.1.1 0 1 2 (0) (0) (900) (by decide) 1 (by decide) (by decide)
  rw [e1342] at b1343
  obtain ⟨w1344, ew1344⟩ : ∃ w : Int32, I1340 (ad g 0) 4 = w := ⟨_, rfl⟩
  have bw1344 := BT_get hI1340.1.1 0 4 5 (0) (0) (900) (by decide) 4 (by decide) (by decide)
  rw [ew1344] at bw1344
  obtain ⟨w1345, ew1345⟩ : ∃ w : Int32, I1340 (ad g 0) 2 = w := ⟨_, rfl⟩
  have bw1345 := BT_get hI1340.1.1 0 2 3 (0) (0) (900) (by decide) 2 (by decide) (by decide)
  rw [ew1345] at bw1345
  rw [ew1344, ew1345] at pI1340
  refine WP_aload_n dX11_readEarns_4 rfl ?_
  refine WP_aload_n dX11_readEarns_5 rfl ?_
  refine WP_getr dX11_readEarns_6 fX11_91 rfl (ly_is hy 0 11 rfl) (rf hr 0 22 4 (by decide)) ?_
  refine WP_aload_n dX11_readEarns_9 rfl ?_
  refine WQ_geti dX11_readEarns_10 fX11_88 rfl (ly_is hy 0 11 rfl) (BT_get hI1340.1.1 0 15 16 (0) (0) (4) (by decide) 15 (by decide) (by decide)) (fun v1346 ev1346 av1346 bv1346 => ?_)
  refine WP_callV2 (k := 11) dX11_readEarns_13 ⟨⟨⟨by decide, by decide⟩, zX11_known⟩, lX11_147, by decide, rfl, vX11_known.1, vX11_known.2⟩ (ly_is hy 0 11 rfl) (sm_known_4 hy hr hI1340 v1346 (by omega) (by omega) (by rw [ew1344, ew1345]; omega)) (Nat.le_of_ble_eq_true rfl) ?_
  intro r I1347 J1348 Ra hq
  obtain ⟨⟨hI1347, ec, ⟨pI1347, sI1347_0_15, sI1347_0_16⟩⟩, v1349, rfl, av1349, bv1349, cv1349⟩ := hq
  show WP _ _ _ _ (.int _ :: _) _ _ _ _
  rw [ec]
  clear ec Ra
  have e1350 : I1347 (ad g 0) 15 = v1346 := by rw [sI1347_0_15]; exact ev1346
  have e1351 : I1347 (ad g 0) 1 = L := hI1347.1.2
  have b1352 := BT_get hI1347.1.1 0 1 2 (0) (0) (900) (by decide) 1 (by decide) (by decide)
  rw [e1351] at b1352
  obtain ⟨w1353, ew1353⟩ : ∃ w : Int32, I1347 (ad g 0) 4 = w := ⟨_, rfl⟩
  have bw1353 := BT_get hI1347.1.1 0 4 5 (0) (0) (900) (by decide) 4 (by decide) (by decide)
  rw [ew1353] at bw1353
  obtain ⟨w1354, ew1354⟩ : ∃ w : Int32, I1347 (ad g 0) 2 = w := ⟨_, rfl⟩
  have bw1354 := BT_get hI1347.1.1 0 2 3 (0) (0) (900) (by decide) 2 (by decide) (by decide)
  rw [ew1354] at bw1354
  rw [ew1353, ew1354] at pI1347
  obtain ⟨w1355, ew1355⟩ : ∃ w : Int32, I1347 (ad g 0) 7 = w := ⟨_, rfl⟩
  have bw1355 := BT_get hI1347.1.1 0 7 8 (-1) (0) (1000) (by decide) 7 (by decide) (by decide)
  rw [ew1355] at bw1355
  rw [ew1355] at cv1349
  refine WQ_if_ne 21 dX11_readEarns_16 rfl (fun c1355 => ?_) (fun c1355 => ?_)
  · refine WP_aload_n dX11_readEarns_21 rfl ?_
    refine WQ_getim dX11_readEarns_22 fX11_56 rfl (ly_is hy 0 11 rfl) ew1355 ?_
    refine WP_istore_n (ls' := [(0, _), (1, _)]) dX11_readEarns_25 (by decide) rfl ?_
    refine WP_aload_n dX11_readEarns_26 rfl ?_
    refine WQ_iconst (0) (0) dX11_readEarns_27 rfl rfl (fun v1357 hv1357 => ?_)
    refine WQ_bipush (6) (6) dX11_readEarns_28 rfl rfl (fun v1358 hv1358 => ?_)
    refine WP_callV2 (k := 11) dX11_readEarns_30 ⟨⟨⟨by decide, by decide⟩, zX11_peek⟩, lX11_59, by decide, rfl, vX11_peek.1, vX11_peek.2⟩ (ly_is hy 0 11 rfl) (sm_peek hy hr hI1347 v1357 v1358 (by omega) (by omega) (by omega) (by omega) (by rw [ew1353, ew1354]; omega)) (Nat.le_of_ble_eq_true rfl) ?_
    intro r I1359 J1360 Ra hq
    obtain ⟨⟨hI1359, ec, ⟨pI1359, sI1359_0_15, sI1359_0_16⟩⟩, v1361, rfl, av1361, bv1361, cv1361⟩ := hq
    show WP _ _ _ _ (.int _ :: _) _ _ _ _
    rw [ec]
    clear ec Ra
    have e1362 : I1359 (ad g 0) 15 = v1346 := by rw [sI1359_0_15]; exact e1350
    have e1363 : I1359 (ad g 0) 1 = L := hI1359.1.2
    have b1364 := BT_get hI1359.1.1 0 1 2 (0) (0) (900) (by decide) 1 (by decide) (by decide)
    rw [e1363] at b1364
    obtain ⟨w1365, ew1365⟩ : ∃ w : Int32, I1359 (ad g 0) 4 = w := ⟨_, rfl⟩
    have bw1365 := BT_get hI1359.1.1 0 4 5 (0) (0) (900) (by decide) 4 (by decide) (by decide)
    rw [ew1365] at bw1365
    obtain ⟨w1366, ew1366⟩ : ∃ w : Int32, I1359 (ad g 0) 2 = w := ⟨_, rfl⟩
    have bw1366 := BT_get hI1359.1.1 0 2 3 (0) (0) (900) (by decide) 2 (by decide) (by decide)
    rw [ew1366] at bw1366
    rw [ew1365, ew1366] at pI1359
    obtain ⟨w1367, ew1367⟩ : ∃ w : Int32, I1359 (ad g 0) 7 = w := ⟨_, rfl⟩
    have bw1367 := BT_get hI1359.1.1 0 7 8 (-1) (0) (1000) (by decide) 7 (by decide) (by decide)
    rw [ew1367] at bw1367
    rw [ew1367] at cv1361
    refine WQ_if_ne 38 dX11_readEarns_33 rfl (fun c1367 => ?_) (fun c1367 => ?_)
    · refine WP_aload_n dX11_readEarns_38 rfl ?_
      refine WP_getr dX11_readEarns_39 fX11_111 rfl (ly_is hy 0 11 rfl) (rf hr 0 52 33 (by decide)) ?_
      refine WP_iload_n dX11_readEarns_42 rfl ?_
      refine WQ_ialdu dX11_readEarns_43 (ly_is hy 33 13 rfl) (ly_n hy 33 4 rfl) (by omega) (by omega) (fun v1369 => ?_)
      refine WP_aload_n dX11_readEarns_44 rfl ?_
      refine WQ_getim dX11_readEarns_45 fX11_56 rfl (ly_is hy 0 11 rfl) ew1367 ?_
      refine WQ_ishru dX11_readEarns_48 (fun v1370 => ?_)
      refine WQ_iconst (1) (1) dX11_readEarns_49 rfl rfl (fun v1371 hv1371 => ?_)
      refine WQ_iandu dX11_readEarns_50 (fun v1372 => ?_)
      refine WQ_iconst (1) (1) dX11_readEarns_51 rfl rfl (fun v1373 hv1373 => ?_)
      refine WQ_icmp_ne 61 dX11_readEarns_52 rfl (fun c1373 => ?_) (fun c1373 => ?_)
      · refine WP_aload_n dX11_readEarns_61 rfl ?_
        refine WP_getr dX11_readEarns_62 fX11_111 rfl (ly_is hy 0 11 rfl) (rf hr 0 52 33 (by decide)) ?_
        refine WP_iload_n dX11_readEarns_65 rfl ?_
        refine WP_dup2 dX11_readEarns_66 rfl rfl ?_
        refine WQ_ialdu dX11_readEarns_67 (ly_is hy 33 13 rfl) (ly_n hy 33 4 rfl) (by omega) (by omega) (fun v1375 => ?_)
        refine WQ_iconst (1) (1) dX11_readEarns_68 rfl rfl (fun v1376 hv1376 => ?_)
        refine WP_aload_n dX11_readEarns_69 rfl ?_
        refine WQ_getim dX11_readEarns_70 fX11_56 rfl (ly_is hy 0 11 rfl) ew1367 ?_
        refine WQ_ishlu dX11_readEarns_73 (fun v1377 => ?_)
        refine WQ_ioru dX11_readEarns_74 (fun v1378 => ?_)
        refine WQ_iast dX11_readEarns_75 (ly_is hy 33 13 rfl) (ly_n hy 33 4 rfl) (by omega) (by omega) (fun I1379 eI1379 => ?_)
        have hI1379 : MP g n L I1379 := by rw [eI1379]; exact (mp_w hy hI1359 (c := 33) (mi_r0 hy hI1359.1 (c := 33) (by decide) (Or.inl (by decide)) (by decide)) (by decide) (by decide) (Or.inl (by decide)))
        have e1380 : I1379 (ad g 0) 15 = v1346 := by rw [eI1379, pp_ne _ _ (Or.inl (ly_ne hy (by decide) (by decide) (by decide)))]; exact e1362
        have e1381 : I1379 (ad g 0) 1 = L := by rw [eI1379, pp_ne _ _ (Or.inl (ly_ne hy (by decide) (by decide) (by decide)))]; exact e1363
        have e1382 : I1379 (ad g 0) 4 = w1365 := by rw [eI1379, pp_ne _ _ (Or.inl (ly_ne hy (by decide) (by decide) (by decide)))]; exact ew1365
        have e1383 : I1379 (ad g 0) 2 = w1366 := by rw [eI1379, pp_ne _ _ (Or.inl (ly_ne hy (by decide) (by decide) (by decide)))]; exact ew1366
        have e1384 : I1379 (ad g 0) 7 = w1367 := by rw [eI1379, pp_ne _ _ (Or.inl (ly_ne hy (by decide) (by decide) (by decide)))]; exact ew1367
        clear eI1379
        refine WQ_bipush (7) (7) dX11_readEarns_76 rfl rfl (fun v1385 hv1385 => ?_)
        refine WP_iload_n dX11_readEarns_78 rfl ?_
        refine WQ_imulK (7) dX11_readEarns_79 hv1385 (by omega) (by omega) (fun v1386 hv1386 => ?_)
        refine WP_aload_n dX11_readEarns_80 rfl ?_
        refine WQ_getim dX11_readEarns_81 fX11_56 rfl (ly_is hy 0 11 rfl) e1384 ?_
        refine WQ_iadd dX11_readEarns_84 (by omega) (by omega) (fun v1387 hv1387 => ?_)
        refine WP_istore_n (ls' := [(0, _), (1, _), (2, _)]) dX11_readEarns_85 (by decide) rfl ?_
        refine WP_aload_n dX11_readEarns_86 rfl ?_
        refine WP_callV0 (k := 11) dX11_readEarns_87 ⟨⟨⟨by decide, by decide⟩, zX11_scan⟩, lX11_63, by decide, rfl, vX11_scan.1, vX11_scan.2⟩ (ly_is hy 0 11 rfl) (sm_scan hy hr hI1379   (by rw [e1382, e1383]; omega)) (Nat.le_of_ble_eq_true rfl) ?_
        intro r I1388 J1389 Ra hq
        obtain ⟨⟨hI1388, ec, ⟨pI1388, sI1388_0_7, sI1388_0_15, sI1388_0_16⟩⟩, rfl⟩ := hq
        rw [ec]
        clear ec Ra
        have e1390 : I1388 (ad g 0) 7 = w1367 := by rw [sI1388_0_7]; exact e1384
        have e1391 : I1388 (ad g 0) 15 = v1346 := by rw [sI1388_0_15]; exact e1380
        have e1392 : I1388 (ad g 0) 1 = L := hI1388.1.2
        have b1393 := BT_get hI1388.1.1 0 1 2 (0) (0) (900) (by decide) 1 (by decide) (by decide)
        rw [e1392] at b1393
        obtain ⟨w1394, ew1394⟩ : ∃ w : Int32, I1388 (ad g 0) 4 = w := ⟨_, rfl⟩
        have bw1394 := BT_get hI1388.1.1 0 4 5 (0) (0) (900) (by decide) 4 (by decide) (by decide)
        rw [ew1394] at bw1394
        obtain ⟨w1395, ew1395⟩ : ∃ w : Int32, I1388 (ad g 0) 2 = w := ⟨_, rfl⟩
        have bw1395 := BT_get hI1388.1.1 0 2 3 (0) (0) (900) (by decide) 2 (by decide) (by decide)
        rw [ew1395] at bw1395
        rw [ew1394, ew1395] at pI1388
        refine WP_aload_n dX11_readEarns_90 rfl ?_
        refine WQ_iconst (1) (1) dX11_readEarns_91 rfl rfl (fun v1396 hv1396 => ?_)
        refine WQ_bipush (20) (20) dX11_readEarns_92 rfl rfl (fun v1397 hv1397 => ?_)
        refine WP_callV2 (k := 11) dX11_readEarns_94 ⟨⟨⟨by decide, by decide⟩, zX11_number⟩, lX11_81, by decide, rfl, vX11_number.1, vX11_number.2⟩ (ly_is hy 0 11 rfl) (sm_number hy hr hI1388 v1396 v1397 (by omega) (by omega) (by omega) (by omega) (by rw [ew1394, ew1395]; omega)) (Nat.le_of_ble_eq_true rfl) ?_
        intro r I1398 J1399 Ra hq
        obtain ⟨⟨hI1398, ec, ⟨pI1398, sI1398_0_15, sI1398_0_16⟩⟩, v1400, rfl, av1400, bv1400, cv1400⟩ := hq
        show WP _ _ _ _ (.int _ :: _) _ _ _ _
        rw [ec]
        clear ec Ra
        have e1401 : I1398 (ad g 0) 15 = v1346 := by rw [sI1398_0_15]; exact e1391
        have e1402 : I1398 (ad g 0) 1 = L := hI1398.1.2
        have b1403 := BT_get hI1398.1.1 0 1 2 (0) (0) (900) (by decide) 1 (by decide) (by decide)
        rw [e1402] at b1403
        obtain ⟨w1404, ew1404⟩ : ∃ w : Int32, I1398 (ad g 0) 4 = w := ⟨_, rfl⟩
        have bw1404 := BT_get hI1398.1.1 0 4 5 (0) (0) (900) (by decide) 4 (by decide) (by decide)
        rw [ew1404] at bw1404
        obtain ⟨w1405, ew1405⟩ : ∃ w : Int32, I1398 (ad g 0) 2 = w := ⟨_, rfl⟩
        have bw1405 := BT_get hI1398.1.1 0 2 3 (0) (0) (900) (by decide) 2 (by decide) (by decide)
        rw [ew1405] at bw1405
        rw [ew1404, ew1405] at pI1398
        obtain ⟨w1406, ew1406⟩ : ∃ w : Int32, I1398 (ad g 0) 7 = w := ⟨_, rfl⟩
        have bw1406 := BT_get hI1398.1.1 0 7 8 (-1) (0) (1000) (by decide) 7 (by decide) (by decide)
        rw [ew1406] at bw1406
        rw [ew1406] at cv1400
        refine WQ_if_ne 102 dX11_readEarns_97 rfl (fun c1406 => ?_) (fun c1406 => ?_)
        · refine WP_aload_n dX11_readEarns_102 rfl ?_
          refine WP_getr dX11_readEarns_103 fX11_114 rfl (ly_is hy 0 11 rfl) (rf hr 0 45 27 (by decide)) ?_
          refine WP_iload_n dX11_readEarns_106 rfl ?_
          refine WP_aload_n dX11_readEarns_107 rfl ?_
          refine WQ_getim dX11_readEarns_108 fX11_56 rfl (ly_is hy 0 11 rfl) ew1406 ?_
          refine WQ_iast dX11_readEarns_111 (ly_is hy 27 13 rfl) (ly_n hy 27 28 rfl) (by omega) (by omega) (fun I1408 eI1408 => ?_)
          have hI1408 : MP g n L I1408 := by rw [eI1408]; exact (mp_w hy hI1398 (c := 27) (mi_r hy hI1398.1 (c := 27) (0) (0) (20) (by decide) (Or.inl (by decide)) (by decide) (by omega) (by omega)) (by decide) (by decide) (Or.inl (by decide)))
          have e1409 : I1408 (ad g 0) 15 = v1346 := by rw [eI1408, pp_ne _ _ (Or.inl (ly_ne hy (by decide) (by decide) (by decide)))]; exact e1401
          have e1410 : I1408 (ad g 0) 1 = L := by rw [eI1408, pp_ne _ _ (Or.inl (ly_ne hy (by decide) (by decide) (by decide)))]; exact e1402
          have e1411 : I1408 (ad g 0) 4 = w1404 := by rw [eI1408, pp_ne _ _ (Or.inl (ly_ne hy (by decide) (by decide) (by decide)))]; exact ew1404
          have e1412 : I1408 (ad g 0) 2 = w1405 := by rw [eI1408, pp_ne _ _ (Or.inl (ly_ne hy (by decide) (by decide) (by decide)))]; exact ew1405
          have e1413 : I1408 (ad g 0) 7 = w1406 := by rw [eI1408, pp_ne _ _ (Or.inl (ly_ne hy (by decide) (by decide) (by decide)))]; exact ew1406
          clear eI1408
          refine WQ_iconst (1) (1) dX11_readEarns_112 rfl rfl (fun v1414 hv1414 => ?_)
          exact WP_zret dX11_readEarns_113 rfl (nar_z (by omega)) ⟨⟨hI1408, rfl, (by rw [e1411, e1412]; omega)⟩, _, rfl, by omega, by omega⟩
        · refine WQ_iconst (0) (0) dX11_readEarns_100 rfl rfl (fun v1415 hv1415 => ?_)
          exact WP_zret dX11_readEarns_101 rfl (nar_z (by omega)) ⟨⟨hI1398, rfl, (by rw [ew1404, ew1405]; omega)⟩, _, rfl, by omega, by omega⟩
      · refine WP_aload_n dX11_readEarns_55 rfl ?_
        refine WQ_iconst (3) (3) dX11_readEarns_56 rfl rfl (fun v1416 hv1416 => ?_)
        refine WP_callV1 (k := 11) dX11_readEarns_57 ⟨⟨⟨by decide, by decide⟩, zX11_bad⟩, lX11_49, by decide, rfl, vX11_bad.1, vX11_bad.2⟩ (ly_is hy 0 11 rfl) (sm_bad2 hy hr hI1359 v1416  (by rw [ew1365, ew1366]; omega)) (Nat.le_of_ble_eq_true rfl) ?_
        intro r I1417 J1418 Ra hq
        obtain ⟨⟨hI1417, ec, ⟨pI1417, sI1417_0_15, sI1417_0_16⟩⟩, v1419, rfl, av1419, bv1419⟩ := hq
        show WP _ _ _ _ (.int _ :: _) _ _ _ _
        rw [ec]
        clear ec Ra
        have e1420 : I1417 (ad g 0) 15 = v1346 := by rw [sI1417_0_15]; exact e1362
        have e1421 : I1417 (ad g 0) 1 = L := hI1417.1.2
        have b1422 := BT_get hI1417.1.1 0 1 2 (0) (0) (900) (by decide) 1 (by decide) (by decide)
        rw [e1421] at b1422
        obtain ⟨w1423, ew1423⟩ : ∃ w : Int32, I1417 (ad g 0) 4 = w := ⟨_, rfl⟩
        have bw1423 := BT_get hI1417.1.1 0 4 5 (0) (0) (900) (by decide) 4 (by decide) (by decide)
        rw [ew1423] at bw1423
        obtain ⟨w1424, ew1424⟩ : ∃ w : Int32, I1417 (ad g 0) 2 = w := ⟨_, rfl⟩
        have bw1424 := BT_get hI1417.1.1 0 2 3 (0) (0) (900) (by decide) 2 (by decide) (by decide)
        rw [ew1424] at bw1424
        rw [ew1423, ew1424] at pI1417
        exact WP_zret dX11_readEarns_60 rfl (nar_z (by omega)) ⟨⟨hI1417, rfl, (by rw [ew1423, ew1424]; omega)⟩, _, rfl, by omega, by omega⟩
    · refine WQ_iconst (0) (0) dX11_readEarns_36 rfl rfl (fun v1425 hv1425 => ?_)
      exact WP_zret dX11_readEarns_37 rfl (nar_z (by omega)) ⟨⟨hI1359, rfl, (by rw [ew1365, ew1366]; omega)⟩, _, rfl, by omega, by omega⟩
  · refine WQ_iconst (0) (0) dX11_readEarns_19 rfl rfl (fun v1426 hv1426 => ?_)
    exact WP_zret dX11_readEarns_20 rfl (nar_z (by omega)) ⟨⟨hI1347, rfl, (by rw [ew1353, ew1354]; omega)⟩, _, rfl, by omega, by omega⟩
set_option maxHeartbeats 4000000 in
set_option maxRecDepth 100000 in
theorem sm_readPrices {g : GG} {n : Int} {L : Int32} (hy : Ly g)  {I : pI} {J : pJ} {R : pR} (hr : Rf g R) (hI : MP g n L I)   (hb : (I (ad g 0) 4).toInt ≤ (I (ad g 0) 2).toInt) : SP g mX11_readPrices [.ref (ad g 0)] I J R (fun r I' J' R' => (MP g n L I' ∧ R' = R ∧ (I' (ad g 0) 4).toInt ≤ (I' (ad g 0) 2).toInt) ∧ ∃ v : Int32, r = some (.int v) ∧ 0 ≤ v.toInt ∧ v.toInt ≤ 1) := by
  refine SP_of ⟨by decide, rfl⟩ (Nat.le_of_ble_eq_true rfl) ?_
  have e1427 : I (ad g 0) 1 = L := hI.1.2
  have b1428 := BT_get hI.1.1 0 1 2 (0) (0) (900) (by decide) 1 (by decide) (by decide)
  rw [e1427] at b1428
  obtain ⟨w1429, ew1429⟩ : ∃ w : Int32, I (ad g 0) 4 = w := ⟨_, rfl⟩
  have bw1429 := BT_get hI.1.1 0 4 5 (0) (0) (900) (by decide) 4 (by decide) (by decide)
  rw [ew1429] at bw1429
  obtain ⟨w1430, ew1430⟩ : ∃ w : Int32, I (ad g 0) 2 = w := ⟨_, rfl⟩
  have bw1430 := BT_get hI.1.1 0 2 3 (0) (0) (900) (by decide) 2 (by decide) (by decide)
  rw [ew1430] at bw1430
  rw [ew1429, ew1430] at hb
  refine WP_aload_n dX11_readPrices_0 rfl ?_
  refine WP_callV0 (k := 11) dX11_readPrices_1 ⟨⟨⟨by decide, by decide⟩, zX11_scan⟩, lX11_63, by decide, rfl, vX11_scan.1, vX11_scan.2⟩ (ly_is hy 0 11 rfl) (sm_scan hy hr hI   (by rw [ew1429, ew1430]; omega)) (Nat.le_of_ble_eq_true rfl) ?_
  intro r I1431 J1432 Ra hq
  obtain ⟨⟨hI1431, ec, ⟨pI1431, sI1431_0_7, sI1431_0_15, sI1431_0_16⟩⟩, rfl⟩ := hq
  rw [ec]
  clear ec Ra
  have e1433 : I1431 (ad g 0) 1 = L := hI1431.1.2
  have b1434 := BT_get hI1431.1.1 0 1 2 (0) (0) (900) (by decide) 1 (by decide) (by decide)
  rw [e1433] at b1434
  obtain ⟨w1435, ew1435⟩ : ∃ w : Int32, I1431 (ad g 0) 4 = w := ⟨_, rfl⟩
  have bw1435 := BT_get hI1431.1.1 0 4 5 (0) (0) (900) (by decide) 4 (by decide) (by decide)
  rw [ew1435] at bw1435
  obtain ⟨w1436, ew1436⟩ : ∃ w : Int32, I1431 (ad g 0) 2 = w := ⟨_, rfl⟩
  have bw1436 := BT_get hI1431.1.1 0 2 3 (0) (0) (900) (by decide) 2 (by decide) (by decide)
  rw [ew1436] at bw1436
  rw [ew1435, ew1436] at pI1431
  refine WP_aload_n dX11_readPrices_4 rfl ?_
  refine WP_aload_n dX11_readPrices_5 rfl ?_
  refine WP_getr dX11_readPrices_6 fX11_129 rfl (ly_is hy 0 11 rfl) (rf hr 0 23 5 (by decide)) ?_
  refine WP_aload_n dX11_readPrices_9 rfl ?_
  refine WQ_geti dX11_readPrices_10 fX11_126 rfl (ly_is hy 0 11 rfl) (BT_get hI1431.1.1 0 16 17 (0) (0) (3) (by decide) 16 (by decide) (by decide)) (fun v1437 ev1437 av1437 bv1437 => ?_)
  refine WP_callV2 (k := 11) dX11_readPrices_13 ⟨⟨⟨by decide, by decide⟩, zX11_known⟩, lX11_147, by decide, rfl, vX11_known.1, vX11_known.2⟩ (ly_is hy 0 11 rfl) (sm_known_5 hy hr hI1431 v1437 (by omega) (by omega) (by rw [ew1435, ew1436]; omega)) (Nat.le_of_ble_eq_true rfl) ?_
  intro r I1438 J1439 Ra hq
  obtain ⟨⟨hI1438, ec, ⟨pI1438, sI1438_0_15, sI1438_0_16⟩⟩, v1440, rfl, av1440, bv1440, cv1440⟩ := hq
  show WP _ _ _ _ (.int _ :: _) _ _ _ _
  rw [ec]
  clear ec Ra
  have e1441 : I1438 (ad g 0) 16 = v1437 := by rw [sI1438_0_16]; exact ev1437
  have e1442 : I1438 (ad g 0) 1 = L := hI1438.1.2
  have b1443 := BT_get hI1438.1.1 0 1 2 (0) (0) (900) (by decide) 1 (by decide) (by decide)
  rw [e1442] at b1443
  obtain ⟨w1444, ew1444⟩ : ∃ w : Int32, I1438 (ad g 0) 4 = w := ⟨_, rfl⟩
  have bw1444 := BT_get hI1438.1.1 0 4 5 (0) (0) (900) (by decide) 4 (by decide) (by decide)
  rw [ew1444] at bw1444
  obtain ⟨w1445, ew1445⟩ : ∃ w : Int32, I1438 (ad g 0) 2 = w := ⟨_, rfl⟩
  have bw1445 := BT_get hI1438.1.1 0 2 3 (0) (0) (900) (by decide) 2 (by decide) (by decide)
  rw [ew1445] at bw1445
  rw [ew1444, ew1445] at pI1438
  obtain ⟨w1446, ew1446⟩ : ∃ w : Int32, I1438 (ad g 0) 7 = w := ⟨_, rfl⟩
  have bw1446 := BT_get hI1438.1.1 0 7 8 (-1) (0) (1000) (by decide) 7 (by decide) (by decide)
  rw [ew1446] at bw1446
  rw [ew1446] at cv1440
  refine WQ_if_ne 21 dX11_readPrices_16 rfl (fun c1446 => ?_) (fun c1446 => ?_)
  · refine WP_aload_n dX11_readPrices_21 rfl ?_
    refine WQ_getim dX11_readPrices_22 fX11_56 rfl (ly_is hy 0 11 rfl) ew1446 ?_
    refine WP_istore_n (ls' := [(0, _), (1, _)]) dX11_readPrices_25 (by decide) rfl ?_
    refine WP_aload_n dX11_readPrices_26 rfl ?_
    refine WQ_iconst (0) (0) dX11_readPrices_27 rfl rfl (fun v1448 hv1448 => ?_)
    refine WQ_bipush (6) (6) dX11_readPrices_28 rfl rfl (fun v1449 hv1449 => ?_)
    refine WP_callV2 (k := 11) dX11_readPrices_30 ⟨⟨⟨by decide, by decide⟩, zX11_peek⟩, lX11_59, by decide, rfl, vX11_peek.1, vX11_peek.2⟩ (ly_is hy 0 11 rfl) (sm_peek hy hr hI1438 v1448 v1449 (by omega) (by omega) (by omega) (by omega) (by rw [ew1444, ew1445]; omega)) (Nat.le_of_ble_eq_true rfl) ?_
    intro r I1450 J1451 Ra hq
    obtain ⟨⟨hI1450, ec, ⟨pI1450, sI1450_0_15, sI1450_0_16⟩⟩, v1452, rfl, av1452, bv1452, cv1452⟩ := hq
    show WP _ _ _ _ (.int _ :: _) _ _ _ _
    rw [ec]
    clear ec Ra
    have e1453 : I1450 (ad g 0) 16 = v1437 := by rw [sI1450_0_16]; exact e1441
    have e1454 : I1450 (ad g 0) 1 = L := hI1450.1.2
    have b1455 := BT_get hI1450.1.1 0 1 2 (0) (0) (900) (by decide) 1 (by decide) (by decide)
    rw [e1454] at b1455
    obtain ⟨w1456, ew1456⟩ : ∃ w : Int32, I1450 (ad g 0) 4 = w := ⟨_, rfl⟩
    have bw1456 := BT_get hI1450.1.1 0 4 5 (0) (0) (900) (by decide) 4 (by decide) (by decide)
    rw [ew1456] at bw1456
    obtain ⟨w1457, ew1457⟩ : ∃ w : Int32, I1450 (ad g 0) 2 = w := ⟨_, rfl⟩
    have bw1457 := BT_get hI1450.1.1 0 2 3 (0) (0) (900) (by decide) 2 (by decide) (by decide)
    rw [ew1457] at bw1457
    rw [ew1456, ew1457] at pI1450
    obtain ⟨w1458, ew1458⟩ : ∃ w : Int32, I1450 (ad g 0) 7 = w := ⟨_, rfl⟩
    have bw1458 := BT_get hI1450.1.1 0 7 8 (-1) (0) (1000) (by decide) 7 (by decide) (by decide)
    rw [ew1458] at bw1458
    rw [ew1458] at cv1452
    refine WQ_if_ne 38 dX11_readPrices_33 rfl (fun c1458 => ?_) (fun c1458 => ?_)
    · refine WP_aload_n dX11_readPrices_38 rfl ?_
      refine WP_getr dX11_readPrices_39 fX11_138 rfl (ly_is hy 0 11 rfl) (rf hr 0 53 34 (by decide)) ?_
      refine WP_iload_n dX11_readPrices_42 rfl ?_
      refine WQ_ialdu dX11_readPrices_43 (ly_is hy 34 13 rfl) (ly_n hy 34 3 rfl) (by omega) (by omega) (fun v1460 => ?_)
      refine WP_aload_n dX11_readPrices_44 rfl ?_
      refine WQ_getim dX11_readPrices_45 fX11_56 rfl (ly_is hy 0 11 rfl) ew1458 ?_
      refine WQ_ishru dX11_readPrices_48 (fun v1461 => ?_)
      refine WQ_iconst (1) (1) dX11_readPrices_49 rfl rfl (fun v1462 hv1462 => ?_)
      refine WQ_iandu dX11_readPrices_50 (fun v1463 => ?_)
      refine WQ_iconst (1) (1) dX11_readPrices_51 rfl rfl (fun v1464 hv1464 => ?_)
      refine WQ_icmp_ne 61 dX11_readPrices_52 rfl (fun c1464 => ?_) (fun c1464 => ?_)
      · refine WP_aload_n dX11_readPrices_61 rfl ?_
        refine WP_getr dX11_readPrices_62 fX11_138 rfl (ly_is hy 0 11 rfl) (rf hr 0 53 34 (by decide)) ?_
        refine WP_iload_n dX11_readPrices_65 rfl ?_
        refine WP_dup2 dX11_readPrices_66 rfl rfl ?_
        refine WQ_ialdu dX11_readPrices_67 (ly_is hy 34 13 rfl) (ly_n hy 34 3 rfl) (by omega) (by omega) (fun v1466 => ?_)
        refine WQ_iconst (1) (1) dX11_readPrices_68 rfl rfl (fun v1467 hv1467 => ?_)
        refine WP_aload_n dX11_readPrices_69 rfl ?_
        refine WQ_getim dX11_readPrices_70 fX11_56 rfl (ly_is hy 0 11 rfl) ew1458 ?_
        refine WQ_ishlu dX11_readPrices_73 (fun v1468 => ?_)
        refine WQ_ioru dX11_readPrices_74 (fun v1469 => ?_)
        refine WQ_iast dX11_readPrices_75 (ly_is hy 34 13 rfl) (ly_n hy 34 3 rfl) (by omega) (by omega) (fun I1470 eI1470 => ?_)
        have hI1470 : MP g n L I1470 := by rw [eI1470]; exact (mp_w hy hI1450 (c := 34) (mi_r0 hy hI1450.1 (c := 34) (by decide) (Or.inl (by decide)) (by decide)) (by decide) (by decide) (Or.inl (by decide)))
        have e1471 : I1470 (ad g 0) 16 = v1437 := by rw [eI1470, pp_ne _ _ (Or.inl (ly_ne hy (by decide) (by decide) (by decide)))]; exact e1453
        have e1472 : I1470 (ad g 0) 1 = L := by rw [eI1470, pp_ne _ _ (Or.inl (ly_ne hy (by decide) (by decide) (by decide)))]; exact e1454
        have e1473 : I1470 (ad g 0) 4 = w1456 := by rw [eI1470, pp_ne _ _ (Or.inl (ly_ne hy (by decide) (by decide) (by decide)))]; exact ew1456
        have e1474 : I1470 (ad g 0) 2 = w1457 := by rw [eI1470, pp_ne _ _ (Or.inl (ly_ne hy (by decide) (by decide) (by decide)))]; exact ew1457
        have e1475 : I1470 (ad g 0) 7 = w1458 := by rw [eI1470, pp_ne _ _ (Or.inl (ly_ne hy (by decide) (by decide) (by decide)))]; exact ew1458
        clear eI1470
        refine WQ_bipush (7) (7) dX11_readPrices_76 rfl rfl (fun v1476 hv1476 => ?_)
        refine WP_iload_n dX11_readPrices_78 rfl ?_
        refine WQ_imulK (7) dX11_readPrices_79 hv1476 (by omega) (by omega) (fun v1477 hv1477 => ?_)
        refine WP_aload_n dX11_readPrices_80 rfl ?_
        refine WQ_getim dX11_readPrices_81 fX11_56 rfl (ly_is hy 0 11 rfl) e1475 ?_
        refine WQ_iadd dX11_readPrices_84 (by omega) (by omega) (fun v1478 hv1478 => ?_)
        refine WP_istore_n (ls' := [(0, _), (1, _), (2, _)]) dX11_readPrices_85 (by decide) rfl ?_
        refine WP_aload_n dX11_readPrices_86 rfl ?_
        refine WP_callV0 (k := 11) dX11_readPrices_87 ⟨⟨⟨by decide, by decide⟩, zX11_scan⟩, lX11_63, by decide, rfl, vX11_scan.1, vX11_scan.2⟩ (ly_is hy 0 11 rfl) (sm_scan hy hr hI1470   (by rw [e1473, e1474]; omega)) (Nat.le_of_ble_eq_true rfl) ?_
        intro r I1479 J1480 Ra hq
        obtain ⟨⟨hI1479, ec, ⟨pI1479, sI1479_0_7, sI1479_0_15, sI1479_0_16⟩⟩, rfl⟩ := hq
        rw [ec]
        clear ec Ra
        have e1481 : I1479 (ad g 0) 7 = w1458 := by rw [sI1479_0_7]; exact e1475
        have e1482 : I1479 (ad g 0) 16 = v1437 := by rw [sI1479_0_16]; exact e1471
        have e1483 : I1479 (ad g 0) 1 = L := hI1479.1.2
        have b1484 := BT_get hI1479.1.1 0 1 2 (0) (0) (900) (by decide) 1 (by decide) (by decide)
        rw [e1483] at b1484
        obtain ⟨w1485, ew1485⟩ : ∃ w : Int32, I1479 (ad g 0) 4 = w := ⟨_, rfl⟩
        have bw1485 := BT_get hI1479.1.1 0 4 5 (0) (0) (900) (by decide) 4 (by decide) (by decide)
        rw [ew1485] at bw1485
        obtain ⟨w1486, ew1486⟩ : ∃ w : Int32, I1479 (ad g 0) 2 = w := ⟨_, rfl⟩
        have bw1486 := BT_get hI1479.1.1 0 2 3 (0) (0) (900) (by decide) 2 (by decide) (by decide)
        rw [ew1486] at bw1486
        rw [ew1485, ew1486] at pI1479
        refine WP_aload_n dX11_readPrices_90 rfl ?_
        refine WQ_iconst (1) (1) dX11_readPrices_91 rfl rfl (fun v1487 hv1487 => ?_)
        refine WQ_bipush (20) (20) dX11_readPrices_92 rfl rfl (fun v1488 hv1488 => ?_)
        refine WP_callV2 (k := 11) dX11_readPrices_94 ⟨⟨⟨by decide, by decide⟩, zX11_number⟩, lX11_81, by decide, rfl, vX11_number.1, vX11_number.2⟩ (ly_is hy 0 11 rfl) (sm_number hy hr hI1479 v1487 v1488 (by omega) (by omega) (by omega) (by omega) (by rw [ew1485, ew1486]; omega)) (Nat.le_of_ble_eq_true rfl) ?_
        intro r I1489 J1490 Ra hq
        obtain ⟨⟨hI1489, ec, ⟨pI1489, sI1489_0_15, sI1489_0_16⟩⟩, v1491, rfl, av1491, bv1491, cv1491⟩ := hq
        show WP _ _ _ _ (.int _ :: _) _ _ _ _
        rw [ec]
        clear ec Ra
        have e1492 : I1489 (ad g 0) 16 = v1437 := by rw [sI1489_0_16]; exact e1482
        have e1493 : I1489 (ad g 0) 1 = L := hI1489.1.2
        have b1494 := BT_get hI1489.1.1 0 1 2 (0) (0) (900) (by decide) 1 (by decide) (by decide)
        rw [e1493] at b1494
        obtain ⟨w1495, ew1495⟩ : ∃ w : Int32, I1489 (ad g 0) 4 = w := ⟨_, rfl⟩
        have bw1495 := BT_get hI1489.1.1 0 4 5 (0) (0) (900) (by decide) 4 (by decide) (by decide)
        rw [ew1495] at bw1495
        obtain ⟨w1496, ew1496⟩ : ∃ w : Int32, I1489 (ad g 0) 2 = w := ⟨_, rfl⟩
        have bw1496 := BT_get hI1489.1.1 0 2 3 (0) (0) (900) (by decide) 2 (by decide) (by decide)
        rw [ew1496] at bw1496
        rw [ew1495, ew1496] at pI1489
        obtain ⟨w1497, ew1497⟩ : ∃ w : Int32, I1489 (ad g 0) 7 = w := ⟨_, rfl⟩
        have bw1497 := BT_get hI1489.1.1 0 7 8 (-1) (0) (1000) (by decide) 7 (by decide) (by decide)
        rw [ew1497] at bw1497
        rw [ew1497] at cv1491
        refine WQ_if_ne 102 dX11_readPrices_97 rfl (fun c1497 => ?_) (fun c1497 => ?_)
        · refine WP_aload_n dX11_readPrices_102 rfl ?_
          refine WP_getr dX11_readPrices_103 fX11_141 rfl (ly_is hy 0 11 rfl) (rf hr 0 46 28 (by decide)) ?_
          refine WP_iload_n dX11_readPrices_106 rfl ?_
          refine WP_aload_n dX11_readPrices_107 rfl ?_
          refine WQ_getim dX11_readPrices_108 fX11_56 rfl (ly_is hy 0 11 rfl) ew1497 ?_
          refine WQ_iast dX11_readPrices_111 (ly_is hy 28 13 rfl) (ly_n hy 28 21 rfl) (by omega) (by omega) (fun I1499 eI1499 => ?_)
          have hI1499 : MP g n L I1499 := by rw [eI1499]; exact (mp_w hy hI1489 (c := 28) (mi_r hy hI1489.1 (c := 28) (0) (0) (20) (by decide) (Or.inl (by decide)) (by decide) (by omega) (by omega)) (by decide) (by decide) (Or.inl (by decide)))
          have e1500 : I1499 (ad g 0) 16 = v1437 := by rw [eI1499, pp_ne _ _ (Or.inl (ly_ne hy (by decide) (by decide) (by decide)))]; exact e1492
          have e1501 : I1499 (ad g 0) 1 = L := by rw [eI1499, pp_ne _ _ (Or.inl (ly_ne hy (by decide) (by decide) (by decide)))]; exact e1493
          have e1502 : I1499 (ad g 0) 4 = w1495 := by rw [eI1499, pp_ne _ _ (Or.inl (ly_ne hy (by decide) (by decide) (by decide)))]; exact ew1495
          have e1503 : I1499 (ad g 0) 2 = w1496 := by rw [eI1499, pp_ne _ _ (Or.inl (ly_ne hy (by decide) (by decide) (by decide)))]; exact ew1496
          have e1504 : I1499 (ad g 0) 7 = w1497 := by rw [eI1499, pp_ne _ _ (Or.inl (ly_ne hy (by decide) (by decide) (by decide)))]; exact ew1497
          clear eI1499
          refine WQ_iconst (1) (1) dX11_readPrices_112 rfl rfl (fun v1505 hv1505 => ?_)
          exact WP_zret dX11_readPrices_113 rfl (nar_z (by omega)) ⟨⟨hI1499, rfl, (by rw [e1502, e1503]; omega)⟩, _, rfl, by omega, by omega⟩
        · refine WQ_iconst (0) (0) dX11_readPrices_100 rfl rfl (fun v1506 hv1506 => ?_)
          exact WP_zret dX11_readPrices_101 rfl (nar_z (by omega)) ⟨⟨hI1489, rfl, (by rw [ew1495, ew1496]; omega)⟩, _, rfl, by omega, by omega⟩
      · refine WP_aload_n dX11_readPrices_55 rfl ?_
        refine WQ_iconst (3) (3) dX11_readPrices_56 rfl rfl (fun v1507 hv1507 => ?_)
        refine WP_callV1 (k := 11) dX11_readPrices_57 ⟨⟨⟨by decide, by decide⟩, zX11_bad⟩, lX11_49, by decide, rfl, vX11_bad.1, vX11_bad.2⟩ (ly_is hy 0 11 rfl) (sm_bad2 hy hr hI1450 v1507  (by rw [ew1456, ew1457]; omega)) (Nat.le_of_ble_eq_true rfl) ?_
        intro r I1508 J1509 Ra hq
        obtain ⟨⟨hI1508, ec, ⟨pI1508, sI1508_0_15, sI1508_0_16⟩⟩, v1510, rfl, av1510, bv1510⟩ := hq
        show WP _ _ _ _ (.int _ :: _) _ _ _ _
        rw [ec]
        clear ec Ra
        have e1511 : I1508 (ad g 0) 16 = v1437 := by rw [sI1508_0_16]; exact e1453
        have e1512 : I1508 (ad g 0) 1 = L := hI1508.1.2
        have b1513 := BT_get hI1508.1.1 0 1 2 (0) (0) (900) (by decide) 1 (by decide) (by decide)
        rw [e1512] at b1513
        obtain ⟨w1514, ew1514⟩ : ∃ w : Int32, I1508 (ad g 0) 4 = w := ⟨_, rfl⟩
        have bw1514 := BT_get hI1508.1.1 0 4 5 (0) (0) (900) (by decide) 4 (by decide) (by decide)
        rw [ew1514] at bw1514
        obtain ⟨w1515, ew1515⟩ : ∃ w : Int32, I1508 (ad g 0) 2 = w := ⟨_, rfl⟩
        have bw1515 := BT_get hI1508.1.1 0 2 3 (0) (0) (900) (by decide) 2 (by decide) (by decide)
        rw [ew1515] at bw1515
        rw [ew1514, ew1515] at pI1508
        exact WP_zret dX11_readPrices_60 rfl (nar_z (by omega)) ⟨⟨hI1508, rfl, (by rw [ew1514, ew1515]; omega)⟩, _, rfl, by omega, by omega⟩
    · refine WQ_iconst (0) (0) dX11_readPrices_36 rfl rfl (fun v1516 hv1516 => ?_)
      exact WP_zret dX11_readPrices_37 rfl (nar_z (by omega)) ⟨⟨hI1450, rfl, (by rw [ew1456, ew1457]; omega)⟩, _, rfl, by omega, by omega⟩
  · refine WQ_iconst (0) (0) dX11_readPrices_19 rfl rfl (fun v1517 hv1517 => ?_)
    exact WP_zret dX11_readPrices_20 rfl (nar_z (by omega)) ⟨⟨hI1438, rfl, (by rw [ew1444, ew1445]; omega)⟩, _, rfl, by omega, by omega⟩
set_option maxHeartbeats 4000000 in
set_option maxRecDepth 100000 in
theorem sm_readMakes {g : GG} {n : Int} {L : Int32} (hy : Ly g)  {I : pI} {J : pJ} {R : pR} (hr : Rf g R) (hI : MP g n L I)   (hb : (I (ad g 0) 4).toInt ≤ (I (ad g 0) 2).toInt) : SP g mX11_readMakes [.ref (ad g 0)] I J R (fun r I' J' R' => (MP g n L I' ∧ R' = R ∧ (I' (ad g 0) 4).toInt ≤ (I' (ad g 0) 2).toInt) ∧ ∃ v : Int32, r = some (.int v) ∧ 0 ≤ v.toInt ∧ v.toInt ≤ 1) := by
  refine SP_of ⟨by decide, rfl⟩ (Nat.le_of_ble_eq_true rfl) ?_
  have e1518 : I (ad g 0) 1 = L := hI.1.2
  have b1519 := BT_get hI.1.1 0 1 2 (0) (0) (900) (by decide) 1 (by decide) (by decide)
  rw [e1518] at b1519
  obtain ⟨w1520, ew1520⟩ : ∃ w : Int32, I (ad g 0) 4 = w := ⟨_, rfl⟩
  have bw1520 := BT_get hI.1.1 0 4 5 (0) (0) (900) (by decide) 4 (by decide) (by decide)
  rw [ew1520] at bw1520
  obtain ⟨w1521, ew1521⟩ : ∃ w : Int32, I (ad g 0) 2 = w := ⟨_, rfl⟩
  have bw1521 := BT_get hI.1.1 0 2 3 (0) (0) (900) (by decide) 2 (by decide) (by decide)
  rw [ew1521] at bw1521
  rw [ew1520, ew1521] at hb
  refine WP_aload_n dX11_readMakes_0 rfl ?_
  refine WP_callV0 (k := 11) dX11_readMakes_1 ⟨⟨⟨by decide, by decide⟩, zX11_scan⟩, lX11_63, by decide, rfl, vX11_scan.1, vX11_scan.2⟩ (ly_is hy 0 11 rfl) (sm_scan hy hr hI   (by rw [ew1520, ew1521]; omega)) (Nat.le_of_ble_eq_true rfl) ?_
  intro r I1522 J1523 Ra hq
  obtain ⟨⟨hI1522, ec, ⟨pI1522, sI1522_0_7, sI1522_0_15, sI1522_0_16⟩⟩, rfl⟩ := hq
  rw [ec]
  clear ec Ra
  have e1524 : I1522 (ad g 0) 1 = L := hI1522.1.2
  have b1525 := BT_get hI1522.1.1 0 1 2 (0) (0) (900) (by decide) 1 (by decide) (by decide)
  rw [e1524] at b1525
  obtain ⟨w1526, ew1526⟩ : ∃ w : Int32, I1522 (ad g 0) 4 = w := ⟨_, rfl⟩
  have bw1526 := BT_get hI1522.1.1 0 4 5 (0) (0) (900) (by decide) 4 (by decide) (by decide)
  rw [ew1526] at bw1526
  obtain ⟨w1527, ew1527⟩ : ∃ w : Int32, I1522 (ad g 0) 2 = w := ⟨_, rfl⟩
  have bw1527 := BT_get hI1522.1.1 0 2 3 (0) (0) (900) (by decide) 2 (by decide) (by decide)
  rw [ew1527] at bw1527
  rw [ew1526, ew1527] at pI1522
  refine WP_aload_n dX11_readMakes_4 rfl ?_
  refine WP_aload_n dX11_readMakes_5 rfl ?_
  refine WP_getr dX11_readMakes_6 fX11_129 rfl (ly_is hy 0 11 rfl) (rf hr 0 23 5 (by decide)) ?_
  refine WP_aload_n dX11_readMakes_9 rfl ?_
  refine WQ_geti dX11_readMakes_10 fX11_126 rfl (ly_is hy 0 11 rfl) (BT_get hI1522.1.1 0 16 17 (0) (0) (3) (by decide) 16 (by decide) (by decide)) (fun v1528 ev1528 av1528 bv1528 => ?_)
  refine WP_callV2 (k := 11) dX11_readMakes_13 ⟨⟨⟨by decide, by decide⟩, zX11_known⟩, lX11_147, by decide, rfl, vX11_known.1, vX11_known.2⟩ (ly_is hy 0 11 rfl) (sm_known_5 hy hr hI1522 v1528 (by omega) (by omega) (by rw [ew1526, ew1527]; omega)) (Nat.le_of_ble_eq_true rfl) ?_
  intro r I1529 J1530 Ra hq
  obtain ⟨⟨hI1529, ec, ⟨pI1529, sI1529_0_15, sI1529_0_16⟩⟩, v1531, rfl, av1531, bv1531, cv1531⟩ := hq
  show WP _ _ _ _ (.int _ :: _) _ _ _ _
  rw [ec]
  clear ec Ra
  have e1532 : I1529 (ad g 0) 16 = v1528 := by rw [sI1529_0_16]; exact ev1528
  have e1533 : I1529 (ad g 0) 1 = L := hI1529.1.2
  have b1534 := BT_get hI1529.1.1 0 1 2 (0) (0) (900) (by decide) 1 (by decide) (by decide)
  rw [e1533] at b1534
  obtain ⟨w1535, ew1535⟩ : ∃ w : Int32, I1529 (ad g 0) 4 = w := ⟨_, rfl⟩
  have bw1535 := BT_get hI1529.1.1 0 4 5 (0) (0) (900) (by decide) 4 (by decide) (by decide)
  rw [ew1535] at bw1535
  obtain ⟨w1536, ew1536⟩ : ∃ w : Int32, I1529 (ad g 0) 2 = w := ⟨_, rfl⟩
  have bw1536 := BT_get hI1529.1.1 0 2 3 (0) (0) (900) (by decide) 2 (by decide) (by decide)
  rw [ew1536] at bw1536
  rw [ew1535, ew1536] at pI1529
  obtain ⟨w1537, ew1537⟩ : ∃ w : Int32, I1529 (ad g 0) 7 = w := ⟨_, rfl⟩
  have bw1537 := BT_get hI1529.1.1 0 7 8 (-1) (0) (1000) (by decide) 7 (by decide) (by decide)
  rw [ew1537] at bw1537
  rw [ew1537] at cv1531
  refine WQ_if_ne 21 dX11_readMakes_16 rfl (fun c1537 => ?_) (fun c1537 => ?_)
  · refine WP_aload_n dX11_readMakes_21 rfl ?_
    refine WQ_getim dX11_readMakes_22 fX11_56 rfl (ly_is hy 0 11 rfl) ew1537 ?_
    refine WP_istore_n (ls' := [(0, _), (1, _)]) dX11_readMakes_25 (by decide) rfl ?_
    refine WP_aload_n dX11_readMakes_26 rfl ?_
    refine WQ_iconst (0) (0) dX11_readMakes_27 rfl rfl (fun v1539 hv1539 => ?_)
    refine WQ_bipush (6) (6) dX11_readMakes_28 rfl rfl (fun v1540 hv1540 => ?_)
    refine WP_callV2 (k := 11) dX11_readMakes_30 ⟨⟨⟨by decide, by decide⟩, zX11_peek⟩, lX11_59, by decide, rfl, vX11_peek.1, vX11_peek.2⟩ (ly_is hy 0 11 rfl) (sm_peek hy hr hI1529 v1539 v1540 (by omega) (by omega) (by omega) (by omega) (by rw [ew1535, ew1536]; omega)) (Nat.le_of_ble_eq_true rfl) ?_
    intro r I1541 J1542 Ra hq
    obtain ⟨⟨hI1541, ec, ⟨pI1541, sI1541_0_15, sI1541_0_16⟩⟩, v1543, rfl, av1543, bv1543, cv1543⟩ := hq
    show WP _ _ _ _ (.int _ :: _) _ _ _ _
    rw [ec]
    clear ec Ra
    have e1544 : I1541 (ad g 0) 16 = v1528 := by rw [sI1541_0_16]; exact e1532
    have e1545 : I1541 (ad g 0) 1 = L := hI1541.1.2
    have b1546 := BT_get hI1541.1.1 0 1 2 (0) (0) (900) (by decide) 1 (by decide) (by decide)
    rw [e1545] at b1546
    obtain ⟨w1547, ew1547⟩ : ∃ w : Int32, I1541 (ad g 0) 4 = w := ⟨_, rfl⟩
    have bw1547 := BT_get hI1541.1.1 0 4 5 (0) (0) (900) (by decide) 4 (by decide) (by decide)
    rw [ew1547] at bw1547
    obtain ⟨w1548, ew1548⟩ : ∃ w : Int32, I1541 (ad g 0) 2 = w := ⟨_, rfl⟩
    have bw1548 := BT_get hI1541.1.1 0 2 3 (0) (0) (900) (by decide) 2 (by decide) (by decide)
    rw [ew1548] at bw1548
    rw [ew1547, ew1548] at pI1541
    obtain ⟨w1549, ew1549⟩ : ∃ w : Int32, I1541 (ad g 0) 7 = w := ⟨_, rfl⟩
    have bw1549 := BT_get hI1541.1.1 0 7 8 (-1) (0) (1000) (by decide) 7 (by decide) (by decide)
    rw [ew1549] at bw1549
    rw [ew1549] at cv1543
    refine WQ_if_ne 38 dX11_readMakes_33 rfl (fun c1549 => ?_) (fun c1549 => ?_)
    · refine WQ_bipush (7) (7) dX11_readMakes_38 rfl rfl (fun v1551 hv1551 => ?_)
      refine WP_iload_n dX11_readMakes_40 rfl ?_
      refine WQ_imulK (7) dX11_readMakes_41 hv1551 (by omega) (by omega) (fun v1552 hv1552 => ?_)
      refine WP_aload_n dX11_readMakes_42 rfl ?_
      refine WQ_getim dX11_readMakes_43 fX11_56 rfl (ly_is hy 0 11 rfl) ew1549 ?_
      refine WQ_iadd dX11_readMakes_46 (by omega) (by omega) (fun v1553 hv1553 => ?_)
      refine WP_istore_n (ls' := [(0, _), (1, _), (2, _)]) dX11_readMakes_47 (by decide) rfl ?_
      refine WP_aload_n dX11_readMakes_48 rfl ?_
      refine WP_getr dX11_readMakes_49 fX11_144 rfl (ly_is hy 0 11 rfl) (rf hr 0 47 29 (by decide)) ?_
      refine WP_iload_n dX11_readMakes_52 rfl ?_
      refine WQ_iald dX11_readMakes_53 (ly_is hy 29 13 rfl) (ly_n hy 29 21 rfl) (by omega) (by omega) (fun q hq => BT_get hI1541.1.1 29 0 21 (-1) (0) (999) (by decide) q (Nat.zero_le _) hq) (fun v1554 av1554 bv1554 ev1554 => ?_)
      clear ev1554
      refine WQ_iconst (-1) (-1) dX11_readMakes_54 rfl rfl (fun v1555 hv1555 => ?_)
      refine WQ_icmp_eq 64 dX11_readMakes_55 rfl (fun c1555 => ?_) (fun c1555 => ?_)
      · refine WP_aload_n dX11_readMakes_64 rfl ?_
        refine WP_callV0 (k := 11) dX11_readMakes_65 ⟨⟨⟨by decide, by decide⟩, zX11_scan⟩, lX11_63, by decide, rfl, vX11_scan.1, vX11_scan.2⟩ (ly_is hy 0 11 rfl) (sm_scan hy hr hI1541   (by rw [ew1547, ew1548]; omega)) (Nat.le_of_ble_eq_true rfl) ?_
        intro r I1557 J1558 Ra hq
        obtain ⟨⟨hI1557, ec, ⟨pI1557, sI1557_0_7, sI1557_0_15, sI1557_0_16⟩⟩, rfl⟩ := hq
        rw [ec]
        clear ec Ra
        have e1559 : I1557 (ad g 0) 7 = w1549 := by rw [sI1557_0_7]; exact ew1549
        have e1560 : I1557 (ad g 0) 16 = v1528 := by rw [sI1557_0_16]; exact e1544
        have e1561 : I1557 (ad g 0) 1 = L := hI1557.1.2
        have b1562 := BT_get hI1557.1.1 0 1 2 (0) (0) (900) (by decide) 1 (by decide) (by decide)
        rw [e1561] at b1562
        obtain ⟨w1563, ew1563⟩ : ∃ w : Int32, I1557 (ad g 0) 4 = w := ⟨_, rfl⟩
        have bw1563 := BT_get hI1557.1.1 0 4 5 (0) (0) (900) (by decide) 4 (by decide) (by decide)
        rw [ew1563] at bw1563
        obtain ⟨w1564, ew1564⟩ : ∃ w : Int32, I1557 (ad g 0) 2 = w := ⟨_, rfl⟩
        have bw1564 := BT_get hI1557.1.1 0 2 3 (0) (0) (900) (by decide) 2 (by decide) (by decide)
        rw [ew1564] at bw1564
        rw [ew1563, ew1564] at pI1557
        refine WP_aload_n dX11_readMakes_68 rfl ?_
        refine WQ_iconst (0) (0) dX11_readMakes_69 rfl rfl (fun v1565 hv1565 => ?_)
        refine WQ_sipush (999) (999) dX11_readMakes_70 rfl rfl (fun v1566 hv1566 => ?_)
        refine WP_callV2 (k := 11) dX11_readMakes_73 ⟨⟨⟨by decide, by decide⟩, zX11_number⟩, lX11_81, by decide, rfl, vX11_number.1, vX11_number.2⟩ (ly_is hy 0 11 rfl) (sm_number hy hr hI1557 v1565 v1566 (by omega) (by omega) (by omega) (by omega) (by rw [ew1563, ew1564]; omega)) (Nat.le_of_ble_eq_true rfl) ?_
        intro r I1567 J1568 Ra hq
        obtain ⟨⟨hI1567, ec, ⟨pI1567, sI1567_0_15, sI1567_0_16⟩⟩, v1569, rfl, av1569, bv1569, cv1569⟩ := hq
        show WP _ _ _ _ (.int _ :: _) _ _ _ _
        rw [ec]
        clear ec Ra
        have e1570 : I1567 (ad g 0) 16 = v1528 := by rw [sI1567_0_16]; exact e1560
        have e1571 : I1567 (ad g 0) 1 = L := hI1567.1.2
        have b1572 := BT_get hI1567.1.1 0 1 2 (0) (0) (900) (by decide) 1 (by decide) (by decide)
        rw [e1571] at b1572
        obtain ⟨w1573, ew1573⟩ : ∃ w : Int32, I1567 (ad g 0) 4 = w := ⟨_, rfl⟩
        have bw1573 := BT_get hI1567.1.1 0 4 5 (0) (0) (900) (by decide) 4 (by decide) (by decide)
        rw [ew1573] at bw1573
        obtain ⟨w1574, ew1574⟩ : ∃ w : Int32, I1567 (ad g 0) 2 = w := ⟨_, rfl⟩
        have bw1574 := BT_get hI1567.1.1 0 2 3 (0) (0) (900) (by decide) 2 (by decide) (by decide)
        rw [ew1574] at bw1574
        rw [ew1573, ew1574] at pI1567
        obtain ⟨w1575, ew1575⟩ : ∃ w : Int32, I1567 (ad g 0) 7 = w := ⟨_, rfl⟩
        have bw1575 := BT_get hI1567.1.1 0 7 8 (-1) (0) (1000) (by decide) 7 (by decide) (by decide)
        rw [ew1575] at bw1575
        rw [ew1575] at cv1569
        refine WQ_if_ne 81 dX11_readMakes_76 rfl (fun c1575 => ?_) (fun c1575 => ?_)
        · refine WP_aload_n dX11_readMakes_81 rfl ?_
          refine WP_getr dX11_readMakes_82 fX11_144 rfl (ly_is hy 0 11 rfl) (rf hr 0 47 29 (by decide)) ?_
          refine WP_iload_n dX11_readMakes_85 rfl ?_
          refine WP_aload_n dX11_readMakes_86 rfl ?_
          refine WQ_getim dX11_readMakes_87 fX11_56 rfl (ly_is hy 0 11 rfl) ew1575 ?_
          refine WQ_iast dX11_readMakes_90 (ly_is hy 29 13 rfl) (ly_n hy 29 21 rfl) (by omega) (by omega) (fun I1577 eI1577 => ?_)
          have hI1577 : MP g n L I1577 := by rw [eI1577]; exact (mp_w hy hI1567 (c := 29) (mi_r hy hI1567.1 (c := 29) (-1) (0) (999) (by decide) (Or.inl (by decide)) (by decide) (by omega) (by omega)) (by decide) (by decide) (Or.inl (by decide)))
          have e1578 : I1577 (ad g 0) 16 = v1528 := by rw [eI1577, pp_ne _ _ (Or.inl (ly_ne hy (by decide) (by decide) (by decide)))]; exact e1570
          have e1579 : I1577 (ad g 0) 1 = L := by rw [eI1577, pp_ne _ _ (Or.inl (ly_ne hy (by decide) (by decide) (by decide)))]; exact e1571
          have e1580 : I1577 (ad g 0) 4 = w1573 := by rw [eI1577, pp_ne _ _ (Or.inl (ly_ne hy (by decide) (by decide) (by decide)))]; exact ew1573
          have e1581 : I1577 (ad g 0) 2 = w1574 := by rw [eI1577, pp_ne _ _ (Or.inl (ly_ne hy (by decide) (by decide) (by decide)))]; exact ew1574
          have e1582 : I1577 (ad g 0) 7 = w1575 := by rw [eI1577, pp_ne _ _ (Or.inl (ly_ne hy (by decide) (by decide) (by decide)))]; exact ew1575
          clear eI1577
          refine WQ_iconst (1) (1) dX11_readMakes_91 rfl rfl (fun v1583 hv1583 => ?_)
          exact WP_zret dX11_readMakes_92 rfl (nar_z (by omega)) ⟨⟨hI1577, rfl, (by rw [e1580, e1581]; omega)⟩, _, rfl, by omega, by omega⟩
        · refine WQ_iconst (0) (0) dX11_readMakes_79 rfl rfl (fun v1584 hv1584 => ?_)
          exact WP_zret dX11_readMakes_80 rfl (nar_z (by omega)) ⟨⟨hI1567, rfl, (by rw [ew1573, ew1574]; omega)⟩, _, rfl, by omega, by omega⟩
      · refine WP_aload_n dX11_readMakes_58 rfl ?_
        refine WQ_iconst (3) (3) dX11_readMakes_59 rfl rfl (fun v1585 hv1585 => ?_)
        refine WP_callV1 (k := 11) dX11_readMakes_60 ⟨⟨⟨by decide, by decide⟩, zX11_bad⟩, lX11_49, by decide, rfl, vX11_bad.1, vX11_bad.2⟩ (ly_is hy 0 11 rfl) (sm_bad2 hy hr hI1541 v1585  (by rw [ew1547, ew1548]; omega)) (Nat.le_of_ble_eq_true rfl) ?_
        intro r I1586 J1587 Ra hq
        obtain ⟨⟨hI1586, ec, ⟨pI1586, sI1586_0_15, sI1586_0_16⟩⟩, v1588, rfl, av1588, bv1588⟩ := hq
        show WP _ _ _ _ (.int _ :: _) _ _ _ _
        rw [ec]
        clear ec Ra
        have e1589 : I1586 (ad g 0) 16 = v1528 := by rw [sI1586_0_16]; exact e1544
        have e1590 : I1586 (ad g 0) 1 = L := hI1586.1.2
        have b1591 := BT_get hI1586.1.1 0 1 2 (0) (0) (900) (by decide) 1 (by decide) (by decide)
        rw [e1590] at b1591
        obtain ⟨w1592, ew1592⟩ : ∃ w : Int32, I1586 (ad g 0) 4 = w := ⟨_, rfl⟩
        have bw1592 := BT_get hI1586.1.1 0 4 5 (0) (0) (900) (by decide) 4 (by decide) (by decide)
        rw [ew1592] at bw1592
        obtain ⟨w1593, ew1593⟩ : ∃ w : Int32, I1586 (ad g 0) 2 = w := ⟨_, rfl⟩
        have bw1593 := BT_get hI1586.1.1 0 2 3 (0) (0) (900) (by decide) 2 (by decide) (by decide)
        rw [ew1593] at bw1593
        rw [ew1592, ew1593] at pI1586
        exact WP_zret dX11_readMakes_63 rfl (nar_z (by omega)) ⟨⟨hI1586, rfl, (by rw [ew1592, ew1593]; omega)⟩, _, rfl, by omega, by omega⟩
    · refine WQ_iconst (0) (0) dX11_readMakes_36 rfl rfl (fun v1594 hv1594 => ?_)
      exact WP_zret dX11_readMakes_37 rfl (nar_z (by omega)) ⟨⟨hI1541, rfl, (by rw [ew1547, ew1548]; omega)⟩, _, rfl, by omega, by omega⟩
  · refine WQ_iconst (0) (0) dX11_readMakes_19 rfl rfl (fun v1595 hv1595 => ?_)
    exact WP_zret dX11_readMakes_20 rfl (nar_z (by omega)) ⟨⟨hI1529, rfl, (by rw [ew1535, ew1536]; omega)⟩, _, rfl, by omega, by omega⟩
set_option maxHeartbeats 4000000 in
set_option maxRecDepth 100000 in
theorem sm_readWants {g : GG} {n : Int} {L : Int32} (hy : Ly g)  {I : pI} {J : pJ} {R : pR} (hr : Rf g R) (hI : MP g n L I)   (hb : (I (ad g 0) 4).toInt ≤ (I (ad g 0) 2).toInt) : SP g mX11_readWants [.ref (ad g 0)] I J R (fun r I' J' R' => (MP g n L I' ∧ R' = R ∧ (I' (ad g 0) 4).toInt ≤ (I' (ad g 0) 2).toInt) ∧ ∃ v : Int32, r = some (.int v) ∧ 0 ≤ v.toInt ∧ v.toInt ≤ 1) := by
  refine SP_of ⟨by decide, rfl⟩ (Nat.le_of_ble_eq_true rfl) ?_
  have e1596 : I (ad g 0) 1 = L := hI.1.2
  have b1597 := BT_get hI.1.1 0 1 2 (0) (0) (900) (by decide) 1 (by decide) (by decide)
  rw [e1596] at b1597
  obtain ⟨w1598, ew1598⟩ : ∃ w : Int32, I (ad g 0) 4 = w := ⟨_, rfl⟩
  have bw1598 := BT_get hI.1.1 0 4 5 (0) (0) (900) (by decide) 4 (by decide) (by decide)
  rw [ew1598] at bw1598
  obtain ⟨w1599, ew1599⟩ : ∃ w : Int32, I (ad g 0) 2 = w := ⟨_, rfl⟩
  have bw1599 := BT_get hI.1.1 0 2 3 (0) (0) (900) (by decide) 2 (by decide) (by decide)
  rw [ew1599] at bw1599
  rw [ew1598, ew1599] at hb
  refine WP_aload_n dX11_readWants_0 rfl ?_
  refine WP_callV0 (k := 11) dX11_readWants_1 ⟨⟨⟨by decide, by decide⟩, zX11_scan⟩, lX11_63, by decide, rfl, vX11_scan.1, vX11_scan.2⟩ (ly_is hy 0 11 rfl) (sm_scan hy hr hI   (by rw [ew1598, ew1599]; omega)) (Nat.le_of_ble_eq_true rfl) ?_
  intro r I1600 J1601 Ra hq
  obtain ⟨⟨hI1600, ec, ⟨pI1600, sI1600_0_7, sI1600_0_15, sI1600_0_16⟩⟩, rfl⟩ := hq
  rw [ec]
  clear ec Ra
  have e1602 : I1600 (ad g 0) 1 = L := hI1600.1.2
  have b1603 := BT_get hI1600.1.1 0 1 2 (0) (0) (900) (by decide) 1 (by decide) (by decide)
  rw [e1602] at b1603
  obtain ⟨w1604, ew1604⟩ : ∃ w : Int32, I1600 (ad g 0) 4 = w := ⟨_, rfl⟩
  have bw1604 := BT_get hI1600.1.1 0 4 5 (0) (0) (900) (by decide) 4 (by decide) (by decide)
  rw [ew1604] at bw1604
  obtain ⟨w1605, ew1605⟩ : ∃ w : Int32, I1600 (ad g 0) 2 = w := ⟨_, rfl⟩
  have bw1605 := BT_get hI1600.1.1 0 2 3 (0) (0) (900) (by decide) 2 (by decide) (by decide)
  rw [ew1605] at bw1605
  rw [ew1604, ew1605] at pI1600
  refine WP_aload_n dX11_readWants_4 rfl ?_
  refine WP_aload_n dX11_readWants_5 rfl ?_
  refine WP_getr dX11_readWants_6 fX11_91 rfl (ly_is hy 0 11 rfl) (rf hr 0 22 4 (by decide)) ?_
  refine WP_aload_n dX11_readWants_9 rfl ?_
  refine WQ_geti dX11_readWants_10 fX11_88 rfl (ly_is hy 0 11 rfl) (BT_get hI1600.1.1 0 15 16 (0) (0) (4) (by decide) 15 (by decide) (by decide)) (fun v1606 ev1606 av1606 bv1606 => ?_)
  refine WP_callV2 (k := 11) dX11_readWants_13 ⟨⟨⟨by decide, by decide⟩, zX11_known⟩, lX11_147, by decide, rfl, vX11_known.1, vX11_known.2⟩ (ly_is hy 0 11 rfl) (sm_known_4 hy hr hI1600 v1606 (by omega) (by omega) (by rw [ew1604, ew1605]; omega)) (Nat.le_of_ble_eq_true rfl) ?_
  intro r I1607 J1608 Ra hq
  obtain ⟨⟨hI1607, ec, ⟨pI1607, sI1607_0_15, sI1607_0_16⟩⟩, v1609, rfl, av1609, bv1609, cv1609⟩ := hq
  show WP _ _ _ _ (.int _ :: _) _ _ _ _
  rw [ec]
  clear ec Ra
  have e1610 : I1607 (ad g 0) 15 = v1606 := by rw [sI1607_0_15]; exact ev1606
  have e1611 : I1607 (ad g 0) 1 = L := hI1607.1.2
  have b1612 := BT_get hI1607.1.1 0 1 2 (0) (0) (900) (by decide) 1 (by decide) (by decide)
  rw [e1611] at b1612
  obtain ⟨w1613, ew1613⟩ : ∃ w : Int32, I1607 (ad g 0) 4 = w := ⟨_, rfl⟩
  have bw1613 := BT_get hI1607.1.1 0 4 5 (0) (0) (900) (by decide) 4 (by decide) (by decide)
  rw [ew1613] at bw1613
  obtain ⟨w1614, ew1614⟩ : ∃ w : Int32, I1607 (ad g 0) 2 = w := ⟨_, rfl⟩
  have bw1614 := BT_get hI1607.1.1 0 2 3 (0) (0) (900) (by decide) 2 (by decide) (by decide)
  rw [ew1614] at bw1614
  rw [ew1613, ew1614] at pI1607
  obtain ⟨w1615, ew1615⟩ : ∃ w : Int32, I1607 (ad g 0) 7 = w := ⟨_, rfl⟩
  have bw1615 := BT_get hI1607.1.1 0 7 8 (-1) (0) (1000) (by decide) 7 (by decide) (by decide)
  rw [ew1615] at bw1615
  rw [ew1615] at cv1609
  refine WQ_if_ne 21 dX11_readWants_16 rfl (fun c1615 => ?_) (fun c1615 => ?_)
  · refine WP_aload_n dX11_readWants_21 rfl ?_
    refine WQ_getim dX11_readWants_22 fX11_56 rfl (ly_is hy 0 11 rfl) ew1615 ?_
    refine WP_istore_n (ls' := [(0, _), (1, _)]) dX11_readWants_25 (by decide) rfl ?_
    refine WP_aload_n dX11_readWants_26 rfl ?_
    refine WP_aload_n dX11_readWants_27 rfl ?_
    refine WP_getr dX11_readWants_28 fX11_129 rfl (ly_is hy 0 11 rfl) (rf hr 0 23 5 (by decide)) ?_
    refine WP_aload_n dX11_readWants_31 rfl ?_
    refine WQ_geti dX11_readWants_32 fX11_126 rfl (ly_is hy 0 11 rfl) (BT_get hI1607.1.1 0 16 17 (0) (0) (3) (by decide) 16 (by decide) (by decide)) (fun v1617 ev1617 av1617 bv1617 => ?_)
    refine WP_callV2 (k := 11) dX11_readWants_35 ⟨⟨⟨by decide, by decide⟩, zX11_known⟩, lX11_147, by decide, rfl, vX11_known.1, vX11_known.2⟩ (ly_is hy 0 11 rfl) (sm_known_5 hy hr hI1607 v1617 (by omega) (by omega) (by rw [ew1613, ew1614]; omega)) (Nat.le_of_ble_eq_true rfl) ?_
    intro r I1618 J1619 Ra hq
    obtain ⟨⟨hI1618, ec, ⟨pI1618, sI1618_0_15, sI1618_0_16⟩⟩, v1620, rfl, av1620, bv1620, cv1620⟩ := hq
    show WP _ _ _ _ (.int _ :: _) _ _ _ _
    rw [ec]
    clear ec Ra
    have e1621 : I1618 (ad g 0) 15 = v1606 := by rw [sI1618_0_15]; exact e1610
    have e1622 : I1618 (ad g 0) 16 = v1617 := by rw [sI1618_0_16]; exact ev1617
    have e1623 : I1618 (ad g 0) 1 = L := hI1618.1.2
    have b1624 := BT_get hI1618.1.1 0 1 2 (0) (0) (900) (by decide) 1 (by decide) (by decide)
    rw [e1623] at b1624
    obtain ⟨w1625, ew1625⟩ : ∃ w : Int32, I1618 (ad g 0) 4 = w := ⟨_, rfl⟩
    have bw1625 := BT_get hI1618.1.1 0 4 5 (0) (0) (900) (by decide) 4 (by decide) (by decide)
    rw [ew1625] at bw1625
    obtain ⟨w1626, ew1626⟩ : ∃ w : Int32, I1618 (ad g 0) 2 = w := ⟨_, rfl⟩
    have bw1626 := BT_get hI1618.1.1 0 2 3 (0) (0) (900) (by decide) 2 (by decide) (by decide)
    rw [ew1626] at bw1626
    rw [ew1625, ew1626] at pI1618
    obtain ⟨w1627, ew1627⟩ : ∃ w : Int32, I1618 (ad g 0) 7 = w := ⟨_, rfl⟩
    have bw1627 := BT_get hI1618.1.1 0 7 8 (-1) (0) (1000) (by decide) 7 (by decide) (by decide)
    rw [ew1627] at bw1627
    rw [ew1627] at cv1620
    refine WQ_if_ne 43 dX11_readWants_38 rfl (fun c1627 => ?_) (fun c1627 => ?_)
    · refine WP_aload_n dX11_readWants_43 rfl ?_
      refine WQ_getim dX11_readWants_44 fX11_56 rfl (ly_is hy 0 11 rfl) ew1627 ?_
      refine WP_istore_n (ls' := [(0, _), (1, _), (2, _)]) dX11_readWants_47 (by decide) rfl ?_
      refine WP_aload_n dX11_readWants_48 rfl ?_
      refine WQ_iconst (0) (0) dX11_readWants_49 rfl rfl (fun v1629 hv1629 => ?_)
      refine WQ_bipush (6) (6) dX11_readWants_50 rfl rfl (fun v1630 hv1630 => ?_)
      refine WP_callV2 (k := 11) dX11_readWants_52 ⟨⟨⟨by decide, by decide⟩, zX11_peek⟩, lX11_59, by decide, rfl, vX11_peek.1, vX11_peek.2⟩ (ly_is hy 0 11 rfl) (sm_peek hy hr hI1618 v1629 v1630 (by omega) (by omega) (by omega) (by omega) (by rw [ew1625, ew1626]; omega)) (Nat.le_of_ble_eq_true rfl) ?_
      intro r I1631 J1632 Ra hq
      obtain ⟨⟨hI1631, ec, ⟨pI1631, sI1631_0_15, sI1631_0_16⟩⟩, v1633, rfl, av1633, bv1633, cv1633⟩ := hq
      show WP _ _ _ _ (.int _ :: _) _ _ _ _
      rw [ec]
      clear ec Ra
      have e1634 : I1631 (ad g 0) 15 = v1606 := by rw [sI1631_0_15]; exact e1621
      have e1635 : I1631 (ad g 0) 16 = v1617 := by rw [sI1631_0_16]; exact e1622
      have e1636 : I1631 (ad g 0) 1 = L := hI1631.1.2
      have b1637 := BT_get hI1631.1.1 0 1 2 (0) (0) (900) (by decide) 1 (by decide) (by decide)
      rw [e1636] at b1637
      obtain ⟨w1638, ew1638⟩ : ∃ w : Int32, I1631 (ad g 0) 4 = w := ⟨_, rfl⟩
      have bw1638 := BT_get hI1631.1.1 0 4 5 (0) (0) (900) (by decide) 4 (by decide) (by decide)
      rw [ew1638] at bw1638
      obtain ⟨w1639, ew1639⟩ : ∃ w : Int32, I1631 (ad g 0) 2 = w := ⟨_, rfl⟩
      have bw1639 := BT_get hI1631.1.1 0 2 3 (0) (0) (900) (by decide) 2 (by decide) (by decide)
      rw [ew1639] at bw1639
      rw [ew1638, ew1639] at pI1631
      obtain ⟨w1640, ew1640⟩ : ∃ w : Int32, I1631 (ad g 0) 7 = w := ⟨_, rfl⟩
      have bw1640 := BT_get hI1631.1.1 0 7 8 (-1) (0) (1000) (by decide) 7 (by decide) (by decide)
      rw [ew1640] at bw1640
      rw [ew1640] at cv1633
      refine WQ_if_ne 60 dX11_readWants_55 rfl (fun c1640 => ?_) (fun c1640 => ?_)
      · refine WQ_bipush (7) (7) dX11_readWants_60 rfl rfl (fun v1642 hv1642 => ?_)
        refine WP_iload_n dX11_readWants_62 rfl ?_
        refine WQ_imulK (7) dX11_readWants_63 hv1642 (by omega) (by omega) (fun v1643 hv1643 => ?_)
        refine WP_aload_n dX11_readWants_64 rfl ?_
        refine WQ_getim dX11_readWants_65 fX11_56 rfl (ly_is hy 0 11 rfl) ew1640 ?_
        refine WQ_iadd dX11_readWants_68 (by omega) (by omega) (fun v1644 hv1644 => ?_)
        refine WP_istore_n (ls' := [(0, _), (1, _), (2, _), (3, _)]) dX11_readWants_69 (by decide) rfl ?_
        refine WP_aload_n dX11_readWants_70 rfl ?_
        refine WP_getr dX11_readWants_71 fX11_117 rfl (ly_is hy 0 11 rfl) (rf hr 0 48 30 (by decide)) ?_
        refine WP_iload_n dX11_readWants_74 rfl ?_
        refine WQ_iald dX11_readWants_75 (ly_is hy 30 13 rfl) (ly_n hy 30 28 rfl) (by omega) (by omega) (fun q hq => BT_get hI1631.1.1 30 0 28 (-1) (0) (2) (by decide) q (Nat.zero_le _) hq) (fun v1645 av1645 bv1645 ev1645 => ?_)
        clear ev1645
        refine WQ_iconst (-1) (-1) dX11_readWants_76 rfl rfl (fun v1646 hv1646 => ?_)
        refine WQ_icmp_eq 86 dX11_readWants_77 rfl (fun c1646 => ?_) (fun c1646 => ?_)
        · refine WP_aload_n dX11_readWants_86 rfl ?_
          refine WP_callV0 (k := 11) dX11_readWants_87 ⟨⟨⟨by decide, by decide⟩, zX11_scan⟩, lX11_63, by decide, rfl, vX11_scan.1, vX11_scan.2⟩ (ly_is hy 0 11 rfl) (sm_scan hy hr hI1631   (by rw [ew1638, ew1639]; omega)) (Nat.le_of_ble_eq_true rfl) ?_
          intro r I1648 J1649 Ra hq
          obtain ⟨⟨hI1648, ec, ⟨pI1648, sI1648_0_7, sI1648_0_15, sI1648_0_16⟩⟩, rfl⟩ := hq
          rw [ec]
          clear ec Ra
          have e1650 : I1648 (ad g 0) 7 = w1640 := by rw [sI1648_0_7]; exact ew1640
          have e1651 : I1648 (ad g 0) 15 = v1606 := by rw [sI1648_0_15]; exact e1634
          have e1652 : I1648 (ad g 0) 16 = v1617 := by rw [sI1648_0_16]; exact e1635
          have e1653 : I1648 (ad g 0) 1 = L := hI1648.1.2
          have b1654 := BT_get hI1648.1.1 0 1 2 (0) (0) (900) (by decide) 1 (by decide) (by decide)
          rw [e1653] at b1654
          obtain ⟨w1655, ew1655⟩ : ∃ w : Int32, I1648 (ad g 0) 4 = w := ⟨_, rfl⟩
          have bw1655 := BT_get hI1648.1.1 0 4 5 (0) (0) (900) (by decide) 4 (by decide) (by decide)
          rw [ew1655] at bw1655
          obtain ⟨w1656, ew1656⟩ : ∃ w : Int32, I1648 (ad g 0) 2 = w := ⟨_, rfl⟩
          have bw1656 := BT_get hI1648.1.1 0 2 3 (0) (0) (900) (by decide) 2 (by decide) (by decide)
          rw [ew1656] at bw1656
          rw [ew1655, ew1656] at pI1648
          refine WP_aload_n dX11_readWants_90 rfl ?_
          refine WQ_iconst (1) (1) dX11_readWants_91 rfl rfl (fun v1657 hv1657 => ?_)
          refine WQ_iconst (3) (3) dX11_readWants_92 rfl rfl (fun v1658 hv1658 => ?_)
          refine WP_callV2 (k := 11) dX11_readWants_93 ⟨⟨⟨by decide, by decide⟩, zX11_number⟩, lX11_81, by decide, rfl, vX11_number.1, vX11_number.2⟩ (ly_is hy 0 11 rfl) (sm_number hy hr hI1648 v1657 v1658 (by omega) (by omega) (by omega) (by omega) (by rw [ew1655, ew1656]; omega)) (Nat.le_of_ble_eq_true rfl) ?_
          intro r I1659 J1660 Ra hq
          obtain ⟨⟨hI1659, ec, ⟨pI1659, sI1659_0_15, sI1659_0_16⟩⟩, v1661, rfl, av1661, bv1661, cv1661⟩ := hq
          show WP _ _ _ _ (.int _ :: _) _ _ _ _
          rw [ec]
          clear ec Ra
          have e1662 : I1659 (ad g 0) 15 = v1606 := by rw [sI1659_0_15]; exact e1651
          have e1663 : I1659 (ad g 0) 16 = v1617 := by rw [sI1659_0_16]; exact e1652
          have e1664 : I1659 (ad g 0) 1 = L := hI1659.1.2
          have b1665 := BT_get hI1659.1.1 0 1 2 (0) (0) (900) (by decide) 1 (by decide) (by decide)
          rw [e1664] at b1665
          obtain ⟨w1666, ew1666⟩ : ∃ w : Int32, I1659 (ad g 0) 4 = w := ⟨_, rfl⟩
          have bw1666 := BT_get hI1659.1.1 0 4 5 (0) (0) (900) (by decide) 4 (by decide) (by decide)
          rw [ew1666] at bw1666
          obtain ⟨w1667, ew1667⟩ : ∃ w : Int32, I1659 (ad g 0) 2 = w := ⟨_, rfl⟩
          have bw1667 := BT_get hI1659.1.1 0 2 3 (0) (0) (900) (by decide) 2 (by decide) (by decide)
          rw [ew1667] at bw1667
          rw [ew1666, ew1667] at pI1659
          obtain ⟨w1668, ew1668⟩ : ∃ w : Int32, I1659 (ad g 0) 7 = w := ⟨_, rfl⟩
          have bw1668 := BT_get hI1659.1.1 0 7 8 (-1) (0) (1000) (by decide) 7 (by decide) (by decide)
          rw [ew1668] at bw1668
          rw [ew1668] at cv1661
          refine WQ_if_ne 101 dX11_readWants_96 rfl (fun c1668 => ?_) (fun c1668 => ?_)
          · refine WP_aload_n dX11_readWants_101 rfl ?_
            refine WP_getr dX11_readWants_102 fX11_120 rfl (ly_is hy 0 11 rfl) (rf hr 0 49 31 (by decide)) ?_
            refine WP_iload_n dX11_readWants_105 rfl ?_
            refine WP_aload_n dX11_readWants_106 rfl ?_
            refine WQ_getim dX11_readWants_107 fX11_56 rfl (ly_is hy 0 11 rfl) ew1668 ?_
            refine WQ_iast dX11_readWants_110 (ly_is hy 31 13 rfl) (ly_n hy 31 28 rfl) (by omega) (by omega) (fun I1670 eI1670 => ?_)
            have hI1670 : MP g n L I1670 := by rw [eI1670]; exact (mp_w hy hI1659 (c := 31) (mi_r hy hI1659.1 (c := 31) (0) (0) (3) (by decide) (Or.inl (by decide)) (by decide) (by omega) (by omega)) (by decide) (by decide) (Or.inl (by decide)))
            have e1671 : I1670 (ad g 0) 15 = v1606 := by rw [eI1670, pp_ne _ _ (Or.inl (ly_ne hy (by decide) (by decide) (by decide)))]; exact e1662
            have e1672 : I1670 (ad g 0) 16 = v1617 := by rw [eI1670, pp_ne _ _ (Or.inl (ly_ne hy (by decide) (by decide) (by decide)))]; exact e1663
            have e1673 : I1670 (ad g 0) 1 = L := by rw [eI1670, pp_ne _ _ (Or.inl (ly_ne hy (by decide) (by decide) (by decide)))]; exact e1664
            have e1674 : I1670 (ad g 0) 4 = w1666 := by rw [eI1670, pp_ne _ _ (Or.inl (ly_ne hy (by decide) (by decide) (by decide)))]; exact ew1666
            have e1675 : I1670 (ad g 0) 2 = w1667 := by rw [eI1670, pp_ne _ _ (Or.inl (ly_ne hy (by decide) (by decide) (by decide)))]; exact ew1667
            have e1676 : I1670 (ad g 0) 7 = w1668 := by rw [eI1670, pp_ne _ _ (Or.inl (ly_ne hy (by decide) (by decide) (by decide)))]; exact ew1668
            clear eI1670
            refine WP_aload_n dX11_readWants_111 rfl ?_
            refine WQ_iconst (0) (0) dX11_readWants_112 rfl rfl (fun v1677 hv1677 => ?_)
            refine WQ_bipush (99) (99) dX11_readWants_113 rfl rfl (fun v1678 hv1678 => ?_)
            refine WP_callV2 (k := 11) dX11_readWants_115 ⟨⟨⟨by decide, by decide⟩, zX11_number⟩, lX11_81, by decide, rfl, vX11_number.1, vX11_number.2⟩ (ly_is hy 0 11 rfl) (sm_number hy hr hI1670 v1677 v1678 (by omega) (by omega) (by omega) (by omega) (by rw [e1674, e1675]; omega)) (Nat.le_of_ble_eq_true rfl) ?_
            intro r I1679 J1680 Ra hq
            obtain ⟨⟨hI1679, ec, ⟨pI1679, sI1679_0_15, sI1679_0_16⟩⟩, v1681, rfl, av1681, bv1681, cv1681⟩ := hq
            show WP _ _ _ _ (.int _ :: _) _ _ _ _
            rw [ec]
            clear ec Ra
            have e1682 : I1679 (ad g 0) 15 = v1606 := by rw [sI1679_0_15]; exact e1671
            have e1683 : I1679 (ad g 0) 16 = v1617 := by rw [sI1679_0_16]; exact e1672
            have e1684 : I1679 (ad g 0) 1 = L := hI1679.1.2
            have b1685 := BT_get hI1679.1.1 0 1 2 (0) (0) (900) (by decide) 1 (by decide) (by decide)
            rw [e1684] at b1685
            obtain ⟨w1686, ew1686⟩ : ∃ w : Int32, I1679 (ad g 0) 4 = w := ⟨_, rfl⟩
            have bw1686 := BT_get hI1679.1.1 0 4 5 (0) (0) (900) (by decide) 4 (by decide) (by decide)
            rw [ew1686] at bw1686
            obtain ⟨w1687, ew1687⟩ : ∃ w : Int32, I1679 (ad g 0) 2 = w := ⟨_, rfl⟩
            have bw1687 := BT_get hI1679.1.1 0 2 3 (0) (0) (900) (by decide) 2 (by decide) (by decide)
            rw [ew1687] at bw1687
            rw [ew1686, ew1687] at pI1679
            obtain ⟨w1688, ew1688⟩ : ∃ w : Int32, I1679 (ad g 0) 7 = w := ⟨_, rfl⟩
            have bw1688 := BT_get hI1679.1.1 0 7 8 (-1) (0) (1000) (by decide) 7 (by decide) (by decide)
            rw [ew1688] at bw1688
            rw [ew1688] at cv1681
            refine WQ_if_ne 123 dX11_readWants_118 rfl (fun c1688 => ?_) (fun c1688 => ?_)
            · refine WP_aload_n dX11_readWants_123 rfl ?_
              refine WP_getr dX11_readWants_124 fX11_123 rfl (ly_is hy 0 11 rfl) (rf hr 0 50 32 (by decide)) ?_
              refine WP_iload_n dX11_readWants_127 rfl ?_
              refine WP_aload_n dX11_readWants_128 rfl ?_
              refine WQ_getim dX11_readWants_129 fX11_56 rfl (ly_is hy 0 11 rfl) ew1688 ?_
              refine WQ_iast dX11_readWants_132 (ly_is hy 32 13 rfl) (ly_n hy 32 28 rfl) (by omega) (by omega) (fun I1690 eI1690 => ?_)
              have hI1690 : MP g n L I1690 := by rw [eI1690]; exact (mp_w hy hI1679 (c := 32) (mi_r hy hI1679.1 (c := 32) (0) (0) (99) (by decide) (Or.inl (by decide)) (by decide) (by omega) (by omega)) (by decide) (by decide) (Or.inl (by decide)))
              have e1691 : I1690 (ad g 0) 15 = v1606 := by rw [eI1690, pp_ne _ _ (Or.inl (ly_ne hy (by decide) (by decide) (by decide)))]; exact e1682
              have e1692 : I1690 (ad g 0) 16 = v1617 := by rw [eI1690, pp_ne _ _ (Or.inl (ly_ne hy (by decide) (by decide) (by decide)))]; exact e1683
              have e1693 : I1690 (ad g 0) 1 = L := by rw [eI1690, pp_ne _ _ (Or.inl (ly_ne hy (by decide) (by decide) (by decide)))]; exact e1684
              have e1694 : I1690 (ad g 0) 4 = w1686 := by rw [eI1690, pp_ne _ _ (Or.inl (ly_ne hy (by decide) (by decide) (by decide)))]; exact ew1686
              have e1695 : I1690 (ad g 0) 2 = w1687 := by rw [eI1690, pp_ne _ _ (Or.inl (ly_ne hy (by decide) (by decide) (by decide)))]; exact ew1687
              have e1696 : I1690 (ad g 0) 7 = w1688 := by rw [eI1690, pp_ne _ _ (Or.inl (ly_ne hy (by decide) (by decide) (by decide)))]; exact ew1688
              clear eI1690
              refine WP_aload_n dX11_readWants_133 rfl ?_
              refine WP_getr dX11_readWants_134 fX11_117 rfl (ly_is hy 0 11 rfl) (rf hr 0 48 30 (by decide)) ?_
              refine WP_iload_n dX11_readWants_137 rfl ?_
              refine WP_iload_n dX11_readWants_138 rfl ?_
              refine WQ_iast dX11_readWants_139 (ly_is hy 30 13 rfl) (ly_n hy 30 28 rfl) (by omega) (by omega) (fun I1697 eI1697 => ?_)
              have hI1697 : MP g n L I1697 := by rw [eI1697]; exact (mp_w hy hI1690 (c := 30) (mi_r hy hI1690.1 (c := 30) (-1) (0) (2) (by decide) (Or.inl (by decide)) (by decide) (by omega) (by omega)) (by decide) (by decide) (Or.inl (by decide)))
              have e1698 : I1697 (ad g 0) 15 = v1606 := by rw [eI1697, pp_ne _ _ (Or.inl (ly_ne hy (by decide) (by decide) (by decide)))]; exact e1691
              have e1699 : I1697 (ad g 0) 16 = v1617 := by rw [eI1697, pp_ne _ _ (Or.inl (ly_ne hy (by decide) (by decide) (by decide)))]; exact e1692
              have e1700 : I1697 (ad g 0) 1 = L := by rw [eI1697, pp_ne _ _ (Or.inl (ly_ne hy (by decide) (by decide) (by decide)))]; exact e1693
              have e1701 : I1697 (ad g 0) 4 = w1686 := by rw [eI1697, pp_ne _ _ (Or.inl (ly_ne hy (by decide) (by decide) (by decide)))]; exact e1694
              have e1702 : I1697 (ad g 0) 2 = w1687 := by rw [eI1697, pp_ne _ _ (Or.inl (ly_ne hy (by decide) (by decide) (by decide)))]; exact e1695
              have e1703 : I1697 (ad g 0) 7 = w1688 := by rw [eI1697, pp_ne _ _ (Or.inl (ly_ne hy (by decide) (by decide) (by decide)))]; exact e1696
              clear eI1697
              refine WQ_iconst (1) (1) dX11_readWants_140 rfl rfl (fun v1704 hv1704 => ?_)
              exact WP_zret dX11_readWants_141 rfl (nar_z (by omega)) ⟨⟨hI1697, rfl, (by rw [e1701, e1702]; omega)⟩, _, rfl, by omega, by omega⟩
            · refine WQ_iconst (0) (0) dX11_readWants_121 rfl rfl (fun v1705 hv1705 => ?_)
              exact WP_zret dX11_readWants_122 rfl (nar_z (by omega)) ⟨⟨hI1679, rfl, (by rw [ew1686, ew1687]; omega)⟩, _, rfl, by omega, by omega⟩
          · refine WQ_iconst (0) (0) dX11_readWants_99 rfl rfl (fun v1706 hv1706 => ?_)
            exact WP_zret dX11_readWants_100 rfl (nar_z (by omega)) ⟨⟨hI1659, rfl, (by rw [ew1666, ew1667]; omega)⟩, _, rfl, by omega, by omega⟩
        · refine WP_aload_n dX11_readWants_80 rfl ?_
          refine WQ_iconst (3) (3) dX11_readWants_81 rfl rfl (fun v1707 hv1707 => ?_)
          refine WP_callV1 (k := 11) dX11_readWants_82 ⟨⟨⟨by decide, by decide⟩, zX11_bad⟩, lX11_49, by decide, rfl, vX11_bad.1, vX11_bad.2⟩ (ly_is hy 0 11 rfl) (sm_bad2 hy hr hI1631 v1707  (by rw [ew1638, ew1639]; omega)) (Nat.le_of_ble_eq_true rfl) ?_
          intro r I1708 J1709 Ra hq
          obtain ⟨⟨hI1708, ec, ⟨pI1708, sI1708_0_15, sI1708_0_16⟩⟩, v1710, rfl, av1710, bv1710⟩ := hq
          show WP _ _ _ _ (.int _ :: _) _ _ _ _
          rw [ec]
          clear ec Ra
          have e1711 : I1708 (ad g 0) 15 = v1606 := by rw [sI1708_0_15]; exact e1634
          have e1712 : I1708 (ad g 0) 16 = v1617 := by rw [sI1708_0_16]; exact e1635
          have e1713 : I1708 (ad g 0) 1 = L := hI1708.1.2
          have b1714 := BT_get hI1708.1.1 0 1 2 (0) (0) (900) (by decide) 1 (by decide) (by decide)
          rw [e1713] at b1714
          obtain ⟨w1715, ew1715⟩ : ∃ w : Int32, I1708 (ad g 0) 4 = w := ⟨_, rfl⟩
          have bw1715 := BT_get hI1708.1.1 0 4 5 (0) (0) (900) (by decide) 4 (by decide) (by decide)
          rw [ew1715] at bw1715
          obtain ⟨w1716, ew1716⟩ : ∃ w : Int32, I1708 (ad g 0) 2 = w := ⟨_, rfl⟩
          have bw1716 := BT_get hI1708.1.1 0 2 3 (0) (0) (900) (by decide) 2 (by decide) (by decide)
          rw [ew1716] at bw1716
          rw [ew1715, ew1716] at pI1708
          exact WP_zret dX11_readWants_85 rfl (nar_z (by omega)) ⟨⟨hI1708, rfl, (by rw [ew1715, ew1716]; omega)⟩, _, rfl, by omega, by omega⟩
      · refine WQ_iconst (0) (0) dX11_readWants_58 rfl rfl (fun v1717 hv1717 => ?_)
        exact WP_zret dX11_readWants_59 rfl (nar_z (by omega)) ⟨⟨hI1631, rfl, (by rw [ew1638, ew1639]; omega)⟩, _, rfl, by omega, by omega⟩
    · refine WQ_iconst (0) (0) dX11_readWants_41 rfl rfl (fun v1718 hv1718 => ?_)
      exact WP_zret dX11_readWants_42 rfl (nar_z (by omega)) ⟨⟨hI1618, rfl, (by rw [ew1625, ew1626]; omega)⟩, _, rfl, by omega, by omega⟩
  · refine WQ_iconst (0) (0) dX11_readWants_19 rfl rfl (fun v1719 hv1719 => ?_)
    exact WP_zret dX11_readWants_20 rfl (nar_z (by omega)) ⟨⟨hI1607, rfl, (by rw [ew1613, ew1614]; omega)⟩, _, rfl, by omega, by omega⟩
set_option maxHeartbeats 4000000 in
set_option maxRecDepth 100000 in
theorem sm_readIlls {g : GG} {n : Int} {L : Int32} (hy : Ly g)  {I : pI} {J : pJ} {R : pR} (hr : Rf g R) (hI : MP g n L I)   (hb : (I (ad g 0) 4).toInt ≤ (I (ad g 0) 2).toInt) : SP g mX11_readIlls [.ref (ad g 0)] I J R (fun r I' J' R' => (MP g n L I' ∧ R' = R ∧ (I' (ad g 0) 4).toInt ≤ (I' (ad g 0) 2).toInt) ∧ ∃ v : Int32, r = some (.int v) ∧ 0 ≤ v.toInt ∧ v.toInt ≤ 1) := by
  refine SP_of ⟨by decide, rfl⟩ (Nat.le_of_ble_eq_true rfl) ?_
  have e1720 : I (ad g 0) 1 = L := hI.1.2
  have b1721 := BT_get hI.1.1 0 1 2 (0) (0) (900) (by decide) 1 (by decide) (by decide)
  rw [e1720] at b1721
  obtain ⟨w1722, ew1722⟩ : ∃ w : Int32, I (ad g 0) 4 = w := ⟨_, rfl⟩
  have bw1722 := BT_get hI.1.1 0 4 5 (0) (0) (900) (by decide) 4 (by decide) (by decide)
  rw [ew1722] at bw1722
  obtain ⟨w1723, ew1723⟩ : ∃ w : Int32, I (ad g 0) 2 = w := ⟨_, rfl⟩
  have bw1723 := BT_get hI.1.1 0 2 3 (0) (0) (900) (by decide) 2 (by decide) (by decide)
  rw [ew1723] at bw1723
  rw [ew1722, ew1723] at hb
  refine WP_aload_n dX11_readIlls_0 rfl ?_
  refine WP_callV0 (k := 11) dX11_readIlls_1 ⟨⟨⟨by decide, by decide⟩, zX11_scan⟩, lX11_63, by decide, rfl, vX11_scan.1, vX11_scan.2⟩ (ly_is hy 0 11 rfl) (sm_scan hy hr hI   (by rw [ew1722, ew1723]; omega)) (Nat.le_of_ble_eq_true rfl) ?_
  intro r I1724 J1725 Ra hq
  obtain ⟨⟨hI1724, ec, ⟨pI1724, sI1724_0_7, sI1724_0_15, sI1724_0_16⟩⟩, rfl⟩ := hq
  rw [ec]
  clear ec Ra
  have e1726 : I1724 (ad g 0) 1 = L := hI1724.1.2
  have b1727 := BT_get hI1724.1.1 0 1 2 (0) (0) (900) (by decide) 1 (by decide) (by decide)
  rw [e1726] at b1727
  obtain ⟨w1728, ew1728⟩ : ∃ w : Int32, I1724 (ad g 0) 4 = w := ⟨_, rfl⟩
  have bw1728 := BT_get hI1724.1.1 0 4 5 (0) (0) (900) (by decide) 4 (by decide) (by decide)
  rw [ew1728] at bw1728
  obtain ⟨w1729, ew1729⟩ : ∃ w : Int32, I1724 (ad g 0) 2 = w := ⟨_, rfl⟩
  have bw1729 := BT_get hI1724.1.1 0 2 3 (0) (0) (900) (by decide) 2 (by decide) (by decide)
  rw [ew1729] at bw1729
  rw [ew1728, ew1729] at pI1724
  refine WP_aload_n dX11_readIlls_4 rfl ?_
  refine WQ_geti dX11_readIlls_5 fX11_27 rfl (ly_is hy 0 11 rfl) (BT_get hI1724.1.1 0 5 6 (0) (0) (4) (by decide) 5 (by decide) (by decide)) (fun v1730 ev1730 av1730 bv1730 => ?_)
  refine WQ_iconst (1) (1) dX11_readIlls_8 rfl rfl (fun v1731 hv1731 => ?_)
  refine WQ_icmp_eq 18 dX11_readIlls_9 rfl (fun c1731 => ?_) (fun c1731 => ?_)
  · refine WP_aload_n dX11_readIlls_18 rfl ?_
    refine WP_aload_n dX11_readIlls_19 rfl ?_
    refine WP_getr dX11_readIlls_20 fX11_91 rfl (ly_is hy 0 11 rfl) (rf hr 0 22 4 (by decide)) ?_
    refine WP_aload_n dX11_readIlls_23 rfl ?_
    refine WQ_geti dX11_readIlls_24 fX11_88 rfl (ly_is hy 0 11 rfl) (BT_get hI1724.1.1 0 15 16 (0) (0) (4) (by decide) 15 (by decide) (by decide)) (fun v1733 ev1733 av1733 bv1733 => ?_)
    refine WP_callV2 (k := 11) dX11_readIlls_27 ⟨⟨⟨by decide, by decide⟩, zX11_find⟩, lX11_71, by decide, rfl, vX11_find.1, vX11_find.2⟩ (ly_is hy 0 11 rfl) (sm_find_4 hy hr hI1724 v1733 (by omega) (by omega)) (Nat.le_of_ble_eq_true rfl) ?_
    intro r Ia Ja Ra hq
    obtain ⟨⟨ea, eb, ec⟩, v1734, rfl, av1734, bv1734, cv1734⟩ := hq
    show WP _ _ _ _ (.int _ :: _) _ _ _ _
    rw [ea, eb, ec]
    clear ea eb ec Ia Ja Ra
    refine WP_istore_n (ls' := [(0, _), (1, _)]) dX11_readIlls_30 (by decide) rfl ?_
    refine WP_iload_n dX11_readIlls_31 rfl ?_
    refine WQ_iconst (-1) (-1) dX11_readIlls_32 rfl rfl (fun v1735 hv1735 => ?_)
    refine WQ_icmp_eq 51 dX11_readIlls_33 rfl (fun c1735 => ?_) (fun c1735 => ?_)
    · refine WP_iload_n dX11_readIlls_51 rfl ?_
      refine WQ_iconst (-1) (-1) dX11_readIlls_52 rfl rfl (fun v1737 hv1737 => ?_)
      refine WQ_icmp_ne 62 dX11_readIlls_53 rfl (fun c1737 => False.elim (by omega)) (fun c1737 => ?_)
      refine WP_aload_n dX11_readIlls_56 rfl ?_
      refine WQ_iconst (5) (5) dX11_readIlls_57 rfl rfl (fun v1739 hv1739 => ?_)
      refine WP_callV1 (k := 11) dX11_readIlls_58 ⟨⟨⟨by decide, by decide⟩, zX11_bad⟩, lX11_49, by decide, rfl, vX11_bad.1, vX11_bad.2⟩ (ly_is hy 0 11 rfl) (sm_bad2 hy hr hI1724 v1739  (by rw [ew1728, ew1729]; omega)) (Nat.le_of_ble_eq_true rfl) ?_
      intro r I1740 J1741 Ra hq
      obtain ⟨⟨hI1740, ec, ⟨pI1740, sI1740_0_15, sI1740_0_16⟩⟩, v1742, rfl, av1742, bv1742⟩ := hq
      show WP _ _ _ _ (.int _ :: _) _ _ _ _
      rw [ec]
      clear ec Ra
      have e1743 : I1740 (ad g 0) 15 = v1733 := by rw [sI1740_0_15]; exact ev1733
      have e1744 : I1740 (ad g 0) 1 = L := hI1740.1.2
      have b1745 := BT_get hI1740.1.1 0 1 2 (0) (0) (900) (by decide) 1 (by decide) (by decide)
      rw [e1744] at b1745
      obtain ⟨w1746, ew1746⟩ : ∃ w : Int32, I1740 (ad g 0) 4 = w := ⟨_, rfl⟩
      have bw1746 := BT_get hI1740.1.1 0 4 5 (0) (0) (900) (by decide) 4 (by decide) (by decide)
      rw [ew1746] at bw1746
      obtain ⟨w1747, ew1747⟩ : ∃ w : Int32, I1740 (ad g 0) 2 = w := ⟨_, rfl⟩
      have bw1747 := BT_get hI1740.1.1 0 2 3 (0) (0) (900) (by decide) 2 (by decide) (by decide)
      rw [ew1747] at bw1747
      rw [ew1746, ew1747] at pI1740
      exact WP_zret dX11_readIlls_61 rfl (nar_z (by omega)) ⟨⟨hI1740, rfl, (by rw [ew1746, ew1747]; omega)⟩, _, rfl, by omega, by omega⟩
    · refine WP_aload_n dX11_readIlls_36 rfl ?_
      refine WP_getr dX11_readIlls_37 fX11_108 rfl (ly_is hy 0 11 rfl) (rf hr 0 35 17 (by decide)) ?_
      refine WP_iload_n dX11_readIlls_40 rfl ?_
      refine WQ_iald dX11_readIlls_41 (ly_is hy 17 13 rfl) (ly_n hy 17 4 rfl) (by omega) (by omega) (fun q hq => BT_get hI1724.1.1 17 0 4 (0) (0) (127) (by decide) q (Nat.zero_le _) hq) (fun v1748 av1748 bv1748 ev1748 => ?_)
      clear ev1748
      refine WQ_if_eq 51 dX11_readIlls_42 rfl (fun c1748 => ?_) (fun c1748 => ?_)
      · refine WP_iload_n dX11_readIlls_51 rfl ?_
        refine WQ_iconst (-1) (-1) dX11_readIlls_52 rfl rfl (fun v1750 hv1750 => ?_)
        refine WQ_icmp_ne 62 dX11_readIlls_53 rfl (fun c1750 => ?_) (fun c1750 => False.elim (by omega))
        refine WP_aload_n dX11_readIlls_62 rfl ?_
        refine WP_callV0 (k := 11) dX11_readIlls_63 ⟨⟨⟨by decide, by decide⟩, zX11_scan⟩, lX11_63, by decide, rfl, vX11_scan.1, vX11_scan.2⟩ (ly_is hy 0 11 rfl) (sm_scan hy hr hI1724   (by rw [ew1728, ew1729]; omega)) (Nat.le_of_ble_eq_true rfl) ?_
        intro r I1752 J1753 Ra hq
        obtain ⟨⟨hI1752, ec, ⟨pI1752, sI1752_0_7, sI1752_0_15, sI1752_0_16⟩⟩, rfl⟩ := hq
        rw [ec]
        clear ec Ra
        have e1754 : I1752 (ad g 0) 15 = v1733 := by rw [sI1752_0_15]; exact ev1733
        have e1755 : I1752 (ad g 0) 1 = L := hI1752.1.2
        have b1756 := BT_get hI1752.1.1 0 1 2 (0) (0) (900) (by decide) 1 (by decide) (by decide)
        rw [e1755] at b1756
        obtain ⟨w1757, ew1757⟩ : ∃ w : Int32, I1752 (ad g 0) 4 = w := ⟨_, rfl⟩
        have bw1757 := BT_get hI1752.1.1 0 4 5 (0) (0) (900) (by decide) 4 (by decide) (by decide)
        rw [ew1757] at bw1757
        obtain ⟨w1758, ew1758⟩ : ∃ w : Int32, I1752 (ad g 0) 2 = w := ⟨_, rfl⟩
        have bw1758 := BT_get hI1752.1.1 0 2 3 (0) (0) (900) (by decide) 2 (by decide) (by decide)
        rw [ew1758] at bw1758
        rw [ew1757, ew1758] at pI1752
        refine WP_aload_n dX11_readIlls_66 rfl ?_
        refine WQ_iconst (1) (1) dX11_readIlls_67 rfl rfl (fun v1759 hv1759 => ?_)
        refine WQ_bipush (127) (127) dX11_readIlls_68 rfl rfl (fun v1760 hv1760 => ?_)
        refine WP_callV2 (k := 11) dX11_readIlls_70 ⟨⟨⟨by decide, by decide⟩, zX11_number⟩, lX11_81, by decide, rfl, vX11_number.1, vX11_number.2⟩ (ly_is hy 0 11 rfl) (sm_number hy hr hI1752 v1759 v1760 (by omega) (by omega) (by omega) (by omega) (by rw [ew1757, ew1758]; omega)) (Nat.le_of_ble_eq_true rfl) ?_
        intro r I1761 J1762 Ra hq
        obtain ⟨⟨hI1761, ec, ⟨pI1761, sI1761_0_15, sI1761_0_16⟩⟩, v1763, rfl, av1763, bv1763, cv1763⟩ := hq
        show WP _ _ _ _ (.int _ :: _) _ _ _ _
        rw [ec]
        clear ec Ra
        have e1764 : I1761 (ad g 0) 15 = v1733 := by rw [sI1761_0_15]; exact e1754
        have e1765 : I1761 (ad g 0) 1 = L := hI1761.1.2
        have b1766 := BT_get hI1761.1.1 0 1 2 (0) (0) (900) (by decide) 1 (by decide) (by decide)
        rw [e1765] at b1766
        obtain ⟨w1767, ew1767⟩ : ∃ w : Int32, I1761 (ad g 0) 4 = w := ⟨_, rfl⟩
        have bw1767 := BT_get hI1761.1.1 0 4 5 (0) (0) (900) (by decide) 4 (by decide) (by decide)
        rw [ew1767] at bw1767
        obtain ⟨w1768, ew1768⟩ : ∃ w : Int32, I1761 (ad g 0) 2 = w := ⟨_, rfl⟩
        have bw1768 := BT_get hI1761.1.1 0 2 3 (0) (0) (900) (by decide) 2 (by decide) (by decide)
        rw [ew1768] at bw1768
        rw [ew1767, ew1768] at pI1761
        obtain ⟨w1769, ew1769⟩ : ∃ w : Int32, I1761 (ad g 0) 7 = w := ⟨_, rfl⟩
        have bw1769 := BT_get hI1761.1.1 0 7 8 (-1) (0) (1000) (by decide) 7 (by decide) (by decide)
        rw [ew1769] at bw1769
        rw [ew1769] at cv1763
        refine WQ_if_ne 78 dX11_readIlls_73 rfl (fun c1769 => ?_) (fun c1769 => ?_)
        · refine WP_aload_n dX11_readIlls_78 rfl ?_
          refine WP_getr dX11_readIlls_79 fX11_108 rfl (ly_is hy 0 11 rfl) (rf hr 0 35 17 (by decide)) ?_
          refine WP_iload_n dX11_readIlls_82 rfl ?_
          refine WP_aload_n dX11_readIlls_83 rfl ?_
          refine WQ_getim dX11_readIlls_84 fX11_56 rfl (ly_is hy 0 11 rfl) ew1769 ?_
          refine WQ_iast dX11_readIlls_87 (ly_is hy 17 13 rfl) (ly_n hy 17 4 rfl) (by omega) (by omega) (fun I1771 eI1771 => ?_)
          have hI1771 : MP g n L I1771 := by rw [eI1771]; exact (mp_w hy hI1761 (c := 17) (mi_r hy hI1761.1 (c := 17) (0) (0) (127) (by decide) (Or.inl (by decide)) (by decide) (by omega) (by omega)) (by decide) (by decide) (Or.inl (by decide)))
          have e1772 : I1771 (ad g 0) 15 = v1733 := by rw [eI1771, pp_ne _ _ (Or.inl (ly_ne hy (by decide) (by decide) (by decide)))]; exact e1764
          have e1773 : I1771 (ad g 0) 1 = L := by rw [eI1771, pp_ne _ _ (Or.inl (ly_ne hy (by decide) (by decide) (by decide)))]; exact e1765
          have e1774 : I1771 (ad g 0) 4 = w1767 := by rw [eI1771, pp_ne _ _ (Or.inl (ly_ne hy (by decide) (by decide) (by decide)))]; exact ew1767
          have e1775 : I1771 (ad g 0) 2 = w1768 := by rw [eI1771, pp_ne _ _ (Or.inl (ly_ne hy (by decide) (by decide) (by decide)))]; exact ew1768
          have e1776 : I1771 (ad g 0) 7 = w1769 := by rw [eI1771, pp_ne _ _ (Or.inl (ly_ne hy (by decide) (by decide) (by decide)))]; exact ew1769
          clear eI1771
          refine WQ_iconst (1) (1) dX11_readIlls_88 rfl rfl (fun v1777 hv1777 => ?_)
          exact WP_zret dX11_readIlls_89 rfl (nar_z (by omega)) ⟨⟨hI1771, rfl, (by rw [e1774, e1775]; omega)⟩, _, rfl, by omega, by omega⟩
        · refine WQ_iconst (0) (0) dX11_readIlls_76 rfl rfl (fun v1778 hv1778 => ?_)
          exact WP_zret dX11_readIlls_77 rfl (nar_z (by omega)) ⟨⟨hI1761, rfl, (by rw [ew1767, ew1768]; omega)⟩, _, rfl, by omega, by omega⟩
      · refine WP_aload_n dX11_readIlls_45 rfl ?_
        refine WQ_iconst (3) (3) dX11_readIlls_46 rfl rfl (fun v1779 hv1779 => ?_)
        refine WP_callV1 (k := 11) dX11_readIlls_47 ⟨⟨⟨by decide, by decide⟩, zX11_bad⟩, lX11_49, by decide, rfl, vX11_bad.1, vX11_bad.2⟩ (ly_is hy 0 11 rfl) (sm_bad2 hy hr hI1724 v1779  (by rw [ew1728, ew1729]; omega)) (Nat.le_of_ble_eq_true rfl) ?_
        intro r I1780 J1781 Ra hq
        obtain ⟨⟨hI1780, ec, ⟨pI1780, sI1780_0_15, sI1780_0_16⟩⟩, v1782, rfl, av1782, bv1782⟩ := hq
        show WP _ _ _ _ (.int _ :: _) _ _ _ _
        rw [ec]
        clear ec Ra
        have e1783 : I1780 (ad g 0) 15 = v1733 := by rw [sI1780_0_15]; exact ev1733
        have e1784 : I1780 (ad g 0) 1 = L := hI1780.1.2
        have b1785 := BT_get hI1780.1.1 0 1 2 (0) (0) (900) (by decide) 1 (by decide) (by decide)
        rw [e1784] at b1785
        obtain ⟨w1786, ew1786⟩ : ∃ w : Int32, I1780 (ad g 0) 4 = w := ⟨_, rfl⟩
        have bw1786 := BT_get hI1780.1.1 0 4 5 (0) (0) (900) (by decide) 4 (by decide) (by decide)
        rw [ew1786] at bw1786
        obtain ⟨w1787, ew1787⟩ : ∃ w : Int32, I1780 (ad g 0) 2 = w := ⟨_, rfl⟩
        have bw1787 := BT_get hI1780.1.1 0 2 3 (0) (0) (900) (by decide) 2 (by decide) (by decide)
        rw [ew1787] at bw1787
        rw [ew1786, ew1787] at pI1780
        exact WP_zret dX11_readIlls_50 rfl (nar_z (by omega)) ⟨⟨hI1780, rfl, (by rw [ew1786, ew1787]; omega)⟩, _, rfl, by omega, by omega⟩
  · refine WP_aload_n dX11_readIlls_12 rfl ?_
    refine WQ_iconst (1) (1) dX11_readIlls_13 rfl rfl (fun v1788 hv1788 => ?_)
    refine WP_callV1 (k := 11) dX11_readIlls_14 ⟨⟨⟨by decide, by decide⟩, zX11_bad⟩, lX11_49, by decide, rfl, vX11_bad.1, vX11_bad.2⟩ (ly_is hy 0 11 rfl) (sm_bad2 hy hr hI1724 v1788  (by rw [ew1728, ew1729]; omega)) (Nat.le_of_ble_eq_true rfl) ?_
    intro r I1789 J1790 Ra hq
    obtain ⟨⟨hI1789, ec, ⟨pI1789, sI1789_0_15, sI1789_0_16⟩⟩, v1791, rfl, av1791, bv1791⟩ := hq
    show WP _ _ _ _ (.int _ :: _) _ _ _ _
    rw [ec]
    clear ec Ra
    have e1792 : I1789 (ad g 0) 1 = L := hI1789.1.2
    have b1793 := BT_get hI1789.1.1 0 1 2 (0) (0) (900) (by decide) 1 (by decide) (by decide)
    rw [e1792] at b1793
    obtain ⟨w1794, ew1794⟩ : ∃ w : Int32, I1789 (ad g 0) 4 = w := ⟨_, rfl⟩
    have bw1794 := BT_get hI1789.1.1 0 4 5 (0) (0) (900) (by decide) 4 (by decide) (by decide)
    rw [ew1794] at bw1794
    obtain ⟨w1795, ew1795⟩ : ∃ w : Int32, I1789 (ad g 0) 2 = w := ⟨_, rfl⟩
    have bw1795 := BT_get hI1789.1.1 0 2 3 (0) (0) (900) (by decide) 2 (by decide) (by decide)
    rw [ew1795] at bw1795
    rw [ew1794, ew1795] at pI1789
    exact WP_zret dX11_readIlls_17 rfl (nar_z (by omega)) ⟨⟨hI1789, rfl, (by rw [ew1794, ew1795]; omega)⟩, _, rfl, by omega, by omega⟩
set_option maxHeartbeats 4000000 in
set_option maxRecDepth 100000 in
theorem sm_open {g : GG} {n : Int} {L : Int32} (hy : Ly g)  {I : pI} {J : pJ} {R : pR} (hr : Rf g R) (hI : MP g n L I)   : SP g mX11_open [.ref (ad g 0)] I J R (fun r I' J' R' => ((∃ L2 : Int32, MP g n L2 I' ∧ L2.toInt = 0) ∧ R' = R ∧ (I' (ad g 0) 4).toInt ≤ (I' (ad g 0) 2).toInt) ∧ r = none) := by
  refine SP_of ⟨by decide, rfl⟩ (Nat.le_of_ble_eq_true rfl) ?_
  have e1796 : I (ad g 0) 1 = L := hI.1.2
  have b1797 := BT_get hI.1.1 0 1 2 (0) (0) (900) (by decide) 1 (by decide) (by decide)
  rw [e1796] at b1797
  refine WP_aload_n dX11_open_0 rfl ?_
  refine WP_aload_n dX11_open_1 rfl ?_
  refine WQ_getim dX11_open_2 fX11_75 rfl (ly_is hy 0 11 rfl) e1796 ?_
  refine WQ_puti dX11_open_5 fX11_13 rfl rfl (ly_is hy 0 11 rfl) (fun I1798 eI1798 => ?_)
  have hI1798 : MP g n L I1798 := by rw [eI1798]; exact (mp_w hy hI (c := 0) (mi_f hy hI.1 (c := 0) (0) (0) (900) (by decide) (Or.inr (by decide)) (by decide) (by omega) (by omega)) (by decide) (by decide) (Or.inr (by decide)))
  have e1799 : I1798 (ad g 0) 1 = L := by rw [eI1798, pp_ne _ _ (Or.inr (by decide))]; exact e1796
  have e1800 : I1798 (ad g 0) 2 = L := by rw [eI1798, pp_self]
  clear eI1798
  refine WP_aload_n dX11_open_8 rfl ?_
  refine WQ_iconst (0) (0) dX11_open_9 rfl rfl (fun v1801 hv1801 => ?_)
  refine WQ_puti dX11_open_10 fX11_75 rfl rfl (ly_is hy 0 11 rfl) (fun I1802 eI1802 => ?_)
  have hI1802 : MP g n v1801 I1802 := by rw [eI1802]; exact (mp_w hy hI1798 (c := 0) (mi_len hy hI1798.1 (by omega) (by omega)) (by decide) (by decide) (Or.inr (by decide)))
  have e1803 : I1802 (ad g 0) 2 = L := by rw [eI1802, pp_ne _ _ (Or.inr (by decide))]; exact e1800
  have e1804 : I1802 (ad g 0) 1 = v1801 := by rw [eI1802, pp_self]
  clear eI1802
  refine WP_aload_n dX11_open_13 rfl ?_
  refine WQ_iconst (0) (0) dX11_open_14 rfl rfl (fun v1805 hv1805 => ?_)
  refine WQ_puti dX11_open_15 fX11_20 rfl rfl (ly_is hy 0 11 rfl) (fun I1806 eI1806 => ?_)
  have hI1806 : MP g n v1801 I1806 := by rw [eI1806]; exact (mp_w hy hI1802 (c := 0) (mi_f hy hI1802.1 (c := 0) (0) (0) (900) (by decide) (Or.inr (by decide)) (by decide) (by omega) (by omega)) (by decide) (by decide) (Or.inr (by decide)))
  have e1807 : I1806 (ad g 0) 2 = L := by rw [eI1806, pp_ne _ _ (Or.inr (by decide))]; exact e1803
  have e1808 : I1806 (ad g 0) 1 = v1801 := by rw [eI1806, pp_ne _ _ (Or.inr (by decide))]; exact e1804
  have e1809 : I1806 (ad g 0) 4 = v1805 := by rw [eI1806, pp_self]
  clear eI1806
  refine WP_aload_n dX11_open_18 rfl ?_
  refine WQ_iconst (0) (0) dX11_open_19 rfl rfl (fun v1810 hv1810 => ?_)
  refine WQ_puti dX11_open_20 fX11_3 rfl rfl (ly_is hy 0 11 rfl) (fun I1811 eI1811 => ?_)
  have hI1811 : MP g n v1801 I1811 := by rw [eI1811]; exact (mp_w hy hI1806 (c := 0) (mi_f0 hy hI1806.1 (c := 0) (by decide) (Or.inr (by decide)) (by decide)) (by decide) (by decide) (Or.inr (by decide)))
  have e1812 : I1811 (ad g 0) 2 = L := by rw [eI1811, pp_ne _ _ (Or.inr (by decide))]; exact e1807
  have e1813 : I1811 (ad g 0) 1 = v1801 := by rw [eI1811, pp_ne _ _ (Or.inr (by decide))]; exact e1808
  have e1814 : I1811 (ad g 0) 4 = v1805 := by rw [eI1811, pp_ne _ _ (Or.inr (by decide))]; exact e1809
  have e1815 : I1811 (ad g 0) 8 = v1810 := by rw [eI1811, pp_self]
  clear eI1811
  refine WP_aload_n dX11_open_23 rfl ?_
  refine WQ_iconst (-1) (-1) dX11_open_24 rfl rfl (fun v1816 hv1816 => ?_)
  refine WQ_puti dX11_open_25 fX11_10 rfl rfl (ly_is hy 0 11 rfl) (fun I1817 eI1817 => ?_)
  have hI1817 : MP g n v1801 I1817 := by rw [eI1817]; exact (mp_w hy hI1811 (c := 0) (mi_f0 hy hI1811.1 (c := 0) (by decide) (Or.inr (by decide)) (by decide)) (by decide) (by decide) (Or.inr (by decide)))
  have e1818 : I1817 (ad g 0) 2 = L := by rw [eI1817, pp_ne _ _ (Or.inr (by decide))]; exact e1812
  have e1819 : I1817 (ad g 0) 1 = v1801 := by rw [eI1817, pp_ne _ _ (Or.inr (by decide))]; exact e1813
  have e1820 : I1817 (ad g 0) 4 = v1805 := by rw [eI1817, pp_ne _ _ (Or.inr (by decide))]; exact e1814
  have e1821 : I1817 (ad g 0) 8 = v1810 := by rw [eI1817, pp_ne _ _ (Or.inr (by decide))]; exact e1815
  have e1822 : I1817 (ad g 0) 9 = v1816 := by rw [eI1817, pp_self]
  clear eI1817
  refine WP_aload_n dX11_open_28 rfl ?_
  refine WP_callV0 (k := 11) dX11_open_29 ⟨⟨⟨by decide, by decide⟩, zX11_scan⟩, lX11_63, by decide, rfl, vX11_scan.1, vX11_scan.2⟩ (ly_is hy 0 11 rfl) (sm_scan hy hr hI1817   (by rw [e1820, e1818]; omega)) (Nat.le_of_ble_eq_true rfl) ?_
  intro r I1823 J1824 Ra hq
  obtain ⟨⟨hI1823, ec, ⟨pI1823, sI1823_0_7, sI1823_0_15, sI1823_0_16⟩⟩, rfl⟩ := hq
  rw [ec]
  clear ec Ra
  have e1825 : I1823 (ad g 0) 1 = v1801 := hI1823.1.2
  have b1826 := BT_get hI1823.1.1 0 1 2 (0) (0) (900) (by decide) 1 (by decide) (by decide)
  rw [e1825] at b1826
  obtain ⟨w1827, ew1827⟩ : ∃ w : Int32, I1823 (ad g 0) 4 = w := ⟨_, rfl⟩
  have bw1827 := BT_get hI1823.1.1 0 4 5 (0) (0) (900) (by decide) 4 (by decide) (by decide)
  rw [ew1827] at bw1827
  obtain ⟨w1828, ew1828⟩ : ∃ w : Int32, I1823 (ad g 0) 2 = w := ⟨_, rfl⟩
  have bw1828 := BT_get hI1823.1.1 0 2 3 (0) (0) (900) (by decide) 2 (by decide) (by decide)
  rw [ew1828] at bw1828
  rw [ew1827, ew1828] at pI1823
  exact WP_vret dX11_open_32 rfl ⟨⟨⟨_, hI1823, by omega⟩, rfl, (by rw [ew1827, ew1828]; omega)⟩, rfl⟩
