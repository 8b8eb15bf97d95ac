set_option maxHeartbeats 4000000 in
set_option maxRecDepth 100000 in
theorem sx_stampAllf {g : GG} {n : Int} {L : Int32} (hy : LyX g)  {I : pI} {J : pJ} {R : pR} (hr : RfX g R) (hI : XI g n L I)   : SP g mX0_stampAll [.ref (ad g 5)] I J R (fun r I' J' R' => (XI g n L I' ∧ R' = R ∧ fz 74 g [24] I I') ∧ r = none) := by
  refine SP_of ⟨by decide, rfl⟩ (Nat.le_of_ble_eq_true rfl) ?_
  have e12393 : I (ad g 1) 1 = L := hI.2
  have b12394 := BT_get hI.1 1 1 2 (0) (0) (900) (by decide) 1 (by decide) (by decide)
  rw [e12393] at b12394
  have fr0 : fz 74 g [24] I I := fz_rf
  refine WQ_iconst (0) (0) dX0_stampAll_0 rfl rfl (fun v12395 hv12395 => ?_)
  refine WP_istore_n (ls' := [(0, _), (1, _)]) dX0_stampAll_1 (by decide) rfl ?_
  have lp2_12398 : ∀ (mz : Nat) (i12396 : Int32) (I12397 : pI) (J12398 : pJ), XI g n L I12397 → fz 74 g [24] I I12397 → 0 ≤ i12396.toInt → i12396.toInt ≤ 7 → (8 - i12396.toInt).toNat < mz → WP g mX0_stampAll 2 [(0, .ref (ad g 5)), (1, .int i12396)] [] I12397 J12398 R (fun r I' J' R' => (XI g n L I' ∧ R' = R ∧ fz 74 g [24] I I') ∧ r = none) := by
    intro mz
    induction mz with
    | zero =>
      intro i12396 I12397 J12398 hI12397 fiI12397 ai12396 bi12396 hmlp2_12398
      exact absurd hmlp2_12398 (Nat.not_lt_zero _)
    | succ mz ihlp2_12398 =>
      intro i12396 I12397 J12398 hI12397 fiI12397 ai12396 bi12396 hmlp2_12398
      have e12400 : I12397 (ad g 1) 1 = L := hI12397.2
      have b12401 := BT_get hI12397.1 1 1 2 (0) (0) (900) (by decide) 1 (by decide) (by decide)
      rw [e12400] at b12401
      refine WP_iload_n dX0_stampAll_2 rfl ?_
      refine WQ_bipush (7) (7) dX0_stampAll_3 rfl rfl (fun v12402 hv12402 => ?_)
      refine WQ_icmp_ge 51 dX0_stampAll_5 rfl (fun c12402 => ?_) (fun c12402 => ?_)
      · exact WP_vret dX0_stampAll_51 rfl ⟨⟨hI12397, rfl, fiI12397⟩, rfl⟩
      · refine WQ_iconst (0) (0) dX0_stampAll_8 rfl rfl (fun v12404 hv12404 => ?_)
        refine WP_istore_n (ls' := [(0, _), (1, _), (2, _)]) dX0_stampAll_9 (by decide) rfl ?_
        have lp10_12407 : ∀ (mz : Nat) (i12405 : Int32) (I12406 : pI) (J12407 : pJ), XI g n L I12406 → fz 74 g [24] I I12406 → 0 ≤ i12405.toInt → i12405.toInt ≤ 61 → (62 - i12405.toInt).toNat < mz → WP g mX0_stampAll 10 [(0, .ref (ad g 5)), (1, .int i12396), (2, .int i12405)] [] I12406 J12407 R (fun r I' J' R' => (XI g n L I' ∧ R' = R ∧ fz 74 g [24] I I') ∧ r = none) := by
          intro mz
          induction mz with
          | zero =>
            intro i12405 I12406 J12407 hI12406 fiI12406 ai12405 bi12405 hmlp10_12407
            exact absurd hmlp10_12407 (Nat.not_lt_zero _)
          | succ mz ihlp10_12407 =>
            intro i12405 I12406 J12407 hI12406 fiI12406 ai12405 bi12405 hmlp10_12407
            have e12409 : I12406 (ad g 1) 1 = L := hI12406.2
            have b12410 := BT_get hI12406.1 1 1 2 (0) (0) (900) (by decide) 1 (by decide) (by decide)
            rw [e12409] at b12410
            refine WP_iload_n dX0_stampAll_10 rfl ?_
            refine WQ_bipush (61) (61) dX0_stampAll_11 rfl rfl (fun v12411 hv12411 => ?_)
            refine WQ_icmp_ge 45 dX0_stampAll_13 rfl (fun c12411 => ?_) (fun c12411 => ?_)
            · refine WP_iinc (ls' := [(0, _), (1, _), (2, _)]) dX0_stampAll_45 rfl (by decide) rfl ?_
              have hv12413 : (i12396 + Int32.ofInt (1)).toInt = i12396.toInt + (1) := ia_n rfl (by omega) (by omega)
              generalize i12396 + Int32.ofInt (1) = v12413 at hv12413 ⊢
              refine WP_goto 2 dX0_stampAll_48 rfl ?_
              exact WP_sub (fc rfl (fc rfl fn)) (ihlp2_12398 v12413 I12406 J12407 hI12406 fiI12406 (by omega) (by omega) (by omega))
            · refine WP_aload_n dX0_stampAll_16 rfl ?_
              refine WP_getr dX0_stampAll_17 fX0_18 rfl (lyx_is hy 5 0 rfl) (rfx hr 5 3 24 (by decide)) ?_
              refine WP_iload_n dX0_stampAll_20 rfl ?_
              refine WQ_bipush (61) (61) dX0_stampAll_21 rfl rfl (fun v12414 hv12414 => ?_)
              refine WQ_imulk (61) dX0_stampAll_23 hv12414 (by omega) (by omega) (fun v12415 hv12415 => ?_)
              refine WP_iload_n dX0_stampAll_24 rfl ?_
              refine WQ_iadd dX0_stampAll_25 (by omega) (by omega) (fun v12416 hv12416 => ?_)
              refine WP_iload_n dX0_stampAll_26 rfl ?_
              refine WP_iload_n dX0_stampAll_27 rfl ?_
              refine WP_aload_n dX0_stampAll_28 rfl ?_
              refine WP_getr dX0_stampAll_29 fX0_15 rfl (lyx_is hy 5 0 rfl) (rfx hr 5 2 23 (by decide)) ?_
              refine WP_iload_n dX0_stampAll_32 rfl ?_
              refine WQ_iald dX0_stampAll_33 (lyx_is hy 23 13 rfl) (lyx_n hy 23 7 rfl) (by omega) (by omega) (fun q hq => BT_get hI12406.1 23 0 7 (0) (0) (900) (by decide) q (Nat.zero_le _) hq) (fun v12417 av12417 bv12417 ev12417 => ?_)
              clear ev12417
              refine WP_callN2 dX0_stampAll_34 ⟨⟨⟨by decide, by decide⟩, zX10_stampsOf⟩, lX0_60, tX10_stampsOf⟩ (sx_stampsOf hy hr hI12406 i12405 v12417 (by omega) (by omega) (by omega) (by omega)) (Nat.le_of_ble_eq_true rfl) ?_
              intro r Ia Ja Ra hq
              obtain ⟨⟨ea, eb, ec⟩, v12418, rfl, av12418, bv12418, cv12418⟩ := hq
              show WP _ _ _ _ (.int _ :: _) _ _ _ _
              rw [ea, eb, ec]
              clear ea eb ec Ia Ja Ra
              refine WQ_isub dX0_stampAll_37 (by omega) (by omega) (fun v12419 hv12419 => ?_)
              refine WQ_iast dX0_stampAll_38 (lyx_is hy 24 13 rfl) (lyx_n hy 24 427 rfl) (by omega) (by omega) (fun I12420 eI12420 => ?_)
              have hI12420 : XI g n L I12420 := by rw [eI12420]; exact (xi_r hy hI12406 (c := 24) (0) (0) (60) (by decide) (Or.inl (by decide)) (by decide) (by omega) (by omega))
              have e12421 : I12420 (ad g 1) 1 = L := by rw [eI12420, pp_ne _ _ (Or.inl (lyx_ne hy (by decide) (by decide) (by decide)))]; exact e12409
              have fr12422 : fz 74 g [24] I I12420 := by rw [eI12420]; exact fzx_pp hy fiI12406 (by decide) (by decide)
              clear eI12420
              refine WP_iinc (ls' := [(0, _), (1, _), (2, _)]) dX0_stampAll_39 rfl (by decide) rfl ?_
              have hv12423 : (i12405 + Int32.ofInt (1)).toInt = i12405.toInt + (1) := ia_n rfl (by omega) (by omega)
              generalize i12405 + Int32.ofInt (1) = v12423 at hv12423 ⊢
              refine WP_goto 10 dX0_stampAll_42 rfl ?_
              exact WP_sub (fc rfl (fc rfl (fc rfl fn))) (ihlp10_12407 v12423 I12420 J12407 hI12420 fr12422 (by omega) (by omega) (by omega))
        exact WP_sub (fc rfl (fc rfl (fc rfl fn))) (lp10_12407 _ v12404 I12397 J12398 hI12397 fiI12397 (by omega) (by omega) (Nat.lt_succ_self _))
  exact WP_sub (fc rfl (fc rfl fn)) (lp2_12398 _ v12395 I J hI fr0 (by omega) (by omega) (Nat.lt_succ_self _))
set_option maxHeartbeats 4000000 in
set_option maxRecDepth 100000 in
theorem sx_buyf {g : GG} {n : Int} {L : Int32} (hy : LyX g)  {I : pI} {J : pJ} {R : pR} (hr : RfX g R) (hI : XI g n L I) (th : Int32) (un : Int32) (pe : Int32) (da : Int32) (th_lo : -1 ≤ th.toInt) (th_hi : th.toInt ≤ 2) (un_lo : 0 ≤ un.toInt) (un_hi : un.toInt ≤ 3) (pe_lo : 0 ≤ pe.toInt) (pe_hi : pe.toInt ≤ 99) (da_lo : 0 ≤ da.toInt) (da_hi : da.toInt ≤ 6) : SP g mX9_buy [.ref (ad g 49), .int th, .int un, .int pe, .int da] I J R (fun r I' J' R' => (XI g n L I' ∧ R' = R ∧ fz 74 g [51, 52] I I') ∧ ∃ v : Int32, r = some (.int v) ∧ 0 ≤ v.toInt ∧ v.toInt ≤ 3 ∧ v.toInt ≤ un.toInt) := by
  refine SP_of ⟨by decide, rfl⟩ (Nat.le_of_ble_eq_true rfl) ?_
  have e12424 : I (ad g 1) 1 = L := hI.2
  have b12425 := BT_get hI.1 1 1 2 (0) (0) (900) (by decide) 1 (by decide) (by decide)
  rw [e12424] at b12425
  have fr0 : fz 74 g [51, 52] I I := fz_rf
  refine WP_iload_n dX9_buy_0 rfl ?_
  refine WQ_iconst (-1) (-1) dX9_buy_1 rfl rfl (fun v12426 hv12426 => ?_)
  refine WQ_icmp_eq 10 dX9_buy_2 rfl (fun c12426 => ?_) (fun c12426 => ?_)
  · refine WQ_iconst (0) (0) dX9_buy_10 rfl rfl (fun v12428 hv12428 => ?_)
    exact WP_iret dX9_buy_11 rfl ⟨⟨hI, rfl, fr0⟩, _, rfl, by omega, by omega, by omega⟩
  · refine WP_iload_n dX9_buy_5 rfl ?_
    refine WQ_iconst (1) (1) dX9_buy_6 rfl rfl (fun v12429 hv12429 => ?_)
    refine WQ_icmp_ge 12 dX9_buy_7 rfl (fun c12429 => ?_) (fun c12429 => ?_)
    · refine WP_iload_n dX9_buy_12 rfl ?_
      refine WP_aload_n dX9_buy_13 rfl ?_
      refine WP_getr dX9_buy_14 fX9_22 rfl (lyx_is hy 49 9 rfl) (rfx hr 49 4 52 (by decide)) ?_
      refine WP_iload_n dX9_buy_17 rfl ?_
      refine WQ_iald dX9_buy_18 (lyx_is hy 52 13 rfl) (lyx_n hy 52 3 rfl) (by omega) (by omega) (fun q hq => BT_get hI.1 52 0 3 (0) (0) (1000000) (by decide) q (Nat.zero_le _) hq) (fun v12431 av12431 bv12431 ev12431 => ?_)
      refine WP_iload_n dX9_buy_19 rfl ?_
      refine WQ_idivb dX9_buy_20 (by omega) (by omega) (fun v12432 pv12432 av12432 bv12432 cv12432 => ?_)
      refine WQ_min dX9_buy_21 lX9_78 ⟨by decide, Nat.le_of_ble_eq_true rfl⟩ (fun v12433 av12433 bv12433 cv12433 => ?_)
      refine WP_istore (ls' := [(0, _), (1, _), (2, _), (3, _), (4, _), (5, _)]) dX9_buy_24 (by decide) rfl ?_
      refine WP_aload_n dX9_buy_26 rfl ?_
      refine WP_getr dX9_buy_27 fX9_22 rfl (lyx_is hy 49 9 rfl) (rfx hr 49 4 52 (by decide)) ?_
      refine WP_iload_n dX9_buy_30 rfl ?_
      refine WP_dup2 dX9_buy_31 rfl rfl ?_
      refine WQ_ialde dX9_buy_32 (lyx_is hy 52 13 rfl) (lyx_n hy 52 3 rfl) (by omega) (by omega) ev12431 ?_
      refine WP_iload dX9_buy_33 rfl ?_
      refine WP_iload_n dX9_buy_35 rfl ?_
      refine WQ_imulb (3) (99) dX9_buy_36 ⟨by omega, by omega⟩ ⟨by omega, by omega⟩ (by decide) (fun v12435 pv12435 av12435 bv12435 cv12435 => ?_)
      have k0 : v12433.toInt * pe.toInt ≤ v12432.toInt * pe.toInt := Int.mul_le_mul_of_nonneg_right (by omega) (by omega)
      refine WQ_isub dX9_buy_37 (by omega) (by omega) (fun v12436 hv12436 => ?_)
      refine WQ_iast dX9_buy_38 (lyx_is hy 52 13 rfl) (lyx_n hy 52 3 rfl) (by omega) (by omega) (fun I12437 eI12437 => ?_)
      have hI12437 : XI g n L I12437 := by rw [eI12437]; exact (xi_r hy hI (c := 52) (0) (0) (1000000) (by decide) (Or.inl (by decide)) (by decide) (by omega) (by omega))
      have e12438 : I12437 (ad g 1) 1 = L := by rw [eI12437, pp_ne _ _ (Or.inl (lyx_ne hy (by decide) (by decide) (by decide)))]; exact e12424
      have fr12439 : fz 74 g [51, 52] I I12437 := by rw [eI12437]; exact fzx_pp hy fr0 (by decide) (by decide)
      clear eI12437
      refine WP_aload_n dX9_buy_39 rfl ?_
      refine WP_getr dX9_buy_40 fX9_18 rfl (lyx_is hy 49 9 rfl) (rfx hr 49 1 51 (by decide)) ?_
      refine WP_iload_n dX9_buy_43 rfl ?_
      refine WQ_bipush (7) (7) dX9_buy_44 rfl rfl (fun v12440 hv12440 => ?_)
      refine WQ_imulk (7) dX9_buy_46 hv12440 (by omega) (by omega) (fun v12441 hv12441 => ?_)
      refine WP_iload dX9_buy_47 rfl ?_
      refine WQ_iadd dX9_buy_49 (by omega) (by omega) (fun v12442 hv12442 => ?_)
      refine WP_dup2 dX9_buy_50 rfl rfl ?_
      refine WQ_ialdu dX9_buy_51 (lyx_is hy 51 13 rfl) (lyx_n hy 51 21 rfl) (by omega) (by omega) (fun v12443 => ?_)
      refine WP_iload dX9_buy_52 rfl ?_
      refine WP_iload_n dX9_buy_54 rfl ?_
      refine WQ_imulb (3) (99) dX9_buy_55 ⟨by omega, by omega⟩ ⟨by omega, by omega⟩ (by decide) (fun v12444 pv12444 av12444 bv12444 cv12444 => ?_)
      refine WQ_iaddu dX9_buy_56 (fun v12445 => ?_)
      refine WQ_iast dX9_buy_57 (lyx_is hy 51 13 rfl) (lyx_n hy 51 21 rfl) (by omega) (by omega) (fun I12446 eI12446 => ?_)
      have hI12446 : XI g n L I12446 := by rw [eI12446]; exact (xi_r0 hy hI12437 (c := 51) (by decide) (Or.inl (by decide)) (by decide))
      have e12447 : I12446 (ad g 1) 1 = L := by rw [eI12446, pp_ne _ _ (Or.inl (lyx_ne hy (by decide) (by decide) (by decide)))]; exact e12438
      have fr12448 : fz 74 g [51, 52] I I12446 := by rw [eI12446]; exact fzx_pp hy fr12439 (by decide) (by decide)
      clear eI12446
      refine WP_iload dX9_buy_58 rfl ?_
      exact WP_iret dX9_buy_60 rfl ⟨⟨hI12446, rfl, fr12448⟩, _, rfl, by omega, by omega, by omega⟩
    · refine WQ_iconst (0) (0) dX9_buy_10 rfl rfl (fun v12449 hv12449 => ?_)
      exact WP_iret dX9_buy_11 rfl ⟨⟨hI, rfl, fr0⟩, _, rfl, by omega, by omega, by omega⟩
set_option maxHeartbeats 4000000 in
set_option maxRecDepth 100000 in
theorem sx_pricex {g : GG} {n : Int} {L : Int32} (hy : LyX g)  {I : pI} {J : pJ} {R : pR} (hr : RfX g R) (hI : XI g n L I) (ea : Int32) (sq : Int32) (ea_lo : 0 ≤ ea.toInt) (ea_hi : ea.toInt ≤ 3) (sq_lo : 0 ≤ sq.toInt) (sq_hi : sq.toInt ≤ 3) : SP g mX6_priceOf [.ref (ad g 50), .int ea, .int sq] I J R (fun r I' J' R' => (I' = I ∧ J' = J ∧ R' = R) ∧ ∃ v : Int32, r = some (.int v) ∧ 0 ≤ v.toInt ∧ v.toInt ≤ 120 ∧ v.toInt = ea.toInt * (I (ad g 50) 3).toInt + sq.toInt * (I (ad g 50) 4).toInt) := by
  refine SP_of ⟨by decide, rfl⟩ (Nat.le_of_ble_eq_true rfl) ?_
  have e12450 : I (ad g 1) 1 = L := hI.2
  have b12451 := BT_get hI.1 1 1 2 (0) (0) (900) (by decide) 1 (by decide) (by decide)
  rw [e12450] at b12451
  refine WP_iload_n dX6_priceOf_0 rfl ?_
  refine WP_aload_n dX6_priceOf_1 rfl ?_
  refine WQ_geti dX6_priceOf_2 fX6_48 rfl (lyx_is hy 50 6 rfl) (BT_get hI.1 50 3 4 (0) (0) (20) (by decide) 3 (by decide) (by decide)) (fun v12452 ev12452 av12452 bv12452 => ?_)
  refine WQ_imulb (3) (20) dX6_priceOf_5 ⟨by omega, by omega⟩ ⟨by omega, by omega⟩ (by decide) (fun v12453 pv12453 av12453 bv12453 cv12453 => ?_)
  refine WP_iload_n dX6_priceOf_6 rfl ?_
  refine WP_aload_n dX6_priceOf_7 rfl ?_
  refine WQ_geti dX6_priceOf_8 fX6_51 rfl (lyx_is hy 50 6 rfl) (BT_get hI.1 50 4 5 (0) (0) (20) (by decide) 4 (by decide) (by decide)) (fun v12454 ev12454 av12454 bv12454 => ?_)
  refine WQ_imulb (3) (20) dX6_priceOf_11 ⟨by omega, by omega⟩ ⟨by omega, by omega⟩ (by decide) (fun v12455 pv12455 av12455 bv12455 cv12455 => ?_)
  refine WQ_iadd dX6_priceOf_12 (by omega) (by omega) (fun v12456 hv12456 => ?_)
  exact WP_iret dX6_priceOf_13 rfl ⟨⟨rfl, rfl, rfl⟩, _, rfl, by omega, by omega, by (try rw [ev12452]; try rw [ev12454]); omega⟩
set_option maxHeartbeats 4000000 in
set_option maxRecDepth 100000 in
theorem sx_becomef_56_53 {g : GG} {n : Int} {L : Int32} (hy : LyX g)  {I : pI} {J : pJ} {R : pR} (hr : RfX g R) (hI : XI g n L I)   : SP g mX4_become [.ref (ad g 56), .ref (ad g 53)] I J R (fun r I' J' R' => (XI g n L I' ∧ R' = R ∧ fz 74 g [56, 57, 58] I I') ∧ r = none) := by
  refine SP_of ⟨by decide, rfl⟩ (Nat.le_of_ble_eq_true rfl) ?_
  have e12457 : I (ad g 1) 1 = L := hI.2
  have b12458 := BT_get hI.1 1 1 2 (0) (0) (900) (by decide) 1 (by decide) (by decide)
  rw [e12457] at b12458
  have fr0 : fz 74 g [56, 57, 58] I I := fz_rf
  refine WP_aload_n dX4_become_0 rfl ?_
  refine WP_aload_n dX4_become_1 rfl ?_
  refine WQ_getiu dX4_become_2 fX4_18 rfl (lyx_is hy 53 4 rfl) (fun v12459 ev12459 => ?_)
  refine WQ_puti dX4_become_5 fX4_18 rfl rfl (lyx_is hy 56 4 rfl) (fun I12460 eI12460 => ?_)
  have hI12460 : XI g n L I12460 := by rw [eI12460]; exact (xi_f0 hy hI (c := 56) (by decide) (Or.inl (by decide)) (by decide))
  have e12461 : I12460 (ad g 1) 1 = L := by rw [eI12460, pp_ne _ _ (Or.inl (lyx_ne hy (by decide) (by decide) (by decide)))]; exact e12457
  have e12462 : I12460 (ad g 53) 0 = v12459 := by rw [eI12460, pp_ne _ _ (Or.inl (lyx_ne hy (by decide) (by decide) (by decide)))]; exact ev12459
  have e12463 : I12460 (ad g 56) 0 = v12459 := by rw [eI12460, pp_self]
  have fr12464 : fz 74 g [56, 57, 58] I I12460 := by rw [eI12460]; exact fzx_pp hy fr0 (by decide) (by decide)
  clear eI12460
  refine WP_aload_n dX4_become_8 rfl ?_
  refine WP_aload_n dX4_become_9 rfl ?_
  refine WQ_geti dX4_become_10 fX4_22 rfl (lyx_is hy 53 4 rfl) (BT_get hI12460.1 53 1 2 (0) (23760) (0) (by decide) 1 (by decide) (by decide)) (fun v12465 ev12465 av12465 bv12465 => ?_)
  refine WQ_puti dX4_become_13 fX4_22 rfl rfl (lyx_is hy 56 4 rfl) (fun I12466 eI12466 => ?_)
  have hI12466 : XI g n L I12466 := by rw [eI12466]; exact (xi_f hy hI12460 (c := 56) (0) (23760) (700000) (by decide) (Or.inl (by decide)) (by decide) (by omega) (by omega))
  have e12467 : I12466 (ad g 1) 1 = L := by rw [eI12466, pp_ne _ _ (Or.inl (lyx_ne hy (by decide) (by decide) (by decide)))]; exact e12461
  have e12468 : I12466 (ad g 53) 0 = v12459 := by rw [eI12466, pp_ne _ _ (Or.inl (lyx_ne hy (by decide) (by decide) (by decide)))]; exact e12462
  have e12469 : I12466 (ad g 56) 0 = v12459 := by rw [eI12466, pp_ne _ _ (Or.inr (by decide))]; exact e12463
  have e12470 : I12466 (ad g 53) 1 = v12465 := by rw [eI12466, pp_ne _ _ (Or.inl (lyx_ne hy (by decide) (by decide) (by decide)))]; exact ev12465
  have e12471 : I12466 (ad g 56) 1 = v12465 := by rw [eI12466, pp_self]
  have fr12472 : fz 74 g [56, 57, 58] I I12466 := by rw [eI12466]; exact fzx_pp hy fr12464 (by decide) (by decide)
  clear eI12466
  refine WP_aload_n dX4_become_16 rfl ?_
  refine WP_aload_n dX4_become_17 rfl ?_
  refine WQ_getiu dX4_become_18 fX4_25 rfl (lyx_is hy 53 4 rfl) (fun v12473 ev12473 => ?_)
  refine WQ_puti dX4_become_21 fX4_25 rfl rfl (lyx_is hy 56 4 rfl) (fun I12474 eI12474 => ?_)
  have hI12474 : XI g n L I12474 := by rw [eI12474]; exact (xi_f0 hy hI12466 (c := 56) (by decide) (Or.inl (by decide)) (by decide))
  have e12475 : I12474 (ad g 1) 1 = L := by rw [eI12474, pp_ne _ _ (Or.inl (lyx_ne hy (by decide) (by decide) (by decide)))]; exact e12467
  have e12476 : I12474 (ad g 53) 0 = v12459 := by rw [eI12474, pp_ne _ _ (Or.inl (lyx_ne hy (by decide) (by decide) (by decide)))]; exact e12468
  have e12477 : I12474 (ad g 56) 0 = v12459 := by rw [eI12474, pp_ne _ _ (Or.inr (by decide))]; exact e12469
  have e12478 : I12474 (ad g 53) 1 = v12465 := by rw [eI12474, pp_ne _ _ (Or.inl (lyx_ne hy (by decide) (by decide) (by decide)))]; exact e12470
  have e12479 : I12474 (ad g 56) 1 = v12465 := by rw [eI12474, pp_ne _ _ (Or.inr (by decide))]; exact e12471
  have e12480 : I12474 (ad g 53) 2 = v12473 := by rw [eI12474, pp_ne _ _ (Or.inl (lyx_ne hy (by decide) (by decide) (by decide)))]; exact ev12473
  have e12481 : I12474 (ad g 56) 2 = v12473 := by rw [eI12474, pp_self]
  have fr12482 : fz 74 g [56, 57, 58] I I12474 := by rw [eI12474]; exact fzx_pp hy fr12472 (by decide) (by decide)
  clear eI12474
  refine WP_aload_n dX4_become_24 rfl ?_
  refine WP_aload_n dX4_become_25 rfl ?_
  refine WQ_getl dX4_become_26 fX4_28 rfl (lyx_is hy 53 4 rfl) (fun l12483 el12483 => ?_)
  refine WQ_putl dX4_become_29 fX4_28 rfl rfl (lyx_is hy 56 4 rfl) (fun J12484 eJ12484 => ?_)
  clear eJ12484
  refine WP_aload_n dX4_become_32 rfl ?_
  refine WP_getr dX4_become_33 fX4_9 rfl (lyx_is hy 53 4 rfl) (rfx hr 53 4 54 (by decide)) ?_
  refine WQ_iconst (0) (0) dX4_become_36 rfl rfl (fun v12485 hv12485 => ?_)
  refine WP_aload_n dX4_become_37 rfl ?_
  refine WP_getr dX4_become_38 fX4_9 rfl (lyx_is hy 56 4 rfl) (rfx hr 56 4 57 (by decide)) ?_
  refine WQ_iconst (0) (0) dX4_become_41 rfl rfl (fun v12486 hv12486 => ?_)
  refine WP_aload_n dX4_become_42 rfl ?_
  refine WP_getr dX4_become_43 fX4_9 rfl (lyx_is hy 56 4 rfl) (rfx hr 56 4 57 (by decide)) ?_
  refine WP_alen dX4_become_46 (lyx_is hy 57 13 rfl) (by decide) ?_
  rw [(lyx_n hy 57 4 rfl)]
  obtain ⟨v12487, hv12487, ev12487⟩ : ∃ v : Int32, v.toInt = 4 ∧ nI 4 = v := ⟨_, nI_toInt (by decide), rfl⟩
  rw [ev12487]; clear ev12487
  refine WQ_copy0 (N := 4) dX4_become_47 lX4_46 ⟨by decide, Nat.le_of_ble_eq_true rfl⟩ (lyx_is hy 54 13 rfl) (lyx_is hy 57 13 rfl) hv12485 hv12486 hv12487 (lyx_n hy 54 4 rfl) (lyx_n hy 57 4 rfl) (fun I12488 fI12488 oI12488 => ?_)
  have hI12488 : XI g n L I12488 := xi_copy hy hI12474 54 57 4 (by decide) (by decide) fI12488 oI12488
  have fr12489 : fz 74 g [56, 57, 58] I I12488 := fzx_cp hy fr12482 oI12488 (by decide) (by decide)
  clear fI12488 oI12488
  have e12490 : I12488 (ad g 1) 1 = L := hI12488.2
  have b12491 := BT_get hI12488.1 1 1 2 (0) (0) (900) (by decide) 1 (by decide) (by decide)
  rw [e12490] at b12491
  refine WP_aload_n dX4_become_50 rfl ?_
  refine WP_getr dX4_become_51 fX4_15 rfl (lyx_is hy 53 4 rfl) (rfx hr 53 5 55 (by decide)) ?_
  refine WQ_iconst (0) (0) dX4_become_54 rfl rfl (fun v12492 hv12492 => ?_)
  refine WP_aload_n dX4_become_55 rfl ?_
  refine WP_getr dX4_become_56 fX4_15 rfl (lyx_is hy 56 4 rfl) (rfx hr 56 5 58 (by decide)) ?_
  refine WQ_iconst (0) (0) dX4_become_59 rfl rfl (fun v12493 hv12493 => ?_)
  refine WP_aload_n dX4_become_60 rfl ?_
  refine WP_getr dX4_become_61 fX4_15 rfl (lyx_is hy 56 4 rfl) (rfx hr 56 5 58 (by decide)) ?_
  refine WP_alen dX4_become_64 (lyx_is hy 58 13 rfl) (by decide) ?_
  rw [(lyx_n hy 58 28 rfl)]
  obtain ⟨v12494, hv12494, ev12494⟩ : ∃ v : Int32, v.toInt = 28 ∧ nI 28 = v := ⟨_, nI_toInt (by decide), rfl⟩
  rw [ev12494]; clear ev12494
  refine WQ_copy0 (N := 28) dX4_become_65 lX4_46 ⟨by decide, Nat.le_of_ble_eq_true rfl⟩ (lyx_is hy 55 13 rfl) (lyx_is hy 58 13 rfl) hv12492 hv12493 hv12494 (lyx_n hy 55 28 rfl) (lyx_n hy 58 28 rfl) (fun I12495 fI12495 oI12495 => ?_)
  have hI12495 : XI g n L I12495 := xi_copy hy hI12488 55 58 28 (by decide) (by decide) fI12495 oI12495
  have fr12496 : fz 74 g [56, 57, 58] I I12495 := fzx_cp hy fr12489 oI12495 (by decide) (by decide)
  clear fI12495 oI12495
  have e12497 : I12495 (ad g 1) 1 = L := hI12495.2
  have b12498 := BT_get hI12495.1 1 1 2 (0) (0) (900) (by decide) 1 (by decide) (by decide)
  rw [e12497] at b12498
  exact WP_vret dX4_become_68 rfl ⟨⟨hI12495, rfl, fr12496⟩, rfl⟩
set_option maxHeartbeats 4000000 in
set_option maxRecDepth 100000 in
theorem sx_lossesAsToldf_6 {g : GG} {n : Int} {L : Int32} (hy : LyX g)  {I : pI} {J : pJ} {R : pR} (hr : RfX g R) (hT : R (ad g 5) 0 = some (ad g 6)) (hI : XI g n L I)   : SP g mX0_lossesAsTold [.ref (ad g 5)] I J R (fun r I' J' R' => (XI g n L I' ∧ R' = R ∧ fz 74 g [23, 24] I I') ∧ r = none) := by
  refine SP_of ⟨by decide, rfl⟩ (Nat.le_of_ble_eq_true rfl) ?_
  have e12499 : I (ad g 1) 1 = L := hI.2
  have b12500 := BT_get hI.1 1 1 2 (0) (0) (900) (by decide) 1 (by decide) (by decide)
  rw [e12499] at b12500
  have fr0 : fz 74 g [23, 24] I I := fz_rf
  refine WP_aload_n dX0_lossesAsTold_0 rfl ?_
  refine WP_getr dX0_lossesAsTold_1 fX0_27 rfl (lyx_is hy 5 0 rfl) hT ?_
  refine WP_getr dX0_lossesAsTold_4 fX0_56 rfl (lyx_is hy 6 7 rfl) (rfx hr 6 5 7 (by decide)) ?_
  refine WQ_iconst (0) (0) dX0_lossesAsTold_7 rfl rfl (fun v12501 hv12501 => ?_)
  refine WP_aload_n dX0_lossesAsTold_8 rfl ?_
  refine WP_getr dX0_lossesAsTold_9 fX0_15 rfl (lyx_is hy 5 0 rfl) (rfx hr 5 2 23 (by decide)) ?_
  refine WQ_iconst (0) (0) dX0_lossesAsTold_12 rfl rfl (fun v12502 hv12502 => ?_)
  refine WQ_bipush (7) (7) dX0_lossesAsTold_13 rfl rfl (fun v12503 hv12503 => ?_)
  refine WQ_copy0 (N := 7) dX0_lossesAsTold_15 lX0_50 ⟨by decide, Nat.le_of_ble_eq_true rfl⟩ (lyx_is hy 7 13 rfl) (lyx_is hy 23 13 rfl) hv12501 hv12502 hv12503 (lyx_n hy 7 7 rfl) (lyx_n hy 23 7 rfl) (fun I12504 fI12504 oI12504 => ?_)
  have hI12504 : XI g n L I12504 := xi_copy hy hI 7 23 7 (by decide) (by decide) fI12504 oI12504
  have fr12505 : fz 74 g [23, 24] I I12504 := fzx_cp hy fr0 oI12504 (by decide) (by decide)
  clear fI12504 oI12504
  have e12506 : I12504 (ad g 1) 1 = L := hI12504.2
  have b12507 := BT_get hI12504.1 1 1 2 (0) (0) (900) (by decide) 1 (by decide) (by decide)
  rw [e12506] at b12507
  refine WP_aload_n dX0_lossesAsTold_18 rfl ?_
  refine WP_callV0 (k := 0) dX0_lossesAsTold_19 ⟨⟨⟨by decide, by decide⟩, zX0_stampAll⟩, lX0_57, by decide, rfl, vX0_stampAll.1, vX0_stampAll.2⟩ (lyx_is hy 5 0 rfl) (sx_stampAllf hy hr hI12504  ) (Nat.le_of_ble_eq_true rfl) ?_
  intro r I12508 J12509 Ra hq
  obtain ⟨⟨hI12508, ec, fiI12508⟩, rfl⟩ := hq
  rw [ec]
  clear ec Ra
  have fr12510 : fz 74 g [23, 24] I I12508 := fz_tr fr12505 (fz_mono fiI12508 (by decide))
  have e12511 : I12508 (ad g 1) 1 = L := hI12508.2
  have b12512 := BT_get hI12508.1 1 1 2 (0) (0) (900) (by decide) 1 (by decide) (by decide)
  rw [e12511] at b12512
  exact WP_vret dX0_lossesAsTold_22 rfl ⟨⟨hI12508, rfl, fr12510⟩, rfl⟩
set_option maxHeartbeats 4000000 in
set_option maxRecDepth 100000 in
theorem sx_lossesAtf_6 {g : GG} {n : Int} {L : Int32} (hy : LyX g)  {I : pI} {J : pJ} {R : pR} (hr : RfX g R) (hT : R (ad g 5) 0 = some (ad g 6)) (hI : XI g n L I) (lo : Int32) (lo_lo : 0 ≤ lo.toInt) (lo_hi : lo.toInt ≤ 900) : SP g mX0_lossesAt [.ref (ad g 5), .int lo] I J R (fun r I' J' R' => (XI g n L I' ∧ R' = R ∧ fz 74 g [23, 24] I I') ∧ r = none) := by
  refine SP_of ⟨by decide, rfl⟩ (Nat.le_of_ble_eq_true rfl) ?_
  have e12513 : I (ad g 1) 1 = L := hI.2
  have b12514 := BT_get hI.1 1 1 2 (0) (0) (900) (by decide) 1 (by decide) (by decide)
  rw [e12513] at b12514
  have fr0 : fz 74 g [23, 24] I I := fz_rf
  refine WQ_iconst (0) (0) dX0_lossesAt_0 rfl rfl (fun v12515 hv12515 => ?_)
  refine WP_istore_n (ls' := [(0, _), (1, _), (2, _)]) dX0_lossesAt_1 (by decide) rfl ?_
  have lp2_12518 : ∀ (mz : Nat) (i12516 : Int32) (I12517 : pI) (J12518 : pJ), XI g n L I12517 → fz 74 g [23, 24] I I12517 → 0 ≤ i12516.toInt → i12516.toInt ≤ 7 → (8 - i12516.toInt).toNat < mz → WP g mX0_lossesAt 2 [(0, .ref (ad g 5)), (1, .int lo), (2, .int i12516)] [] I12517 J12518 R (fun r I' J' R' => (XI g n L I' ∧ R' = R ∧ fz 74 g [23, 24] I I') ∧ r = none) := by
    intro mz
    induction mz with
    | zero =>
      intro i12516 I12517 J12518 hI12517 fiI12517 ai12516 bi12516 hmlp2_12518
      exact absurd hmlp2_12518 (Nat.not_lt_zero _)
    | succ mz ihlp2_12518 =>
      intro i12516 I12517 J12518 hI12517 fiI12517 ai12516 bi12516 hmlp2_12518
      have e12520 : I12517 (ad g 1) 1 = L := hI12517.2
      have b12521 := BT_get hI12517.1 1 1 2 (0) (0) (900) (by decide) 1 (by decide) (by decide)
      rw [e12520] at b12521
      refine WP_iload_n dX0_lossesAt_2 rfl ?_
      refine WQ_bipush (7) (7) dX0_lossesAt_3 rfl rfl (fun v12522 hv12522 => ?_)
      refine WQ_icmp_ge 37 dX0_lossesAt_5 rfl (fun c12522 => ?_) (fun c12522 => ?_)
      · refine WP_aload_n dX0_lossesAt_37 rfl ?_
        refine WP_callV0 (k := 0) dX0_lossesAt_38 ⟨⟨⟨by decide, by decide⟩, zX0_stampAll⟩, lX0_57, by decide, rfl, vX0_stampAll.1, vX0_stampAll.2⟩ (lyx_is hy 5 0 rfl) (sx_stampAllf hy hr hI12517  ) (Nat.le_of_ble_eq_true rfl) ?_
        intro r I12524 J12525 Ra hq
        obtain ⟨⟨hI12524, ec, fiI12524⟩, rfl⟩ := hq
        rw [ec]
        clear ec Ra
        have fr12526 : fz 74 g [23, 24] I I12524 := fz_tr fiI12517 (fz_mono fiI12524 (by decide))
        have e12527 : I12524 (ad g 1) 1 = L := hI12524.2
        have b12528 := BT_get hI12524.1 1 1 2 (0) (0) (900) (by decide) 1 (by decide) (by decide)
        rw [e12527] at b12528
        exact WP_vret dX0_lossesAt_41 rfl ⟨⟨hI12524, rfl, fr12526⟩, rfl⟩
      · refine WP_aload_n dX0_lossesAt_8 rfl ?_
        refine WP_getr dX0_lossesAt_9 fX0_15 rfl (lyx_is hy 5 0 rfl) (rfx hr 5 2 23 (by decide)) ?_
        refine WP_iload_n dX0_lossesAt_12 rfl ?_
        refine WP_aload_n dX0_lossesAt_13 rfl ?_
        refine WP_getr dX0_lossesAt_14 fX0_27 rfl (lyx_is hy 5 0 rfl) hT ?_
        refine WP_getr dX0_lossesAt_17 fX0_56 rfl (lyx_is hy 6 7 rfl) (rfx hr 6 5 7 (by decide)) ?_
        refine WP_iload_n dX0_lossesAt_20 rfl ?_
        refine WQ_iald dX0_lossesAt_21 (lyx_is hy 7 13 rfl) (lyx_n hy 7 7 rfl) (by omega) (by omega) (fun q hq => BT_get hI12517.1 7 0 7 (0) (0) (900) (by decide) q (Nat.zero_le _) hq) (fun v12529 av12529 bv12529 ev12529 => ?_)
        clear ev12529
        have jn30_12531 : ∀ (v12531 : Int32), 0 ≤ v12531.toInt → v12531.toInt ≤ 900 → WP g mX0_lossesAt 30 [(0, .ref (ad g 5)), (1, .int lo), (2, .int i12516)] [.int v12531, .int i12516, .ref (ad g 23)] I12517 J12518 R (fun r I' J' R' => (XI g n L I' ∧ R' = R ∧ fz 74 g [23, 24] I I') ∧ r = none) := by
          intro v12531 av12531 bv12531
          refine WQ_iast dX0_lossesAt_30 (lyx_is hy 23 13 rfl) (lyx_n hy 23 7 rfl) (by omega) (by omega) (fun I12533 eI12533 => ?_)
          have hI12533 : XI g n L I12533 := by rw [eI12533]; exact (xi_r hy hI12517 (c := 23) (0) (0) (900) (by decide) (Or.inl (by decide)) (by decide) (by omega) (by omega))
          have e12534 : I12533 (ad g 1) 1 = L := by rw [eI12533, pp_ne _ _ (Or.inl (lyx_ne hy (by decide) (by decide) (by decide)))]; exact e12520
          have fr12535 : fz 74 g [23, 24] I I12533 := by rw [eI12533]; exact fzx_pp hy fiI12517 (by decide) (by decide)
          clear eI12533
          refine WP_iinc (ls' := [(0, _), (1, _), (2, _)]) dX0_lossesAt_31 rfl (by decide) rfl ?_
          have hv12536 : (i12516 + Int32.ofInt (1)).toInt = i12516.toInt + (1) := ia_n rfl (by omega) (by omega)
          generalize i12516 + Int32.ofInt (1) = v12536 at hv12536 ⊢
          refine WP_goto 2 dX0_lossesAt_34 rfl ?_
          exact WP_sub (fc rfl (fc rfl (fc rfl fn))) (ihlp2_12518 v12536 I12533 J12518 hI12533 fr12535 (by omega) (by omega) (by omega))
        refine WQ_if_le 29 dX0_lossesAt_22 rfl (fun c12536 => ?_) (fun c12536 => ?_)
        · refine WQ_iconst (0) (0) dX0_lossesAt_29 rfl rfl (fun v12538 hv12538 => ?_)
          exact WP_sub (fc rfl (fc rfl (fc rfl fn))) (jn30_12531 v12538 (by omega) (by omega))
        · refine WP_iload_n dX0_lossesAt_25 rfl ?_
          refine WP_goto 30 dX0_lossesAt_26 rfl ?_
          exact WP_sub (fc rfl (fc rfl (fc rfl fn))) (jn30_12531 lo (by omega) (by omega))
  exact WP_sub (fc rfl (fc rfl (fc rfl fn))) (lp2_12518 _ v12515 I J hI fr0 (by omega) (by omega) (Nat.lt_succ_self _))
set_option maxHeartbeats 4000000 in
set_option maxRecDepth 100000 in
theorem sx_movePricesf_6 {g : GG} {n : Int} {L : Int32} (hy : LyX g)  {I : pI} {J : pJ} {R : pR} (hr : RfX g R) (hT : R (ad g 5) 0 = some (ad g 6)) (hI : XI g n L I)   : SP g mX0_movePrices [.ref (ad g 5), .ref (ad g 51)] I J R (fun r I' J' R' => (XI g n L I' ∧ R' = R ∧ fz 74 g [22] I I') ∧ ∃ v : Int32, r = some (.int v) ∧ 0 ≤ v.toInt ∧ v.toInt ≤ 1) := by
  refine SP_of ⟨by decide, rfl⟩ (Nat.le_of_ble_eq_true rfl) ?_
  have e12539 : I (ad g 1) 1 = L := hI.2
  have b12540 := BT_get hI.1 1 1 2 (0) (0) (900) (by decide) 1 (by decide) (by decide)
  rw [e12539] at b12540
  have fr0 : fz 74 g [22] I I := fz_rf
  refine WQ_iconst (0) (0) dX0_movePrices_0 rfl rfl (fun v12541 hv12541 => ?_)
  refine WP_istore_n (ls' := [(0, _), (1, _), (2, _)]) dX0_movePrices_1 (by decide) rfl ?_
  refine WQ_iconst (0) (0) dX0_movePrices_2 rfl rfl (fun v12542 hv12542 => ?_)
  refine WP_istore_n (ls' := [(0, _), (1, _), (2, _), (3, _)]) dX0_movePrices_3 (by decide) rfl ?_
  have lp4_12546 : ∀ (mz : Nat) (i12543 : Int32) (i12544 : Int32) (I12545 : pI) (J12546 : pJ), XI g n L I12545 → fz 74 g [22] I I12545 → 0 ≤ i12543.toInt → i12543.toInt ≤ 1 → 0 ≤ i12544.toInt → i12544.toInt ≤ 21 → (22 - i12544.toInt).toNat < mz → WP g mX0_movePrices 4 [(0, .ref (ad g 5)), (1, .ref (ad g 51)), (2, .int i12543), (3, .int i12544)] [] I12545 J12546 R (fun r I' J' R' => (XI g n L I' ∧ R' = R ∧ fz 74 g [22] I I') ∧ ∃ v : Int32, r = some (.int v) ∧ 0 ≤ v.toInt ∧ v.toInt ≤ 1) := by
    intro mz
    induction mz with
    | zero =>
      intro i12543 i12544 I12545 J12546 hI12545 fiI12545 ai12543 bi12543 ai12544 bi12544 hmlp4_12546
      exact absurd hmlp4_12546 (Nat.not_lt_zero _)
    | succ mz ihlp4_12546 =>
      intro i12543 i12544 I12545 J12546 hI12545 fiI12545 ai12543 bi12543 ai12544 bi12544 hmlp4_12546
      have e12548 : I12545 (ad g 1) 1 = L := hI12545.2
      have b12549 := BT_get hI12545.1 1 1 2 (0) (0) (900) (by decide) 1 (by decide) (by decide)
      rw [e12548] at b12549
      refine WP_iload_n dX0_movePrices_4 rfl ?_
      refine WP_aload_n dX0_movePrices_5 rfl ?_
      refine WP_getr dX0_movePrices_6 fX0_27 rfl (lyx_is hy 5 0 rfl) hT ?_
      refine WQ_geti dX0_movePrices_9 fX0_73 rfl (lyx_is hy 6 7 rfl) (BT_get hI12545.1 6 2 3 (0) (0) (3) (by decide) 2 (by decide) (by decide)) (fun v12550 ev12550 av12550 bv12550 => ?_)
      refine WQ_bipush (7) (7) dX0_movePrices_12 rfl rfl (fun v12551 hv12551 => ?_)
      refine WQ_imulk (7) dX0_movePrices_14 hv12551 (by omega) (by omega) (fun v12552 hv12552 => ?_)
      refine WQ_icmp_ge 111 dX0_movePrices_15 rfl (fun c12552 => ?_) (fun c12552 => ?_)
      · refine WP_iload_n dX0_movePrices_111 rfl ?_
        exact WP_zret dX0_movePrices_112 rfl (nar_z (by omega)) ⟨⟨hI12545, rfl, fiI12545⟩, _, rfl, by omega, by omega⟩
      · refine WP_aload_n dX0_movePrices_18 rfl ?_
        refine WP_getr dX0_movePrices_19 fX0_27 rfl (lyx_is hy 5 0 rfl) hT ?_
        refine WP_getr dX0_movePrices_22 fX0_76 rfl (lyx_is hy 6 7 rfl) (rfx hr 6 17 19 (by decide)) ?_
        refine WP_iload_n dX0_movePrices_25 rfl ?_
        refine WQ_iald dX0_movePrices_26 (lyx_is hy 19 13 rfl) (lyx_n hy 19 21 rfl) (by omega) (by omega) (fun q hq => BT_get hI12545.1 19 0 21 (-1) (0) (999) (by decide) q (Nat.zero_le _) hq) (fun v12554 av12554 bv12554 ev12554 => ?_)
        refine WP_istore (ls' := [(0, _), (1, _), (2, _), (3, _), (4, _)]) dX0_movePrices_27 (by decide) rfl ?_
        refine WP_iload dX0_movePrices_29 rfl ?_
        refine WQ_iconst (-1) (-1) dX0_movePrices_31 rfl rfl (fun v12555 hv12555 => ?_)
        refine WQ_icmp_eq 69 dX0_movePrices_32 rfl (fun c12555 => ?_) (fun c12555 => ?_)
        · refine WP_iload dX0_movePrices_69 rfl ?_
          refine WQ_iconst (-1) (-1) dX0_movePrices_71 rfl rfl (fun v12557 hv12557 => ?_)
          refine WQ_icmp_eq 105 dX0_movePrices_72 rfl (fun c12557 => ?_) (fun c12557 => False.elim (by omega))
          refine WP_iinc (ls' := [(0, _), (1, _), (2, _), (3, _), (4, _)]) dX0_movePrices_105 rfl (by decide) rfl ?_
          have hv12559 : (i12544 + Int32.ofInt (1)).toInt = i12544.toInt + (1) := ia_n rfl (by omega) (by omega)
          generalize i12544 + Int32.ofInt (1) = v12559 at hv12559 ⊢
          refine WP_goto 4 dX0_movePrices_108 rfl ?_
          exact WP_sub (fc rfl (fc rfl (fc rfl (fc rfl fn)))) (ihlp4_12546 i12543 v12559 I12545 J12546 hI12545 fiI12545 (by omega) (by omega) (by omega) (by omega) (by omega))
        · refine WP_aload_n dX0_movePrices_35 rfl ?_
          refine WP_iload_n dX0_movePrices_36 rfl ?_
          refine WQ_ialdu dX0_movePrices_37 (lyx_is hy 51 13 rfl) (lyx_n hy 51 21 rfl) (by omega) (by omega) (fun v12560 => ?_)
          refine WP_iload dX0_movePrices_38 rfl ?_
          refine WQ_icmp_le 69 dX0_movePrices_40 rfl (fun c12560 => ?_) (fun c12560 => ?_)
          · refine WP_iload dX0_movePrices_69 rfl ?_
            refine WQ_iconst (-1) (-1) dX0_movePrices_71 rfl rfl (fun v12562 hv12562 => ?_)
            refine WQ_icmp_eq 105 dX0_movePrices_72 rfl (fun c12562 => False.elim (by omega)) (fun c12562 => ?_)
            refine WP_aload_n dX0_movePrices_75 rfl ?_
            refine WP_iload_n dX0_movePrices_76 rfl ?_
            refine WQ_ialdu dX0_movePrices_77 (lyx_is hy 51 13 rfl) (lyx_n hy 51 21 rfl) (by omega) (by omega) (fun v12564 => ?_)
            refine WP_iload dX0_movePrices_78 rfl ?_
            refine WQ_icmp_ge 105 dX0_movePrices_80 rfl (fun c12564 => ?_) (fun c12564 => ?_)
            · refine WP_iinc (ls' := [(0, _), (1, _), (2, _), (3, _), (4, _)]) dX0_movePrices_105 rfl (by decide) rfl ?_
              have hv12566 : (i12544 + Int32.ofInt (1)).toInt = i12544.toInt + (1) := ia_n rfl (by omega) (by omega)
              generalize i12544 + Int32.ofInt (1) = v12566 at hv12566 ⊢
              refine WP_goto 4 dX0_movePrices_108 rfl ?_
              exact WP_sub (fc rfl (fc rfl (fc rfl (fc rfl fn)))) (ihlp4_12546 i12543 v12566 I12545 J12546 hI12545 fiI12545 (by omega) (by omega) (by omega) (by omega) (by omega))
            · refine WP_aload_n dX0_movePrices_83 rfl ?_
              refine WP_getr dX0_movePrices_84 fX0_9 rfl (lyx_is hy 5 0 rfl) (rfx hr 5 1 22 (by decide)) ?_
              refine WP_iload_n dX0_movePrices_87 rfl ?_
              refine WQ_iald dX0_movePrices_88 (lyx_is hy 22 13 rfl) (lyx_n hy 22 21 rfl) (by omega) (by omega) (fun q hq => BT_get hI12545.1 22 0 21 (0) (0) (20) (by decide) q (Nat.zero_le _) hq) (fun v12567 av12567 bv12567 ev12567 => ?_)
              refine WQ_iconst (1) (1) dX0_movePrices_89 rfl rfl (fun v12568 hv12568 => ?_)
              refine WQ_icmp_le 105 dX0_movePrices_90 rfl (fun c12568 => ?_) (fun c12568 => ?_)
              · refine WP_iinc (ls' := [(0, _), (1, _), (2, _), (3, _), (4, _)]) dX0_movePrices_105 rfl (by decide) rfl ?_
                have hv12570 : (i12544 + Int32.ofInt (1)).toInt = i12544.toInt + (1) := ia_n rfl (by omega) (by omega)
                generalize i12544 + Int32.ofInt (1) = v12570 at hv12570 ⊢
                refine WP_goto 4 dX0_movePrices_108 rfl ?_
                exact WP_sub (fc rfl (fc rfl (fc rfl (fc rfl fn)))) (ihlp4_12546 i12543 v12570 I12545 J12546 hI12545 fiI12545 (by omega) (by omega) (by omega) (by omega) (by omega))
              · refine WP_aload_n dX0_movePrices_93 rfl ?_
                refine WP_getr dX0_movePrices_94 fX0_9 rfl (lyx_is hy 5 0 rfl) (rfx hr 5 1 22 (by decide)) ?_
                refine WP_iload_n dX0_movePrices_97 rfl ?_
                refine WP_dup2 dX0_movePrices_98 rfl rfl ?_
                refine WQ_ialde dX0_movePrices_99 (lyx_is hy 22 13 rfl) (lyx_n hy 22 21 rfl) (by omega) (by omega) ev12567 ?_
                refine WQ_iconst (1) (1) dX0_movePrices_100 rfl rfl (fun v12572 hv12572 => ?_)
                refine WQ_isub dX0_movePrices_101 (by omega) (by omega) (fun v12573 hv12573 => ?_)
                refine WQ_iast dX0_movePrices_102 (lyx_is hy 22 13 rfl) (lyx_n hy 22 21 rfl) (by omega) (by omega) (fun I12574 eI12574 => ?_)
                have hI12574 : XI g n L I12574 := by rw [eI12574]; exact (xi_r hy hI12545 (c := 22) (0) (0) (20) (by decide) (Or.inl (by decide)) (by decide) (by omega) (by omega))
                have e12575 : I12574 (ad g 1) 1 = L := by rw [eI12574, pp_ne _ _ (Or.inl (lyx_ne hy (by decide) (by decide) (by decide)))]; exact e12548
                have e12576 : I12574 (ad g 6) 2 = v12550 := by rw [eI12574, pp_ne _ _ (Or.inl (lyx_ne hy (by decide) (by decide) (by decide)))]; exact ev12550
                have e12577 : I12574 (ad g 19) i12544.toNatClampNeg = v12554 := by rw [eI12574, pp_ne _ _ (Or.inl (lyx_ne hy (by decide) (by decide) (by decide)))]; exact ev12554
                have fr12578 : fz 74 g [22] I I12574 := by rw [eI12574]; exact fzx_pp hy fiI12545 (by decide) (by decide)
                clear eI12574
                refine WQ_iconst (1) (1) dX0_movePrices_103 rfl rfl (fun v12579 hv12579 => ?_)
                refine WP_istore_n (ls' := [(0, _), (1, _), (2, _), (3, _), (4, _)]) dX0_movePrices_104 (by decide) rfl ?_
                refine WP_iinc (ls' := [(0, _), (1, _), (2, _), (3, _), (4, _)]) dX0_movePrices_105 rfl (by decide) rfl ?_
                have hv12580 : (i12544 + Int32.ofInt (1)).toInt = i12544.toInt + (1) := ia_n rfl (by omega) (by omega)
                generalize i12544 + Int32.ofInt (1) = v12580 at hv12580 ⊢
                refine WP_goto 4 dX0_movePrices_108 rfl ?_
                exact WP_sub (fc rfl (fc rfl (fc rfl (fc rfl fn)))) (ihlp4_12546 v12579 v12580 I12574 J12546 hI12574 fr12578 (by omega) (by omega) (by omega) (by omega) (by omega))
          · refine WP_aload_n dX0_movePrices_43 rfl ?_
            refine WP_getr dX0_movePrices_44 fX0_9 rfl (lyx_is hy 5 0 rfl) (rfx hr 5 1 22 (by decide)) ?_
            refine WP_iload_n dX0_movePrices_47 rfl ?_
            refine WQ_iald dX0_movePrices_48 (lyx_is hy 22 13 rfl) (lyx_n hy 22 21 rfl) (by omega) (by omega) (fun q hq => BT_get hI12545.1 22 0 21 (0) (0) (20) (by decide) q (Nat.zero_le _) hq) (fun v12581 av12581 bv12581 ev12581 => ?_)
            refine WQ_bipush (20) (20) dX0_movePrices_49 rfl rfl (fun v12582 hv12582 => ?_)
            refine WQ_icmp_ge 69 dX0_movePrices_51 rfl (fun c12582 => ?_) (fun c12582 => ?_)
            · refine WP_iload dX0_movePrices_69 rfl ?_
              refine WQ_iconst (-1) (-1) dX0_movePrices_71 rfl rfl (fun v12584 hv12584 => ?_)
              refine WQ_icmp_eq 105 dX0_movePrices_72 rfl (fun c12584 => False.elim (by omega)) (fun c12584 => ?_)
              refine WP_aload_n dX0_movePrices_75 rfl ?_
              refine WP_iload_n dX0_movePrices_76 rfl ?_
              refine WQ_ialdu dX0_movePrices_77 (lyx_is hy 51 13 rfl) (lyx_n hy 51 21 rfl) (by omega) (by omega) (fun v12586 => ?_)
              refine WP_iload dX0_movePrices_78 rfl ?_
              refine WQ_icmp_ge 105 dX0_movePrices_80 rfl (fun c12586 => ?_) (fun c12586 => ?_)
              · refine WP_iinc (ls' := [(0, _), (1, _), (2, _), (3, _), (4, _)]) dX0_movePrices_105 rfl (by decide) rfl ?_
                have hv12588 : (i12544 + Int32.ofInt (1)).toInt = i12544.toInt + (1) := ia_n rfl (by omega) (by omega)
                generalize i12544 + Int32.ofInt (1) = v12588 at hv12588 ⊢
                refine WP_goto 4 dX0_movePrices_108 rfl ?_
                exact WP_sub (fc rfl (fc rfl (fc rfl (fc rfl fn)))) (ihlp4_12546 i12543 v12588 I12545 J12546 hI12545 fiI12545 (by omega) (by omega) (by omega) (by omega) (by omega))
              · refine WP_aload_n dX0_movePrices_83 rfl ?_
                refine WP_getr dX0_movePrices_84 fX0_9 rfl (lyx_is hy 5 0 rfl) (rfx hr 5 1 22 (by decide)) ?_
                refine WP_iload_n dX0_movePrices_87 rfl ?_
                refine WQ_ialde dX0_movePrices_88 (lyx_is hy 22 13 rfl) (lyx_n hy 22 21 rfl) (by omega) (by omega) ev12581 ?_
                refine WQ_iconst (1) (1) dX0_movePrices_89 rfl rfl (fun v12590 hv12590 => ?_)
                refine WQ_icmp_le 105 dX0_movePrices_90 rfl (fun c12590 => False.elim (by omega)) (fun c12590 => ?_)
                refine WP_aload_n dX0_movePrices_93 rfl ?_
                refine WP_getr dX0_movePrices_94 fX0_9 rfl (lyx_is hy 5 0 rfl) (rfx hr 5 1 22 (by decide)) ?_
                refine WP_iload_n dX0_movePrices_97 rfl ?_
                refine WP_dup2 dX0_movePrices_98 rfl rfl ?_
                refine WQ_ialde dX0_movePrices_99 (lyx_is hy 22 13 rfl) (lyx_n hy 22 21 rfl) (by omega) (by omega) ev12581 ?_
                refine WQ_iconst (1) (1) dX0_movePrices_100 rfl rfl (fun v12593 hv12593 => ?_)
                refine WQ_isub dX0_movePrices_101 (by omega) (by omega) (fun v12594 hv12594 => ?_)
                refine WQ_iast dX0_movePrices_102 (lyx_is hy 22 13 rfl) (lyx_n hy 22 21 rfl) (by omega) (by omega) (fun I12595 eI12595 => ?_)
                have hI12595 : XI g n L I12595 := by rw [eI12595]; exact (xi_r hy hI12545 (c := 22) (0) (0) (20) (by decide) (Or.inl (by decide)) (by decide) (by omega) (by omega))
                have e12596 : I12595 (ad g 1) 1 = L := by rw [eI12595, pp_ne _ _ (Or.inl (lyx_ne hy (by decide) (by decide) (by decide)))]; exact e12548
                have e12597 : I12595 (ad g 6) 2 = v12550 := by rw [eI12595, pp_ne _ _ (Or.inl (lyx_ne hy (by decide) (by decide) (by decide)))]; exact ev12550
                have e12598 : I12595 (ad g 19) i12544.toNatClampNeg = v12554 := by rw [eI12595, pp_ne _ _ (Or.inl (lyx_ne hy (by decide) (by decide) (by decide)))]; exact ev12554
                have fr12599 : fz 74 g [22] I I12595 := by rw [eI12595]; exact fzx_pp hy fiI12545 (by decide) (by decide)
                clear eI12595
                refine WQ_iconst (1) (1) dX0_movePrices_103 rfl rfl (fun v12600 hv12600 => ?_)
                refine WP_istore_n (ls' := [(0, _), (1, _), (2, _), (3, _), (4, _)]) dX0_movePrices_104 (by decide) rfl ?_
                refine WP_iinc (ls' := [(0, _), (1, _), (2, _), (3, _), (4, _)]) dX0_movePrices_105 rfl (by decide) rfl ?_
                have hv12601 : (i12544 + Int32.ofInt (1)).toInt = i12544.toInt + (1) := ia_n rfl (by omega) (by omega)
                generalize i12544 + Int32.ofInt (1) = v12601 at hv12601 ⊢
                refine WP_goto 4 dX0_movePrices_108 rfl ?_
                exact WP_sub (fc rfl (fc rfl (fc rfl (fc rfl fn)))) (ihlp4_12546 v12600 v12601 I12595 J12546 hI12595 fr12599 (by omega) (by omega) (by omega) (by omega) (by omega))
            · refine WP_aload_n dX0_movePrices_54 rfl ?_
              refine WP_getr dX0_movePrices_55 fX0_9 rfl (lyx_is hy 5 0 rfl) (rfx hr 5 1 22 (by decide)) ?_
              refine WP_iload_n dX0_movePrices_58 rfl ?_
              refine WP_dup2 dX0_movePrices_59 rfl rfl ?_
              refine WQ_ialde dX0_movePrices_60 (lyx_is hy 22 13 rfl) (lyx_n hy 22 21 rfl) (by omega) (by omega) ev12581 ?_
              refine WQ_iconst (1) (1) dX0_movePrices_61 rfl rfl (fun v12603 hv12603 => ?_)
              refine WQ_iadd dX0_movePrices_62 (by omega) (by omega) (fun v12604 hv12604 => ?_)
              refine WQ_iast dX0_movePrices_63 (lyx_is hy 22 13 rfl) (lyx_n hy 22 21 rfl) (by omega) (by omega) (fun I12605 eI12605 => ?_)
              have hI12605 : XI g n L I12605 := by rw [eI12605]; exact (xi_r hy hI12545 (c := 22) (0) (0) (20) (by decide) (Or.inl (by decide)) (by decide) (by omega) (by omega))
              have e12606 : I12605 (ad g 1) 1 = L := by rw [eI12605, pp_ne _ _ (Or.inl (lyx_ne hy (by decide) (by decide) (by decide)))]; exact e12548
              have e12607 : I12605 (ad g 6) 2 = v12550 := by rw [eI12605, pp_ne _ _ (Or.inl (lyx_ne hy (by decide) (by decide) (by decide)))]; exact ev12550
              have e12608 : I12605 (ad g 19) i12544.toNatClampNeg = v12554 := by rw [eI12605, pp_ne _ _ (Or.inl (lyx_ne hy (by decide) (by decide) (by decide)))]; exact ev12554
              have fr12609 : fz 74 g [22] I I12605 := by rw [eI12605]; exact fzx_pp hy fiI12545 (by decide) (by decide)
              clear eI12605
              refine WQ_iconst (1) (1) dX0_movePrices_64 rfl rfl (fun v12610 hv12610 => ?_)
              refine WP_istore_n (ls' := [(0, _), (1, _), (2, _), (3, _), (4, _)]) dX0_movePrices_65 (by decide) rfl ?_
              refine WP_goto 105 dX0_movePrices_66 rfl ?_
              refine WP_iinc (ls' := [(0, _), (1, _), (2, _), (3, _), (4, _)]) dX0_movePrices_105 rfl (by decide) rfl ?_
              have hv12611 : (i12544 + Int32.ofInt (1)).toInt = i12544.toInt + (1) := ia_n rfl (by omega) (by omega)
              generalize i12544 + Int32.ofInt (1) = v12611 at hv12611 ⊢
              refine WP_goto 4 dX0_movePrices_108 rfl ?_
              exact WP_sub (fc rfl (fc rfl (fc rfl (fc rfl fn)))) (ihlp4_12546 v12610 v12611 I12605 J12546 hI12605 fr12609 (by omega) (by omega) (by omega) (by omega) (by omega))
  exact WP_sub (fc rfl (fc rfl (fc rfl (fc rfl fn)))) (lp4_12546 _ v12541 v12542 I J hI fr0 (by omega) (by omega) (by omega) (by omega) (Nat.lt_succ_self _))
set_option maxHeartbeats 4000000 in
set_option maxRecDepth 100000 in
theorem sx_beginf_56_6 {g : GG} {n : Int} {L : Int32} (hy : LyX g)  {I : pI} {J : pJ} {R : pR} (hr : RfX g R) (hI : XI g n L I)   (hn : 0 ≤ n) : SP g mX4_begin [.ref (ad g 56), .ref (ad g 6)] I J R (fun r I' J' R' => (XI g n L I' ∧ R' = R ∧ fz 74 g [56, 58] I I' ∧ (I' (ad g 56) 1).toInt = 0) ∧ r = none) := by
  refine SP_of ⟨by decide, rfl⟩ (Nat.le_of_ble_eq_true rfl) ?_
  have e12612 : I (ad g 1) 1 = L := hI.2
  have b12613 := BT_get hI.1 1 1 2 (0) (0) (900) (by decide) 1 (by decide) (by decide)
  rw [e12612] at b12613
  have fr0 : fz 74 g [56, 58] I I := fz_rf
  refine WP_aload_n dX4_begin_0 rfl ?_
  refine WQ_iconst (0) (0) dX4_begin_1 rfl rfl (fun v12614 hv12614 => ?_)
  refine WQ_puti dX4_begin_2 fX4_18 rfl rfl (lyx_is hy 56 4 rfl) (fun I12615 eI12615 => ?_)
  have hI12615 : XI g n L I12615 := by rw [eI12615]; exact (xi_f0 hy hI (c := 56) (by decide) (Or.inl (by decide)) (by decide))
  have e12616 : I12615 (ad g 1) 1 = L := by rw [eI12615, pp_ne _ _ (Or.inl (lyx_ne hy (by decide) (by decide) (by decide)))]; exact e12612
  have e12617 : I12615 (ad g 56) 0 = v12614 := by rw [eI12615, pp_self]
  have fr12618 : fz 74 g [56, 58] I I12615 := by rw [eI12615]; exact fzx_pp hy fr0 (by decide) (by decide)
  clear eI12615
  refine WP_aload_n dX4_begin_5 rfl ?_
  refine WQ_iconst (0) (0) dX4_begin_6 rfl rfl (fun v12619 hv12619 => ?_)
  refine WQ_puti dX4_begin_7 fX4_22 rfl rfl (lyx_is hy 56 4 rfl) (fun I12620 eI12620 => ?_)
  have hI12620 : XI g n L I12620 := by rw [eI12620]; exact (xi_f hy hI12615 (c := 56) (0) (23760) (700000) (by decide) (Or.inl (by decide)) (by decide) (by omega) (by omega))
  have e12621 : I12620 (ad g 1) 1 = L := by rw [eI12620, pp_ne _ _ (Or.inl (lyx_ne hy (by decide) (by decide) (by decide)))]; exact e12616
  have e12622 : I12620 (ad g 56) 0 = v12614 := by rw [eI12620, pp_ne _ _ (Or.inr (by decide))]; exact e12617
  have e12623 : I12620 (ad g 56) 1 = v12619 := by rw [eI12620, pp_self]
  have fr12624 : fz 74 g [56, 58] I I12620 := by rw [eI12620]; exact fzx_pp hy fr12618 (by decide) (by decide)
  clear eI12620
  refine WP_aload_n dX4_begin_10 rfl ?_
  refine WQ_iconst (0) (0) dX4_begin_11 rfl rfl (fun v12625 hv12625 => ?_)
  refine WQ_puti dX4_begin_12 fX4_25 rfl rfl (lyx_is hy 56 4 rfl) (fun I12626 eI12626 => ?_)
  have hI12626 : XI g n L I12626 := by rw [eI12626]; exact (xi_f0 hy hI12620 (c := 56) (by decide) (Or.inl (by decide)) (by decide))
  have e12627 : I12626 (ad g 1) 1 = L := by rw [eI12626, pp_ne _ _ (Or.inl (lyx_ne hy (by decide) (by decide) (by decide)))]; exact e12621
  have e12628 : I12626 (ad g 56) 0 = v12614 := by rw [eI12626, pp_ne _ _ (Or.inr (by decide))]; exact e12622
  have e12629 : I12626 (ad g 56) 1 = v12619 := by rw [eI12626, pp_ne _ _ (Or.inr (by decide))]; exact e12623
  have e12630 : I12626 (ad g 56) 2 = v12625 := by rw [eI12626, pp_self]
  have fr12631 : fz 74 g [56, 58] I I12626 := by rw [eI12626]; exact fzx_pp hy fr12624 (by decide) (by decide)
  clear eI12626
  refine WP_aload_n dX4_begin_15 rfl ?_
  refine WP_lconst (0) dX4_begin_16 rfl ?_
  obtain ⟨l12632, hl12632, el12632⟩ : ∃ v : Int64, v.toInt = 0 ∧ (0 : Int64) = v := ⟨_, rfl, rfl⟩
  rw [el12632]; clear el12632
  refine WQ_putl dX4_begin_17 fX4_28 rfl rfl (lyx_is hy 56 4 rfl) (fun J12633 eJ12633 => ?_)
  clear eJ12633
  refine WP_aload_n dX4_begin_20 rfl ?_
  refine WP_getr dX4_begin_21 fX4_15 rfl (lyx_is hy 56 4 rfl) (rfx hr 56 5 58 (by decide)) ?_
  refine WQ_iconst (0) (0) dX4_begin_24 rfl rfl (fun v12634 hv12634 => ?_)
  refine WP_callS2u dX4_begin_25 ⟨⟨⟨by decide, by decide⟩, zJ7_fill_53178⟩, lX4_32, tJ7_fill_53178⟩ (s_fill hy hr 58 28 rfl rfl (by decide) v12634) (Nat.le_of_ble_eq_true rfl) ?_
  obtain ⟨I12635, eI12635⟩ : ∃ I9 : pI, I9 = fi I12626 (ad g 58) 28 v12634 := ⟨_, rfl⟩
  rw [← eI12635]
  have hI12635 : XI g n L I12635 := by rw [eI12635]; exact (fa_fill hy hI12626 (c := 58) 28 (by decide) hv12634)
  have e12636 : I12635 (ad g 1) 1 = L := by rw [eI12635, fi_off (lyx_ne hy (by decide) (by decide) (by decide))]; exact e12627
  have e12637 : I12635 (ad g 56) 0 = v12614 := by rw [eI12635, fi_off (lyx_ne hy (by decide) (by decide) (by decide))]; exact e12628
  have e12638 : I12635 (ad g 56) 1 = v12619 := by rw [eI12635, fi_off (lyx_ne hy (by decide) (by decide) (by decide))]; exact e12629
  have e12639 : I12635 (ad g 56) 2 = v12625 := by rw [eI12635, fi_off (lyx_ne hy (by decide) (by decide) (by decide))]; exact e12630
  have fr12640 : fz 74 g [56, 58] I I12635 := by rw [eI12635]; exact fzx_fi hy fr12631 (by decide) (by decide)
  clear eI12635
  refine WQ_iconst (0) (0) dX4_begin_28 rfl rfl (fun v12641 hv12641 => ?_)
  refine WP_istore_n (ls' := [(0, _), (1, _), (2, _)]) dX4_begin_29 (by decide) rfl ?_
  have lp30_12645 : ∀ (mz : Nat) (i12642 : Int32) (I12643 : pI) (J12644 : pJ), XI g n L I12643 → fz 74 g [56, 58] I I12643 → ∀ (w12645 : Int32), I12643 (ad g 56) 1 = w12645 → 0 ≤ i12642.toInt → i12642.toInt ≤ 4 → w12645.toInt = 0 → (5 - i12642.toInt).toNat < mz → WP g mX4_begin 30 [(0, .ref (ad g 56)), (1, .ref (ad g 6)), (2, .int i12642)] [] I12643 J12644 R (fun r I' J' R' => (XI g n L I' ∧ R' = R ∧ fz 74 g [56, 58] I I' ∧ (I' (ad g 56) 1).toInt = 0) ∧ r = none) := by
    intro mz
    induction mz with
    | zero =>
      intro i12642 I12643 J12644 hI12643 fiI12643 w12645 ew12645 ai12642 bi12642 j0_I12643 hmlp30_12645
      exact absurd hmlp30_12645 (Nat.not_lt_zero _)
    | succ mz ihlp30_12645 =>
      intro i12642 I12643 J12644 hI12643 fiI12643 w12645 ew12645 ai12642 bi12642 j0_I12643 hmlp30_12645
      have bw12645 := BT_get hI12643.1 56 1 2 (0) (23760) (700000) (by decide) 1 (by decide) (by decide)
      rw [ew12645] at bw12645
      have e12647 : I12643 (ad g 1) 1 = L := hI12643.2
      have b12648 := BT_get hI12643.1 1 1 2 (0) (0) (900) (by decide) 1 (by decide) (by decide)
      rw [e12647] at b12648
      refine WP_iload_n dX4_begin_30 rfl ?_
      refine WP_aload_n dX4_begin_31 rfl ?_
      refine WQ_geti dX4_begin_32 fX4_38 rfl (lyx_is hy 6 7 rfl) (BT_get hI12643.1 6 1 2 (0) (0) (4) (by decide) 1 (by decide) (by decide)) (fun v12649 ev12649 av12649 bv12649 => ?_)
      refine WQ_icmp_ge 61 dX4_begin_35 rfl (fun c12649 => ?_) (fun c12649 => ?_)
      · exact WP_vret dX4_begin_61 rfl ⟨⟨hI12643, rfl, fiI12643, (by rw [ew12645]; omega)⟩, rfl⟩
      · refine WP_aload_n dX4_begin_38 rfl ?_
        refine WP_getr dX4_begin_39 fX4_15 rfl (lyx_is hy 56 4 rfl) (rfx hr 56 5 58 (by decide)) ?_
        refine WP_iload_n dX4_begin_42 rfl ?_
        refine WQ_bipush (7) (7) dX4_begin_43 rfl rfl (fun v12651 hv12651 => ?_)
        refine WQ_imulk (7) dX4_begin_45 hv12651 (by omega) (by omega) (fun v12652 hv12652 => ?_)
        refine WQ_iconst (0) (0) dX4_begin_46 rfl rfl (fun v12653 hv12653 => ?_)
        refine WQ_iadd dX4_begin_47 (by omega) (by omega) (fun v12654 hv12654 => ?_)
        refine WP_aload_n dX4_begin_48 rfl ?_
        refine WP_getr dX4_begin_49 fX4_43 rfl (lyx_is hy 6 7 rfl) (rfx hr 6 8 10 (by decide)) ?_
        refine WP_iload_n dX4_begin_52 rfl ?_
        refine WQ_iald dX4_begin_53 (lyx_is hy 10 13 rfl) (lyx_n hy 10 4 rfl) (by omega) (by omega) (fun q hq => BT_get hI12643.1 10 0 4 (0) (0) (60) (by decide) q (Nat.zero_le _) hq) (fun v12655 av12655 bv12655 ev12655 => ?_)
        clear ev12655
        refine WQ_iast dX4_begin_54 (lyx_is hy 58 13 rfl) (lyx_n hy 58 28 rfl) (by omega) (by omega) (fun I12656 eI12656 => ?_)
        have hI12656 : XI g n L I12656 := by rw [eI12656]; exact (fa_put hy hI12643 (c := 58) (k := 0) (s := i12642.toInt.toNat) (by decide) (by omega) (by decide) (by rw [cl (n := 7 * i12642.toInt.toNat + 0) (by omega)]) (fun _ => by omega) (fun _ => by omega))
        have e12657 : I12656 (ad g 56) 1 = w12645 := by rw [eI12656, pp_ne _ _ (Or.inl (lyx_ne hy (by decide) (by decide) (by decide)))]; exact ew12645
        have e12658 : I12656 (ad g 1) 1 = L := by rw [eI12656, pp_ne _ _ (Or.inl (lyx_ne hy (by decide) (by decide) (by decide)))]; exact e12647
        have e12659 : I12656 (ad g 6) 1 = v12649 := by rw [eI12656, pp_ne _ _ (Or.inl (lyx_ne hy (by decide) (by decide) (by decide)))]; exact ev12649
        have fr12660 : fz 74 g [56, 58] I I12656 := by rw [eI12656]; exact fzx_pp hy fiI12643 (by decide) (by decide)
        clear eI12656
        refine WP_iinc (ls' := [(0, _), (1, _), (2, _)]) dX4_begin_55 rfl (by decide) rfl ?_
        have hv12661 : (i12642 + Int32.ofInt (1)).toInt = i12642.toInt + (1) := ia_n rfl (by omega) (by omega)
        generalize i12642 + Int32.ofInt (1) = v12661 at hv12661 ⊢
        refine WP_goto 30 dX4_begin_58 rfl ?_
        exact WP_sub (fc rfl (fc rfl (fc rfl fn))) (ihlp30_12645 v12661 I12656 J12644 hI12656 fr12660 w12645 e12657 (by omega) (by omega) (by omega) (by omega))
  exact WP_sub (fc rfl (fc rfl (fc rfl fn))) (lp30_12645 _ v12641 I12635 J12633 hI12635 fr12640 v12619 e12638 (by omega) (by omega) (by omega) (Nat.lt_succ_self _))
set_option maxHeartbeats 4000000 in
set_option maxRecDepth 100000 in
theorem sx_lossesAsToldf_27 {g : GG} {n : Int} {L : Int32} (hy : LyX g)  {I : pI} {J : pJ} {R : pR} (hr : RfX g R) (hT : R (ad g 5) 0 = some (ad g 27)) (hI : XI g n L I)   : SP g mX0_lossesAsTold [.ref (ad g 5)] I J R (fun r I' J' R' => (XI g n L I' ∧ R' = R ∧ fz 74 g [23, 24] I I') ∧ r = none) := by
  refine SP_of ⟨by decide, rfl⟩ (Nat.le_of_ble_eq_true rfl) ?_
  have e12662 : I (ad g 1) 1 = L := hI.2
  have b12663 := BT_get hI.1 1 1 2 (0) (0) (900) (by decide) 1 (by decide) (by decide)
  rw [e12662] at b12663
  have fr0 : fz 74 g [23, 24] I I := fz_rf
  refine WP_aload_n dX0_lossesAsTold_0 rfl ?_
  refine WP_getr dX0_lossesAsTold_1 fX0_27 rfl (lyx_is hy 5 0 rfl) hT ?_
  refine WP_getr dX0_lossesAsTold_4 fX0_56 rfl (lyx_is hy 27 7 rfl) (rfx hr 27 5 28 (by decide)) ?_
  refine WQ_iconst (0) (0) dX0_lossesAsTold_7 rfl rfl (fun v12664 hv12664 => ?_)
  refine WP_aload_n dX0_lossesAsTold_8 rfl ?_
  refine WP_getr dX0_lossesAsTold_9 fX0_15 rfl (lyx_is hy 5 0 rfl) (rfx hr 5 2 23 (by decide)) ?_
  refine WQ_iconst (0) (0) dX0_lossesAsTold_12 rfl rfl (fun v12665 hv12665 => ?_)
  refine WQ_bipush (7) (7) dX0_lossesAsTold_13 rfl rfl (fun v12666 hv12666 => ?_)
  refine WQ_copy0 (N := 7) dX0_lossesAsTold_15 lX0_50 ⟨by decide, Nat.le_of_ble_eq_true rfl⟩ (lyx_is hy 28 13 rfl) (lyx_is hy 23 13 rfl) hv12664 hv12665 hv12666 (lyx_n hy 28 7 rfl) (lyx_n hy 23 7 rfl) (fun I12667 fI12667 oI12667 => ?_)
  have hI12667 : XI g n L I12667 := xi_copy hy hI 28 23 7 (by decide) (by decide) fI12667 oI12667
  have fr12668 : fz 74 g [23, 24] I I12667 := fzx_cp hy fr0 oI12667 (by decide) (by decide)
  clear fI12667 oI12667
  have e12669 : I12667 (ad g 1) 1 = L := hI12667.2
  have b12670 := BT_get hI12667.1 1 1 2 (0) (0) (900) (by decide) 1 (by decide) (by decide)
  rw [e12669] at b12670
  refine WP_aload_n dX0_lossesAsTold_18 rfl ?_
  refine WP_callV0 (k := 0) dX0_lossesAsTold_19 ⟨⟨⟨by decide, by decide⟩, zX0_stampAll⟩, lX0_57, by decide, rfl, vX0_stampAll.1, vX0_stampAll.2⟩ (lyx_is hy 5 0 rfl) (sx_stampAllf hy hr hI12667  ) (Nat.le_of_ble_eq_true rfl) ?_
  intro r I12671 J12672 Ra hq
  obtain ⟨⟨hI12671, ec, fiI12671⟩, rfl⟩ := hq
  rw [ec]
  clear ec Ra
  have fr12673 : fz 74 g [23, 24] I I12671 := fz_tr fr12668 (fz_mono fiI12671 (by decide))
  have e12674 : I12671 (ad g 1) 1 = L := hI12671.2
  have b12675 := BT_get hI12671.1 1 1 2 (0) (0) (900) (by decide) 1 (by decide) (by decide)
  rw [e12674] at b12675
  exact WP_vret dX0_lossesAsTold_22 rfl ⟨⟨hI12671, rfl, fr12673⟩, rfl⟩
set_option maxHeartbeats 4000000 in
set_option maxRecDepth 100000 in
theorem sx_lossesAtf_27 {g : GG} {n : Int} {L : Int32} (hy : LyX g)  {I : pI} {J : pJ} {R : pR} (hr : RfX g R) (hT : R (ad g 5) 0 = some (ad g 27)) (hI : XI g n L I) (lo : Int32) (lo_lo : 0 ≤ lo.toInt) (lo_hi : lo.toInt ≤ 900) : SP g mX0_lossesAt [.ref (ad g 5), .int lo] I J R (fun r I' J' R' => (XI g n L I' ∧ R' = R ∧ fz 74 g [23, 24] I I') ∧ r = none) := by
  refine SP_of ⟨by decide, rfl⟩ (Nat.le_of_ble_eq_true rfl) ?_
  have e12676 : I (ad g 1) 1 = L := hI.2
  have b12677 := BT_get hI.1 1 1 2 (0) (0) (900) (by decide) 1 (by decide) (by decide)
  rw [e12676] at b12677
  have fr0 : fz 74 g [23, 24] I I := fz_rf
  refine WQ_iconst (0) (0) dX0_lossesAt_0 rfl rfl (fun v12678 hv12678 => ?_)
  refine WP_istore_n (ls' := [(0, _), (1, _), (2, _)]) dX0_lossesAt_1 (by decide) rfl ?_
  have lp2_12681 : ∀ (mz : Nat) (i12679 : Int32) (I12680 : pI) (J12681 : pJ), XI g n L I12680 → fz 74 g [23, 24] I I12680 → 0 ≤ i12679.toInt → i12679.toInt ≤ 7 → (8 - i12679.toInt).toNat < mz → WP g mX0_lossesAt 2 [(0, .ref (ad g 5)), (1, .int lo), (2, .int i12679)] [] I12680 J12681 R (fun r I' J' R' => (XI g n L I' ∧ R' = R ∧ fz 74 g [23, 24] I I') ∧ r = none) := by
    intro mz
    induction mz with
    | zero =>
      intro i12679 I12680 J12681 hI12680 fiI12680 ai12679 bi12679 hmlp2_12681
      exact absurd hmlp2_12681 (Nat.not_lt_zero _)
    | succ mz ihlp2_12681 =>
      intro i12679 I12680 J12681 hI12680 fiI12680 ai12679 bi12679 hmlp2_12681
      have e12683 : I12680 (ad g 1) 1 = L := hI12680.2
      have b12684 := BT_get hI12680.1 1 1 2 (0) (0) (900) (by decide) 1 (by decide) (by decide)
      rw [e12683] at b12684
      refine WP_iload_n dX0_lossesAt_2 rfl ?_
      refine WQ_bipush (7) (7) dX0_lossesAt_3 rfl rfl (fun v12685 hv12685 => ?_)
      refine WQ_icmp_ge 37 dX0_lossesAt_5 rfl (fun c12685 => ?_) (fun c12685 => ?_)
      · refine WP_aload_n dX0_lossesAt_37 rfl ?_
        refine WP_callV0 (k := 0) dX0_lossesAt_38 ⟨⟨⟨by decide, by decide⟩, zX0_stampAll⟩, lX0_57, by decide, rfl, vX0_stampAll.1, vX0_stampAll.2⟩ (lyx_is hy 5 0 rfl) (sx_stampAllf hy hr hI12680  ) (Nat.le_of_ble_eq_true rfl) ?_
        intro r I12687 J12688 Ra hq
        obtain ⟨⟨hI12687, ec, fiI12687⟩, rfl⟩ := hq
        rw [ec]
        clear ec Ra
        have fr12689 : fz 74 g [23, 24] I I12687 := fz_tr fiI12680 (fz_mono fiI12687 (by decide))
        have e12690 : I12687 (ad g 1) 1 = L := hI12687.2
        have b12691 := BT_get hI12687.1 1 1 2 (0) (0) (900) (by decide) 1 (by decide) (by decide)
        rw [e12690] at b12691
        exact WP_vret dX0_lossesAt_41 rfl ⟨⟨hI12687, rfl, fr12689⟩, rfl⟩
      · refine WP_aload_n dX0_lossesAt_8 rfl ?_
        refine WP_getr dX0_lossesAt_9 fX0_15 rfl (lyx_is hy 5 0 rfl) (rfx hr 5 2 23 (by decide)) ?_
        refine WP_iload_n dX0_lossesAt_12 rfl ?_
        refine WP_aload_n dX0_lossesAt_13 rfl ?_
        refine WP_getr dX0_lossesAt_14 fX0_27 rfl (lyx_is hy 5 0 rfl) hT ?_
        refine WP_getr dX0_lossesAt_17 fX0_56 rfl (lyx_is hy 27 7 rfl) (rfx hr 27 5 28 (by decide)) ?_
        refine WP_iload_n dX0_lossesAt_20 rfl ?_
        refine WQ_iald dX0_lossesAt_21 (lyx_is hy 28 13 rfl) (lyx_n hy 28 7 rfl) (by omega) (by omega) (fun q hq => BT_get hI12680.1 28 0 7 (0) (0) (900) (by decide) q (Nat.zero_le _) hq) (fun v12692 av12692 bv12692 ev12692 => ?_)
        clear ev12692
        have jn30_12694 : ∀ (v12694 : Int32), 0 ≤ v12694.toInt → v12694.toInt ≤ 900 → WP g mX0_lossesAt 30 [(0, .ref (ad g 5)), (1, .int lo), (2, .int i12679)] [.int v12694, .int i12679, .ref (ad g 23)] I12680 J12681 R (fun r I' J' R' => (XI g n L I' ∧ R' = R ∧ fz 74 g [23, 24] I I') ∧ r = none) := by
          intro v12694 av12694 bv12694
          refine WQ_iast dX0_lossesAt_30 (lyx_is hy 23 13 rfl) (lyx_n hy 23 7 rfl) (by omega) (by omega) (fun I12696 eI12696 => ?_)
          have hI12696 : XI g n L I12696 := by rw [eI12696]; exact (xi_r hy hI12680 (c := 23) (0) (0) (900) (by decide) (Or.inl (by decide)) (by decide) (by omega) (by omega))
          have e12697 : I12696 (ad g 1) 1 = L := by rw [eI12696, pp_ne _ _ (Or.inl (lyx_ne hy (by decide) (by decide) (by decide)))]; exact e12683
          have fr12698 : fz 74 g [23, 24] I I12696 := by rw [eI12696]; exact fzx_pp hy fiI12680 (by decide) (by decide)
          clear eI12696
          refine WP_iinc (ls' := [(0, _), (1, _), (2, _)]) dX0_lossesAt_31 rfl (by decide) rfl ?_
          have hv12699 : (i12679 + Int32.ofInt (1)).toInt = i12679.toInt + (1) := ia_n rfl (by omega) (by omega)
          generalize i12679 + Int32.ofInt (1) = v12699 at hv12699 ⊢
          refine WP_goto 2 dX0_lossesAt_34 rfl ?_
          exact WP_sub (fc rfl (fc rfl (fc rfl fn))) (ihlp2_12681 v12699 I12696 J12681 hI12696 fr12698 (by omega) (by omega) (by omega))
        refine WQ_if_le 29 dX0_lossesAt_22 rfl (fun c12699 => ?_) (fun c12699 => ?_)
        · refine WQ_iconst (0) (0) dX0_lossesAt_29 rfl rfl (fun v12701 hv12701 => ?_)
          exact WP_sub (fc rfl (fc rfl (fc rfl fn))) (jn30_12694 v12701 (by omega) (by omega))
        · refine WP_iload_n dX0_lossesAt_25 rfl ?_
          refine WP_goto 30 dX0_lossesAt_26 rfl ?_
          exact WP_sub (fc rfl (fc rfl (fc rfl fn))) (jn30_12694 lo (by omega) (by omega))
  exact WP_sub (fc rfl (fc rfl (fc rfl fn))) (lp2_12681 _ v12678 I J hI fr0 (by omega) (by omega) (Nat.lt_succ_self _))
set_option maxHeartbeats 4000000 in
set_option maxRecDepth 100000 in
theorem sx_movePricesf_27 {g : GG} {n : Int} {L : Int32} (hy : LyX g)  {I : pI} {J : pJ} {R : pR} (hr : RfX g R) (hT : R (ad g 5) 0 = some (ad g 27)) (hI : XI g n L I)   : SP g mX0_movePrices [.ref (ad g 5), .ref (ad g 51)] I J R (fun r I' J' R' => (XI g n L I' ∧ R' = R ∧ fz 74 g [22] I I') ∧ ∃ v : Int32, r = some (.int v) ∧ 0 ≤ v.toInt ∧ v.toInt ≤ 1) := by
  refine SP_of ⟨by decide, rfl⟩ (Nat.le_of_ble_eq_true rfl) ?_
  have e12702 : I (ad g 1) 1 = L := hI.2
  have b12703 := BT_get hI.1 1 1 2 (0) (0) (900) (by decide) 1 (by decide) (by decide)
  rw [e12702] at b12703
  have fr0 : fz 74 g [22] I I := fz_rf
  refine WQ_iconst (0) (0) dX0_movePrices_0 rfl rfl (fun v12704 hv12704 => ?_)
  refine WP_istore_n (ls' := [(0, _), (1, _), (2, _)]) dX0_movePrices_1 (by decide) rfl ?_
  refine WQ_iconst (0) (0) dX0_movePrices_2 rfl rfl (fun v12705 hv12705 => ?_)
  refine WP_istore_n (ls' := [(0, _), (1, _), (2, _), (3, _)]) dX0_movePrices_3 (by decide) rfl ?_
  have lp4_12709 : ∀ (mz : Nat) (i12706 : Int32) (i12707 : Int32) (I12708 : pI) (J12709 : pJ), XI g n L I12708 → fz 74 g [22] I I12708 → 0 ≤ i12706.toInt → i12706.toInt ≤ 1 → 0 ≤ i12707.toInt → i12707.toInt ≤ 21 → (22 - i12707.toInt).toNat < mz → WP g mX0_movePrices 4 [(0, .ref (ad g 5)), (1, .ref (ad g 51)), (2, .int i12706), (3, .int i12707)] [] I12708 J12709 R (fun r I' J' R' => (XI g n L I' ∧ R' = R ∧ fz 74 g [22] I I') ∧ ∃ v : Int32, r = some (.int v) ∧ 0 ≤ v.toInt ∧ v.toInt ≤ 1) := by
    intro mz
    induction mz with
    | zero =>
      intro i12706 i12707 I12708 J12709 hI12708 fiI12708 ai12706 bi12706 ai12707 bi12707 hmlp4_12709
      exact absurd hmlp4_12709 (Nat.not_lt_zero _)
    | succ mz ihlp4_12709 =>
      intro i12706 i12707 I12708 J12709 hI12708 fiI12708 ai12706 bi12706 ai12707 bi12707 hmlp4_12709
      have e12711 : I12708 (ad g 1) 1 = L := hI12708.2
      have b12712 := BT_get hI12708.1 1 1 2 (0) (0) (900) (by decide) 1 (by decide) (by decide)
      rw [e12711] at b12712
      refine WP_iload_n dX0_movePrices_4 rfl ?_
      refine WP_aload_n dX0_movePrices_5 rfl ?_
      refine WP_getr dX0_movePrices_6 fX0_27 rfl (lyx_is hy 5 0 rfl) hT ?_
      refine WQ_geti dX0_movePrices_9 fX0_73 rfl (lyx_is hy 27 7 rfl) (BT_get hI12708.1 27 2 3 (0) (0) (3) (by decide) 2 (by decide) (by decide)) (fun v12713 ev12713 av12713 bv12713 => ?_)
      refine WQ_bipush (7) (7) dX0_movePrices_12 rfl rfl (fun v12714 hv12714 => ?_)
      refine WQ_imulk (7) dX0_movePrices_14 hv12714 (by omega) (by omega) (fun v12715 hv12715 => ?_)
      refine WQ_icmp_ge 111 dX0_movePrices_15 rfl (fun c12715 => ?_) (fun c12715 => ?_)
      · refine WP_iload_n dX0_movePrices_111 rfl ?_
        exact WP_zret dX0_movePrices_112 rfl (nar_z (by omega)) ⟨⟨hI12708, rfl, fiI12708⟩, _, rfl, by omega, by omega⟩
      · refine WP_aload_n dX0_movePrices_18 rfl ?_
        refine WP_getr dX0_movePrices_19 fX0_27 rfl (lyx_is hy 5 0 rfl) hT ?_
        refine WP_getr dX0_movePrices_22 fX0_76 rfl (lyx_is hy 27 7 rfl) (rfx hr 27 17 40 (by decide)) ?_
        refine WP_iload_n dX0_movePrices_25 rfl ?_
        refine WQ_iald dX0_movePrices_26 (lyx_is hy 40 13 rfl) (lyx_n hy 40 21 rfl) (by omega) (by omega) (fun q hq => BT_get hI12708.1 40 0 21 (-1) (0) (999) (by decide) q (Nat.zero_le _) hq) (fun v12717 av12717 bv12717 ev12717 => ?_)
        refine WP_istore (ls' := [(0, _), (1, _), (2, _), (3, _), (4, _)]) dX0_movePrices_27 (by decide) rfl ?_
        refine WP_iload dX0_movePrices_29 rfl ?_
        refine WQ_iconst (-1) (-1) dX0_movePrices_31 rfl rfl (fun v12718 hv12718 => ?_)
        refine WQ_icmp_eq 69 dX0_movePrices_32 rfl (fun c12718 => ?_) (fun c12718 => ?_)
        · refine WP_iload dX0_movePrices_69 rfl ?_
          refine WQ_iconst (-1) (-1) dX0_movePrices_71 rfl rfl (fun v12720 hv12720 => ?_)
          refine WQ_icmp_eq 105 dX0_movePrices_72 rfl (fun c12720 => ?_) (fun c12720 => False.elim (by omega))
          refine WP_iinc (ls' := [(0, _), (1, _), (2, _), (3, _), (4, _)]) dX0_movePrices_105 rfl (by decide) rfl ?_
          have hv12722 : (i12707 + Int32.ofInt (1)).toInt = i12707.toInt + (1) := ia_n rfl (by omega) (by omega)
          generalize i12707 + Int32.ofInt (1) = v12722 at hv12722 ⊢
          refine WP_goto 4 dX0_movePrices_108 rfl ?_
          exact WP_sub (fc rfl (fc rfl (fc rfl (fc rfl fn)))) (ihlp4_12709 i12706 v12722 I12708 J12709 hI12708 fiI12708 (by omega) (by omega) (by omega) (by omega) (by omega))
        · refine WP_aload_n dX0_movePrices_35 rfl ?_
          refine WP_iload_n dX0_movePrices_36 rfl ?_
          refine WQ_ialdu dX0_movePrices_37 (lyx_is hy 51 13 rfl) (lyx_n hy 51 21 rfl) (by omega) (by omega) (fun v12723 => ?_)
          refine WP_iload dX0_movePrices_38 rfl ?_
          refine WQ_icmp_le 69 dX0_movePrices_40 rfl (fun c12723 => ?_) (fun c12723 => ?_)
          · refine WP_iload dX0_movePrices_69 rfl ?_
            refine WQ_iconst (-1) (-1) dX0_movePrices_71 rfl rfl (fun v12725 hv12725 => ?_)
            refine WQ_icmp_eq 105 dX0_movePrices_72 rfl (fun c12725 => False.elim (by omega)) (fun c12725 => ?_)
            refine WP_aload_n dX0_movePrices_75 rfl ?_
            refine WP_iload_n dX0_movePrices_76 rfl ?_
            refine WQ_ialdu dX0_movePrices_77 (lyx_is hy 51 13 rfl) (lyx_n hy 51 21 rfl) (by omega) (by omega) (fun v12727 => ?_)
            refine WP_iload dX0_movePrices_78 rfl ?_
            refine WQ_icmp_ge 105 dX0_movePrices_80 rfl (fun c12727 => ?_) (fun c12727 => ?_)
            · refine WP_iinc (ls' := [(0, _), (1, _), (2, _), (3, _), (4, _)]) dX0_movePrices_105 rfl (by decide) rfl ?_
              have hv12729 : (i12707 + Int32.ofInt (1)).toInt = i12707.toInt + (1) := ia_n rfl (by omega) (by omega)
              generalize i12707 + Int32.ofInt (1) = v12729 at hv12729 ⊢
              refine WP_goto 4 dX0_movePrices_108 rfl ?_
              exact WP_sub (fc rfl (fc rfl (fc rfl (fc rfl fn)))) (ihlp4_12709 i12706 v12729 I12708 J12709 hI12708 fiI12708 (by omega) (by omega) (by omega) (by omega) (by omega))
            · refine WP_aload_n dX0_movePrices_83 rfl ?_
              refine WP_getr dX0_movePrices_84 fX0_9 rfl (lyx_is hy 5 0 rfl) (rfx hr 5 1 22 (by decide)) ?_
              refine WP_iload_n dX0_movePrices_87 rfl ?_
              refine WQ_iald dX0_movePrices_88 (lyx_is hy 22 13 rfl) (lyx_n hy 22 21 rfl) (by omega) (by omega) (fun q hq => BT_get hI12708.1 22 0 21 (0) (0) (20) (by decide) q (Nat.zero_le _) hq) (fun v12730 av12730 bv12730 ev12730 => ?_)
              refine WQ_iconst (1) (1) dX0_movePrices_89 rfl rfl (fun v12731 hv12731 => ?_)
              refine WQ_icmp_le 105 dX0_movePrices_90 rfl (fun c12731 => ?_) (fun c12731 => ?_)
              · refine WP_iinc (ls' := [(0, _), (1, _), (2, _), (3, _), (4, _)]) dX0_movePrices_105 rfl (by decide) rfl ?_
                have hv12733 : (i12707 + Int32.ofInt (1)).toInt = i12707.toInt + (1) := ia_n rfl (by omega) (by omega)
                generalize i12707 + Int32.ofInt (1) = v12733 at hv12733 ⊢
                refine WP_goto 4 dX0_movePrices_108 rfl ?_
                exact WP_sub (fc rfl (fc rfl (fc rfl (fc rfl fn)))) (ihlp4_12709 i12706 v12733 I12708 J12709 hI12708 fiI12708 (by omega) (by omega) (by omega) (by omega) (by omega))
              · refine WP_aload_n dX0_movePrices_93 rfl ?_
                refine WP_getr dX0_movePrices_94 fX0_9 rfl (lyx_is hy 5 0 rfl) (rfx hr 5 1 22 (by decide)) ?_
                refine WP_iload_n dX0_movePrices_97 rfl ?_
                refine WP_dup2 dX0_movePrices_98 rfl rfl ?_
                refine WQ_ialde dX0_movePrices_99 (lyx_is hy 22 13 rfl) (lyx_n hy 22 21 rfl) (by omega) (by omega) ev12730 ?_
                refine WQ_iconst (1) (1) dX0_movePrices_100 rfl rfl (fun v12735 hv12735 => ?_)
                refine WQ_isub dX0_movePrices_101 (by omega) (by omega) (fun v12736 hv12736 => ?_)
                refine WQ_iast dX0_movePrices_102 (lyx_is hy 22 13 rfl) (lyx_n hy 22 21 rfl) (by omega) (by omega) (fun I12737 eI12737 => ?_)
                have hI12737 : XI g n L I12737 := by rw [eI12737]; exact (xi_r hy hI12708 (c := 22) (0) (0) (20) (by decide) (Or.inl (by decide)) (by decide) (by omega) (by omega))
                have e12738 : I12737 (ad g 1) 1 = L := by rw [eI12737, pp_ne _ _ (Or.inl (lyx_ne hy (by decide) (by decide) (by decide)))]; exact e12711
                have e12739 : I12737 (ad g 27) 2 = v12713 := by rw [eI12737, pp_ne _ _ (Or.inl (lyx_ne hy (by decide) (by decide) (by decide)))]; exact ev12713
                have e12740 : I12737 (ad g 40) i12707.toNatClampNeg = v12717 := by rw [eI12737, pp_ne _ _ (Or.inl (lyx_ne hy (by decide) (by decide) (by decide)))]; exact ev12717
                have fr12741 : fz 74 g [22] I I12737 := by rw [eI12737]; exact fzx_pp hy fiI12708 (by decide) (by decide)
                clear eI12737
                refine WQ_iconst (1) (1) dX0_movePrices_103 rfl rfl (fun v12742 hv12742 => ?_)
                refine WP_istore_n (ls' := [(0, _), (1, _), (2, _), (3, _), (4, _)]) dX0_movePrices_104 (by decide) rfl ?_
                refine WP_iinc (ls' := [(0, _), (1, _), (2, _), (3, _), (4, _)]) dX0_movePrices_105 rfl (by decide) rfl ?_
                have hv12743 : (i12707 + Int32.ofInt (1)).toInt = i12707.toInt + (1) := ia_n rfl (by omega) (by omega)
                generalize i12707 + Int32.ofInt (1) = v12743 at hv12743 ⊢
                refine WP_goto 4 dX0_movePrices_108 rfl ?_
                exact WP_sub (fc rfl (fc rfl (fc rfl (fc rfl fn)))) (ihlp4_12709 v12742 v12743 I12737 J12709 hI12737 fr12741 (by omega) (by omega) (by omega) (by omega) (by omega))
          · refine WP_aload_n dX0_movePrices_43 rfl ?_
            refine WP_getr dX0_movePrices_44 fX0_9 rfl (lyx_is hy 5 0 rfl) (rfx hr 5 1 22 (by decide)) ?_
            refine WP_iload_n dX0_movePrices_47 rfl ?_
            refine WQ_iald dX0_movePrices_48 (lyx_is hy 22 13 rfl) (lyx_n hy 22 21 rfl) (by omega) (by omega) (fun q hq => BT_get hI12708.1 22 0 21 (0) (0) (20) (by decide) q (Nat.zero_le _) hq) (fun v12744 av12744 bv12744 ev12744 => ?_)
            refine WQ_bipush (20) (20) dX0_movePrices_49 rfl rfl (fun v12745 hv12745 => ?_)
            refine WQ_icmp_ge 69 dX0_movePrices_51 rfl (fun c12745 => ?_) (fun c12745 => ?_)
            · refine WP_iload dX0_movePrices_69 rfl ?_
              refine WQ_iconst (-1) (-1) dX0_movePrices_71 rfl rfl (fun v12747 hv12747 => ?_)
              refine WQ_icmp_eq 105 dX0_movePrices_72 rfl (fun c12747 => False.elim (by omega)) (fun c12747 => ?_)
              refine WP_aload_n dX0_movePrices_75 rfl ?_
              refine WP_iload_n dX0_movePrices_76 rfl ?_
              refine WQ_ialdu dX0_movePrices_77 (lyx_is hy 51 13 rfl) (lyx_n hy 51 21 rfl) (by omega) (by omega) (fun v12749 => ?_)
              refine WP_iload dX0_movePrices_78 rfl ?_
              refine WQ_icmp_ge 105 dX0_movePrices_80 rfl (fun c12749 => ?_) (fun c12749 => ?_)
              · refine WP_iinc (ls' := [(0, _), (1, _), (2, _), (3, _), (4, _)]) dX0_movePrices_105 rfl (by decide) rfl ?_
                have hv12751 : (i12707 + Int32.ofInt (1)).toInt = i12707.toInt + (1) := ia_n rfl (by omega) (by omega)
                generalize i12707 + Int32.ofInt (1) = v12751 at hv12751 ⊢
                refine WP_goto 4 dX0_movePrices_108 rfl ?_
                exact WP_sub (fc rfl (fc rfl (fc rfl (fc rfl fn)))) (ihlp4_12709 i12706 v12751 I12708 J12709 hI12708 fiI12708 (by omega) (by omega) (by omega) (by omega) (by omega))
              · refine WP_aload_n dX0_movePrices_83 rfl ?_
                refine WP_getr dX0_movePrices_84 fX0_9 rfl (lyx_is hy 5 0 rfl) (rfx hr 5 1 22 (by decide)) ?_
                refine WP_iload_n dX0_movePrices_87 rfl ?_
                refine WQ_ialde dX0_movePrices_88 (lyx_is hy 22 13 rfl) (lyx_n hy 22 21 rfl) (by omega) (by omega) ev12744 ?_
                refine WQ_iconst (1) (1) dX0_movePrices_89 rfl rfl (fun v12753 hv12753 => ?_)
                refine WQ_icmp_le 105 dX0_movePrices_90 rfl (fun c12753 => False.elim (by omega)) (fun c12753 => ?_)
                refine WP_aload_n dX0_movePrices_93 rfl ?_
                refine WP_getr dX0_movePrices_94 fX0_9 rfl (lyx_is hy 5 0 rfl) (rfx hr 5 1 22 (by decide)) ?_
                refine WP_iload_n dX0_movePrices_97 rfl ?_
                refine WP_dup2 dX0_movePrices_98 rfl rfl ?_
                refine WQ_ialde dX0_movePrices_99 (lyx_is hy 22 13 rfl) (lyx_n hy 22 21 rfl) (by omega) (by omega) ev12744 ?_
                refine WQ_iconst (1) (1) dX0_movePrices_100 rfl rfl (fun v12756 hv12756 => ?_)
                refine WQ_isub dX0_movePrices_101 (by omega) (by omega) (fun v12757 hv12757 => ?_)
                refine WQ_iast dX0_movePrices_102 (lyx_is hy 22 13 rfl) (lyx_n hy 22 21 rfl) (by omega) (by omega) (fun I12758 eI12758 => ?_)
                have hI12758 : XI g n L I12758 := by rw [eI12758]; exact (xi_r hy hI12708 (c := 22) (0) (0) (20) (by decide) (Or.inl (by decide)) (by decide) (by omega) (by omega))
                have e12759 : I12758 (ad g 1) 1 = L := by rw [eI12758, pp_ne _ _ (Or.inl (lyx_ne hy (by decide) (by decide) (by decide)))]; exact e12711
                have e12760 : I12758 (ad g 27) 2 = v12713 := by rw [eI12758, pp_ne _ _ (Or.inl (lyx_ne hy (by decide) (by decide) (by decide)))]; exact ev12713
                have e12761 : I12758 (ad g 40) i12707.toNatClampNeg = v12717 := by rw [eI12758, pp_ne _ _ (Or.inl (lyx_ne hy (by decide) (by decide) (by decide)))]; exact ev12717
                have fr12762 : fz 74 g [22] I I12758 := by rw [eI12758]; exact fzx_pp hy fiI12708 (by decide) (by decide)
                clear eI12758
                refine WQ_iconst (1) (1) dX0_movePrices_103 rfl rfl (fun v12763 hv12763 => ?_)
                refine WP_istore_n (ls' := [(0, _), (1, _), (2, _), (3, _), (4, _)]) dX0_movePrices_104 (by decide) rfl ?_
                refine WP_iinc (ls' := [(0, _), (1, _), (2, _), (3, _), (4, _)]) dX0_movePrices_105 rfl (by decide) rfl ?_
                have hv12764 : (i12707 + Int32.ofInt (1)).toInt = i12707.toInt + (1) := ia_n rfl (by omega) (by omega)
                generalize i12707 + Int32.ofInt (1) = v12764 at hv12764 ⊢
                refine WP_goto 4 dX0_movePrices_108 rfl ?_
                exact WP_sub (fc rfl (fc rfl (fc rfl (fc rfl fn)))) (ihlp4_12709 v12763 v12764 I12758 J12709 hI12758 fr12762 (by omega) (by omega) (by omega) (by omega) (by omega))
            · refine WP_aload_n dX0_movePrices_54 rfl ?_
              refine WP_getr dX0_movePrices_55 fX0_9 rfl (lyx_is hy 5 0 rfl) (rfx hr 5 1 22 (by decide)) ?_
              refine WP_iload_n dX0_movePrices_58 rfl ?_
              refine WP_dup2 dX0_movePrices_59 rfl rfl ?_
              refine WQ_ialde dX0_movePrices_60 (lyx_is hy 22 13 rfl) (lyx_n hy 22 21 rfl) (by omega) (by omega) ev12744 ?_
              refine WQ_iconst (1) (1) dX0_movePrices_61 rfl rfl (fun v12766 hv12766 => ?_)
              refine WQ_iadd dX0_movePrices_62 (by omega) (by omega) (fun v12767 hv12767 => ?_)
              refine WQ_iast dX0_movePrices_63 (lyx_is hy 22 13 rfl) (lyx_n hy 22 21 rfl) (by omega) (by omega) (fun I12768 eI12768 => ?_)
              have hI12768 : XI g n L I12768 := by rw [eI12768]; exact (xi_r hy hI12708 (c := 22) (0) (0) (20) (by decide) (Or.inl (by decide)) (by decide) (by omega) (by omega))
              have e12769 : I12768 (ad g 1) 1 = L := by rw [eI12768, pp_ne _ _ (Or.inl (lyx_ne hy (by decide) (by decide) (by decide)))]; exact e12711
              have e12770 : I12768 (ad g 27) 2 = v12713 := by rw [eI12768, pp_ne _ _ (Or.inl (lyx_ne hy (by decide) (by decide) (by decide)))]; exact ev12713
              have e12771 : I12768 (ad g 40) i12707.toNatClampNeg = v12717 := by rw [eI12768, pp_ne _ _ (Or.inl (lyx_ne hy (by decide) (by decide) (by decide)))]; exact ev12717
              have fr12772 : fz 74 g [22] I I12768 := by rw [eI12768]; exact fzx_pp hy fiI12708 (by decide) (by decide)
              clear eI12768
              refine WQ_iconst (1) (1) dX0_movePrices_64 rfl rfl (fun v12773 hv12773 => ?_)
              refine WP_istore_n (ls' := [(0, _), (1, _), (2, _), (3, _), (4, _)]) dX0_movePrices_65 (by decide) rfl ?_
              refine WP_goto 105 dX0_movePrices_66 rfl ?_
              refine WP_iinc (ls' := [(0, _), (1, _), (2, _), (3, _), (4, _)]) dX0_movePrices_105 rfl (by decide) rfl ?_
              have hv12774 : (i12707 + Int32.ofInt (1)).toInt = i12707.toInt + (1) := ia_n rfl (by omega) (by omega)
              generalize i12707 + Int32.ofInt (1) = v12774 at hv12774 ⊢
              refine WP_goto 4 dX0_movePrices_108 rfl ?_
              exact WP_sub (fc rfl (fc rfl (fc rfl (fc rfl fn)))) (ihlp4_12709 v12773 v12774 I12768 J12709 hI12768 fr12772 (by omega) (by omega) (by omega) (by omega) (by omega))
  exact WP_sub (fc rfl (fc rfl (fc rfl (fc rfl fn)))) (lp4_12709 _ v12704 v12705 I J hI fr0 (by omega) (by omega) (by omega) (by omega) (Nat.lt_succ_self _))
set_option maxHeartbeats 4000000 in
set_option maxRecDepth 100000 in
theorem sx_beginf_56_27 {g : GG} {n : Int} {L : Int32} (hy : LyX g)  {I : pI} {J : pJ} {R : pR} (hr : RfX g R) (hI : XI g n L I)   (hn : 0 ≤ n) : SP g mX4_begin [.ref (ad g 56), .ref (ad g 27)] I J R (fun r I' J' R' => (XI g n L I' ∧ R' = R ∧ fz 74 g [56, 58] I I' ∧ (I' (ad g 56) 1).toInt = 0) ∧ r = none) := by
  refine SP_of ⟨by decide, rfl⟩ (Nat.le_of_ble_eq_true rfl) ?_
  have e12775 : I (ad g 1) 1 = L := hI.2
  have b12776 := BT_get hI.1 1 1 2 (0) (0) (900) (by decide) 1 (by decide) (by decide)
  rw [e12775] at b12776
  have fr0 : fz 74 g [56, 58] I I := fz_rf
  refine WP_aload_n dX4_begin_0 rfl ?_
  refine WQ_iconst (0) (0) dX4_begin_1 rfl rfl (fun v12777 hv12777 => ?_)
  refine WQ_puti dX4_begin_2 fX4_18 rfl rfl (lyx_is hy 56 4 rfl) (fun I12778 eI12778 => ?_)
  have hI12778 : XI g n L I12778 := by rw [eI12778]; exact (xi_f0 hy hI (c := 56) (by decide) (Or.inl (by decide)) (by decide))
  have e12779 : I12778 (ad g 1) 1 = L := by rw [eI12778, pp_ne _ _ (Or.inl (lyx_ne hy (by decide) (by decide) (by decide)))]; exact e12775
  have e12780 : I12778 (ad g 56) 0 = v12777 := by rw [eI12778, pp_self]
  have fr12781 : fz 74 g [56, 58] I I12778 := by rw [eI12778]; exact fzx_pp hy fr0 (by decide) (by decide)
  clear eI12778
  refine WP_aload_n dX4_begin_5 rfl ?_
  refine WQ_iconst (0) (0) dX4_begin_6 rfl rfl (fun v12782 hv12782 => ?_)
  refine WQ_puti dX4_begin_7 fX4_22 rfl rfl (lyx_is hy 56 4 rfl) (fun I12783 eI12783 => ?_)
  have hI12783 : XI g n L I12783 := by rw [eI12783]; exact (xi_f hy hI12778 (c := 56) (0) (23760) (700000) (by decide) (Or.inl (by decide)) (by decide) (by omega) (by omega))
  have e12784 : I12783 (ad g 1) 1 = L := by rw [eI12783, pp_ne _ _ (Or.inl (lyx_ne hy (by decide) (by decide) (by decide)))]; exact e12779
  have e12785 : I12783 (ad g 56) 0 = v12777 := by rw [eI12783, pp_ne _ _ (Or.inr (by decide))]; exact e12780
  have e12786 : I12783 (ad g 56) 1 = v12782 := by rw [eI12783, pp_self]
  have fr12787 : fz 74 g [56, 58] I I12783 := by rw [eI12783]; exact fzx_pp hy fr12781 (by decide) (by decide)
  clear eI12783
  refine WP_aload_n dX4_begin_10 rfl ?_
  refine WQ_iconst (0) (0) dX4_begin_11 rfl rfl (fun v12788 hv12788 => ?_)
  refine WQ_puti dX4_begin_12 fX4_25 rfl rfl (lyx_is hy 56 4 rfl) (fun I12789 eI12789 => ?_)
  have hI12789 : XI g n L I12789 := by rw [eI12789]; exact (xi_f0 hy hI12783 (c := 56) (by decide) (Or.inl (by decide)) (by decide))
  have e12790 : I12789 (ad g 1) 1 = L := by rw [eI12789, pp_ne _ _ (Or.inl (lyx_ne hy (by decide) (by decide) (by decide)))]; exact e12784
  have e12791 : I12789 (ad g 56) 0 = v12777 := by rw [eI12789, pp_ne _ _ (Or.inr (by decide))]; exact e12785
  have e12792 : I12789 (ad g 56) 1 = v12782 := by rw [eI12789, pp_ne _ _ (Or.inr (by decide))]; exact e12786
  have e12793 : I12789 (ad g 56) 2 = v12788 := by rw [eI12789, pp_self]
  have fr12794 : fz 74 g [56, 58] I I12789 := by rw [eI12789]; exact fzx_pp hy fr12787 (by decide) (by decide)
  clear eI12789
  refine WP_aload_n dX4_begin_15 rfl ?_
  refine WP_lconst (0) dX4_begin_16 rfl ?_
  obtain ⟨l12795, hl12795, el12795⟩ : ∃ v : Int64, v.toInt = 0 ∧ (0 : Int64) = v := ⟨_, rfl, rfl⟩
  rw [el12795]; clear el12795
  refine WQ_putl dX4_begin_17 fX4_28 rfl rfl (lyx_is hy 56 4 rfl) (fun J12796 eJ12796 => ?_)
  clear eJ12796
  refine WP_aload_n dX4_begin_20 rfl ?_
  refine WP_getr dX4_begin_21 fX4_15 rfl (lyx_is hy 56 4 rfl) (rfx hr 56 5 58 (by decide)) ?_
  refine WQ_iconst (0) (0) dX4_begin_24 rfl rfl (fun v12797 hv12797 => ?_)
  refine WP_callS2u dX4_begin_25 ⟨⟨⟨by decide, by decide⟩, zJ7_fill_53178⟩, lX4_32, tJ7_fill_53178⟩ (s_fill hy hr 58 28 rfl rfl (by decide) v12797) (Nat.le_of_ble_eq_true rfl) ?_
  obtain ⟨I12798, eI12798⟩ : ∃ I9 : pI, I9 = fi I12789 (ad g 58) 28 v12797 := ⟨_, rfl⟩
  rw [← eI12798]
  have hI12798 : XI g n L I12798 := by rw [eI12798]; exact (fa_fill hy hI12789 (c := 58) 28 (by decide) hv12797)
  have e12799 : I12798 (ad g 1) 1 = L := by rw [eI12798, fi_off (lyx_ne hy (by decide) (by decide) (by decide))]; exact e12790
  have e12800 : I12798 (ad g 56) 0 = v12777 := by rw [eI12798, fi_off (lyx_ne hy (by decide) (by decide) (by decide))]; exact e12791
  have e12801 : I12798 (ad g 56) 1 = v12782 := by rw [eI12798, fi_off (lyx_ne hy (by decide) (by decide) (by decide))]; exact e12792
  have e12802 : I12798 (ad g 56) 2 = v12788 := by rw [eI12798, fi_off (lyx_ne hy (by decide) (by decide) (by decide))]; exact e12793
  have fr12803 : fz 74 g [56, 58] I I12798 := by rw [eI12798]; exact fzx_fi hy fr12794 (by decide) (by decide)
  clear eI12798
  refine WQ_iconst (0) (0) dX4_begin_28 rfl rfl (fun v12804 hv12804 => ?_)
  refine WP_istore_n (ls' := [(0, _), (1, _), (2, _)]) dX4_begin_29 (by decide) rfl ?_
  have lp30_12808 : ∀ (mz : Nat) (i12805 : Int32) (I12806 : pI) (J12807 : pJ), XI g n L I12806 → fz 74 g [56, 58] I I12806 → ∀ (w12808 : Int32), I12806 (ad g 56) 1 = w12808 → 0 ≤ i12805.toInt → i12805.toInt ≤ 4 → w12808.toInt = 0 → (5 - i12805.toInt).toNat < mz → WP g mX4_begin 30 [(0, .ref (ad g 56)), (1, .ref (ad g 27)), (2, .int i12805)] [] I12806 J12807 R (fun r I' J' R' => (XI g n L I' ∧ R' = R ∧ fz 74 g [56, 58] I I' ∧ (I' (ad g 56) 1).toInt = 0) ∧ r = none) := by
    intro mz
    induction mz with
    | zero =>
      intro i12805 I12806 J12807 hI12806 fiI12806 w12808 ew12808 ai12805 bi12805 j0_I12806 hmlp30_12808
      exact absurd hmlp30_12808 (Nat.not_lt_zero _)
    | succ mz ihlp30_12808 =>
      intro i12805 I12806 J12807 hI12806 fiI12806 w12808 ew12808 ai12805 bi12805 j0_I12806 hmlp30_12808
      have bw12808 := BT_get hI12806.1 56 1 2 (0) (23760) (700000) (by decide) 1 (by decide) (by decide)
      rw [ew12808] at bw12808
      have e12810 : I12806 (ad g 1) 1 = L := hI12806.2
      have b12811 := BT_get hI12806.1 1 1 2 (0) (0) (900) (by decide) 1 (by decide) (by decide)
      rw [e12810] at b12811
      refine WP_iload_n dX4_begin_30 rfl ?_
      refine WP_aload_n dX4_begin_31 rfl ?_
      refine WQ_geti dX4_begin_32 fX4_38 rfl (lyx_is hy 27 7 rfl) (BT_get hI12806.1 27 1 2 (0) (0) (4) (by decide) 1 (by decide) (by decide)) (fun v12812 ev12812 av12812 bv12812 => ?_)
      refine WQ_icmp_ge 61 dX4_begin_35 rfl (fun c12812 => ?_) (fun c12812 => ?_)
      · exact WP_vret dX4_begin_61 rfl ⟨⟨hI12806, rfl, fiI12806, (by rw [ew12808]; omega)⟩, rfl⟩
      · refine WP_aload_n dX4_begin_38 rfl ?_
        refine WP_getr dX4_begin_39 fX4_15 rfl (lyx_is hy 56 4 rfl) (rfx hr 56 5 58 (by decide)) ?_
        refine WP_iload_n dX4_begin_42 rfl ?_
        refine WQ_bipush (7) (7) dX4_begin_43 rfl rfl (fun v12814 hv12814 => ?_)
        refine WQ_imulk (7) dX4_begin_45 hv12814 (by omega) (by omega) (fun v12815 hv12815 => ?_)
        refine WQ_iconst (0) (0) dX4_begin_46 rfl rfl (fun v12816 hv12816 => ?_)
        refine WQ_iadd dX4_begin_47 (by omega) (by omega) (fun v12817 hv12817 => ?_)
        refine WP_aload_n dX4_begin_48 rfl ?_
        refine WP_getr dX4_begin_49 fX4_43 rfl (lyx_is hy 27 7 rfl) (rfx hr 27 8 31 (by decide)) ?_
        refine WP_iload_n dX4_begin_52 rfl ?_
        refine WQ_iald dX4_begin_53 (lyx_is hy 31 13 rfl) (lyx_n hy 31 4 rfl) (by omega) (by omega) (fun q hq => BT_get hI12806.1 31 0 4 (0) (0) (60) (by decide) q (Nat.zero_le _) hq) (fun v12818 av12818 bv12818 ev12818 => ?_)
        clear ev12818
        refine WQ_iast dX4_begin_54 (lyx_is hy 58 13 rfl) (lyx_n hy 58 28 rfl) (by omega) (by omega) (fun I12819 eI12819 => ?_)
        have hI12819 : XI g n L I12819 := by rw [eI12819]; exact (fa_put hy hI12806 (c := 58) (k := 0) (s := i12805.toInt.toNat) (by decide) (by omega) (by decide) (by rw [cl (n := 7 * i12805.toInt.toNat + 0) (by omega)]) (fun _ => by omega) (fun _ => by omega))
        have e12820 : I12819 (ad g 56) 1 = w12808 := by rw [eI12819, pp_ne _ _ (Or.inl (lyx_ne hy (by decide) (by decide) (by decide)))]; exact ew12808
        have e12821 : I12819 (ad g 1) 1 = L := by rw [eI12819, pp_ne _ _ (Or.inl (lyx_ne hy (by decide) (by decide) (by decide)))]; exact e12810
        have e12822 : I12819 (ad g 27) 1 = v12812 := by rw [eI12819, pp_ne _ _ (Or.inl (lyx_ne hy (by decide) (by decide) (by decide)))]; exact ev12812
        have fr12823 : fz 74 g [56, 58] I I12819 := by rw [eI12819]; exact fzx_pp hy fiI12806 (by decide) (by decide)
        clear eI12819
        refine WP_iinc (ls' := [(0, _), (1, _), (2, _)]) dX4_begin_55 rfl (by decide) rfl ?_
        have hv12824 : (i12805 + Int32.ofInt (1)).toInt = i12805.toInt + (1) := ia_n rfl (by omega) (by omega)
        generalize i12805 + Int32.ofInt (1) = v12824 at hv12824 ⊢
        refine WP_goto 30 dX4_begin_58 rfl ?_
        exact WP_sub (fc rfl (fc rfl (fc rfl fn))) (ihlp30_12808 v12824 I12819 J12807 hI12819 fr12823 w12808 e12820 (by omega) (by omega) (by omega) (by omega))
  exact WP_sub (fc rfl (fc rfl (fc rfl fn))) (lp30_12808 _ v12804 I12798 J12796 hI12798 fr12803 v12782 e12801 (by omega) (by omega) (by omega) (Nat.lt_succ_self _))
set_option maxHeartbeats 4000000 in
set_option maxRecDepth 100000 in
theorem sx_openChestf_53_6 {g : GG} {n : Int} {L : Int32} (hy : LyX g)  {I : pI} {J : pJ} {R : pR} (hr : RfX g R) (hT : R (ad g 5) 0 = some (ad g 6)) (hI : XI g n L I)   (hn : 0 ≤ n ∧ n ≤ 40000) : SP g mX9_openChest [.ref (ad g 49), .ref (ad g 53)] I J R (fun r I' J' R' => (XI g n L I' ∧ R' = R ∧ fz 74 g [53, 55] I I' ∧ (I' (ad g 53) 1).toInt ≤ (I (ad g 53) 1).toInt) ∧ r = none) := by
  refine SP_of ⟨by decide, rfl⟩ (Nat.le_of_ble_eq_true rfl) ?_
  have e12825 : I (ad g 1) 1 = L := hI.2
  have b12826 := BT_get hI.1 1 1 2 (0) (0) (900) (by decide) 1 (by decide) (by decide)
  rw [e12825] at b12826
  have fr0 : fz 74 g [53, 55] I I := fz_rf
  obtain ⟨w12827, ew12827⟩ : ∃ w : Int32, I (ad g 53) 1 = w := ⟨_, rfl⟩
  have bw12827 := BT_get hI.1 53 1 2 (0) (23760) (0) (by decide) 1 (by decide) (by decide)
  rw [ew12827] at bw12827
  refine WP_aload_n dX9_openChest_0 rfl ?_
  refine WP_getr dX9_openChest_1 fX9_25 rfl (lyx_is hy 49 9 rfl) (rfx hr 49 2 5 (by decide)) ?_
  refine WP_getr dX9_openChest_4 fX9_49 rfl (lyx_is hy 5 0 rfl) hT ?_
  refine WQ_geti dX9_openChest_7 fX9_68 rfl (lyx_is hy 6 7 rfl) (BT_get hI.1 6 3 4 (-1) (0) (3) (by decide) 3 (by decide) (by decide)) (fun v12828 ev12828 av12828 bv12828 => ?_)
  refine WP_istore_n (ls' := [(0, _), (1, _), (2, _)]) dX9_openChest_10 (by decide) rfl ?_
  refine WP_iload_n dX9_openChest_11 rfl ?_
  refine WQ_iconst (-1) (-1) dX9_openChest_12 rfl rfl (fun v12829 hv12829 => ?_)
  refine WQ_icmp_eq 32 dX9_openChest_13 rfl (fun c12829 => ?_) (fun c12829 => ?_)
  · exact WP_vret dX9_openChest_32 rfl ⟨⟨hI, rfl, fr0, (by omega)⟩, rfl⟩
  · refine WP_aload_n dX9_openChest_16 rfl ?_
    refine WP_getr dX9_openChest_17 fX9_25 rfl (lyx_is hy 49 9 rfl) (rfx hr 49 2 5 (by decide)) ?_
    refine WP_getr dX9_openChest_20 fX9_49 rfl (lyx_is hy 5 0 rfl) hT ?_
    refine WP_getr dX9_openChest_23 fX9_71 rfl (lyx_is hy 6 7 rfl) (rfx hr 6 6 8 (by decide)) ?_
    refine WP_iload_n dX9_openChest_26 rfl ?_
    refine WQ_iald dX9_openChest_27 (lyx_is hy 8 13 rfl) (lyx_n hy 8 4 rfl) (by omega) (by omega) (fun q hq => BT_get hI.1 8 0 4 (0) (0) (99) (by decide) q (Nat.zero_le _) hq) (fun v12831 av12831 bv12831 ev12831 => ?_)
    refine WQ_iconst (1) (1) dX9_openChest_28 rfl rfl (fun v12832 hv12832 => ?_)
    refine WQ_icmp_ge 33 dX9_openChest_29 rfl (fun c12832 => ?_) (fun c12832 => ?_)
    · refine WP_aload_n dX9_openChest_33 rfl ?_
      refine WP_getr dX9_openChest_34 fX9_25 rfl (lyx_is hy 49 9 rfl) (rfx hr 49 2 5 (by decide)) ?_
      refine WP_getr dX9_openChest_37 fX9_49 rfl (lyx_is hy 5 0 rfl) hT ?_
      refine WP_getr dX9_openChest_40 fX9_71 rfl (lyx_is hy 6 7 rfl) (rfx hr 6 6 8 (by decide)) ?_
      refine WP_iload_n dX9_openChest_43 rfl ?_
      refine WQ_ialde dX9_openChest_44 (lyx_is hy 8 13 rfl) (lyx_n hy 8 4 rfl) (by omega) (by omega) ev12831 ?_
      refine WP_istore_n (ls' := [(0, _), (1, _), (2, _), (3, _)]) dX9_openChest_45 (by decide) rfl ?_
      refine WP_aload_n dX9_openChest_46 rfl ?_
      refine WQ_getim dX9_openChest_47 fX9_74 rfl (lyx_is hy 53 4 rfl) ew12827 ?_
      refine WP_iload_n dX9_openChest_50 rfl ?_
      refine WQ_idivb dX9_openChest_51 (by omega) (by omega) (fun v12835 pv12835 av12835 bv12835 cv12835 => ?_)
      refine WP_istore (ls' := [(0, _), (1, _), (2, _), (3, _), (4, _)]) dX9_openChest_52 (by decide) rfl ?_
      refine WP_iload_n dX9_openChest_54 rfl ?_
      refine WQ_bipush (7) (7) dX9_openChest_55 rfl rfl (fun v12836 hv12836 => ?_)
      refine WQ_imulk (7) dX9_openChest_57 hv12836 (by omega) (by omega) (fun v12837 hv12837 => ?_)
      refine WP_istore (ls' := [(0, _), (1, _), (2, _), (3, _), (4, _), (5, _)]) dX9_openChest_58 (by decide) rfl ?_
      refine WP_aload_n dX9_openChest_60 rfl ?_
      refine WP_dup dX9_openChest_61 rfl ?_
      refine WQ_getim dX9_openChest_62 fX9_74 rfl (lyx_is hy 53 4 rfl) ew12827 ?_
      refine WP_iload dX9_openChest_65 rfl ?_
      refine WP_iload_n dX9_openChest_67 rfl ?_
      have knv12838 : 0 ≤ v12835.toInt * v12831.toInt := Int.mul_nonneg (by omega) (by omega)
      refine WQ_imulx dX9_openChest_68 (by omega) (by omega) (fun v12838 pv12838 => ?_)
      refine WQ_isub dX9_openChest_69 (by omega) (by omega) (fun v12839 hv12839 => ?_)
      refine WQ_puti dX9_openChest_70 fX9_74 rfl rfl (lyx_is hy 53 4 rfl) (fun I12840 eI12840 => ?_)
      have hI12840 : XI g n L I12840 := by rw [eI12840]; exact (xi_f hy hI (c := 53) (0) (23760) (0) (by decide) (Or.inl (by decide)) (by decide) (by omega) (by omega))
      have e12841 : I12840 (ad g 1) 1 = L := by rw [eI12840, pp_ne _ _ (Or.inl (lyx_ne hy (by decide) (by decide) (by decide)))]; exact e12825
      have e12842 : I12840 (ad g 6) 3 = v12828 := by rw [eI12840, pp_ne _ _ (Or.inl (lyx_ne hy (by decide) (by decide) (by decide)))]; exact ev12828
      have e12843 : I12840 (ad g 8) v12828.toNatClampNeg = v12831 := by rw [eI12840, pp_ne _ _ (Or.inl (lyx_ne hy (by decide) (by decide) (by decide)))]; exact ev12831
      have e12844 : I12840 (ad g 53) 1 = v12839 := by rw [eI12840, pp_self]
      have fr12845 : fz 74 g [53, 55] I I12840 := by rw [eI12840]; exact fzx_pp hy fr0 (by decide) (by decide)
      clear eI12840
      refine WP_aload_n dX9_openChest_73 rfl ?_
      refine WP_getr dX9_openChest_74 fX9_75 rfl (lyx_is hy 53 4 rfl) (rfx hr 53 5 55 (by decide)) ?_
      refine WP_iload dX9_openChest_77 rfl ?_
      refine WQ_bipush (6) (6) dX9_openChest_79 rfl rfl (fun v12846 hv12846 => ?_)
      refine WQ_iadd dX9_openChest_81 (by omega) (by omega) (fun v12847 hv12847 => ?_)
      refine WP_dup2 dX9_openChest_82 rfl rfl ?_
      refine WQ_ialdu dX9_openChest_83 (lyx_is hy 55 13 rfl) (lyx_n hy 55 28 rfl) (by omega) (by omega) (fun v12848 => ?_)
      refine WP_iload dX9_openChest_84 rfl ?_
      refine WP_iload_n dX9_openChest_86 rfl ?_
      have knv12849 : 0 ≤ v12835.toInt * v12831.toInt := Int.mul_nonneg (by omega) (by omega)
      refine WQ_imulx dX9_openChest_87 (by omega) (by omega) (fun v12849 pv12849 => ?_)
      refine WQ_iaddu dX9_openChest_88 (fun v12850 => ?_)
      refine WQ_iast dX9_openChest_89 (lyx_is hy 55 13 rfl) (lyx_n hy 55 28 rfl) (by omega) (by omega) (fun I12851 eI12851 => ?_)
      have hI12851 : XI g n L I12851 := by rw [eI12851]; exact (fa_put hy hI12840 (c := 55) (k := 6) (s := v12828.toInt.toNat) (by decide) (by omega) (by decide) (by rw [cl (n := 7 * v12828.toInt.toNat + 6) (by omega)]) (fun h => absurd h (by decide)) (fun h => absurd h (by decide)))
      have e12852 : I12851 (ad g 1) 1 = L := by rw [eI12851, pp_ne _ _ (Or.inl (lyx_ne hy (by decide) (by decide) (by decide)))]; exact e12841
      have e12853 : I12851 (ad g 6) 3 = v12828 := by rw [eI12851, pp_ne _ _ (Or.inl (lyx_ne hy (by decide) (by decide) (by decide)))]; exact e12842
      have e12854 : I12851 (ad g 8) v12828.toNatClampNeg = v12831 := by rw [eI12851, pp_ne _ _ (Or.inl (lyx_ne hy (by decide) (by decide) (by decide)))]; exact e12843
      have e12855 : I12851 (ad g 53) 1 = v12839 := by rw [eI12851, pp_ne _ _ (Or.inl (lyx_ne hy (by decide) (by decide) (by decide)))]; exact e12844
      have fr12856 : fz 74 g [53, 55] I I12851 := by rw [eI12851]; exact fzx_pp hy fr12845 (by decide) (by decide)
      clear eI12851
      refine WP_aload_n dX9_openChest_90 rfl ?_
      refine WP_getr dX9_openChest_91 fX9_75 rfl (lyx_is hy 53 4 rfl) (rfx hr 53 5 55 (by decide)) ?_
      refine WP_iload dX9_openChest_94 rfl ?_
      refine WQ_iconst (0) (0) dX9_openChest_96 rfl rfl (fun v12857 hv12857 => ?_)
      refine WQ_iadd dX9_openChest_97 (by omega) (by omega) (fun v12858 hv12858 => ?_)
      refine WQ_bipush (60) (60) dX9_openChest_98 rfl rfl (fun v12859 hv12859 => ?_)
      refine WP_aload_n dX9_openChest_100 rfl ?_
      refine WP_getr dX9_openChest_101 fX9_75 rfl (lyx_is hy 53 4 rfl) (rfx hr 53 5 55 (by decide)) ?_
      refine WP_iload dX9_openChest_104 rfl ?_
      refine WQ_iconst (0) (0) dX9_openChest_106 rfl rfl (fun v12860 hv12860 => ?_)
      refine WQ_iadd dX9_openChest_107 (by omega) (by omega) (fun v12861 hv12861 => ?_)
      refine WQ_ialdf (q := 7 * v12828.toInt.toNat) dX9_openChest_108 (lyx_is hy 55 13 rfl) (lyx_n hy 55 28 rfl) (by omega) (by omega) (by omega) (fa_get0 hI12851 (c := 55) (by decide) (by omega)) (fun v12862 av12862 bv12862 => ?_)
      refine WP_iload dX9_openChest_109 rfl ?_
      refine WQ_iadd dX9_openChest_111 (by omega) (by omega) (fun v12863 hv12863 => ?_)
      refine WQ_min dX9_openChest_112 lX9_78 ⟨by decide, Nat.le_of_ble_eq_true rfl⟩ (fun v12864 av12864 bv12864 cv12864 => ?_)
      refine WQ_iast dX9_openChest_115 (lyx_is hy 55 13 rfl) (lyx_n hy 55 28 rfl) (by omega) (by omega) (fun I12865 eI12865 => ?_)
      have hI12865 : XI g n L I12865 := by rw [eI12865]; exact (fa_put hy hI12851 (c := 55) (k := 0) (s := v12828.toInt.toNat) (by decide) (by omega) (by decide) (by rw [cl (n := 7 * v12828.toInt.toNat + 0) (by omega)]) (fun _ => by omega) (fun _ => by omega))
      have e12866 : I12865 (ad g 1) 1 = L := by rw [eI12865, pp_ne _ _ (Or.inl (lyx_ne hy (by decide) (by decide) (by decide)))]; exact e12852
      have e12867 : I12865 (ad g 6) 3 = v12828 := by rw [eI12865, pp_ne _ _ (Or.inl (lyx_ne hy (by decide) (by decide) (by decide)))]; exact e12853
      have e12868 : I12865 (ad g 8) v12828.toNatClampNeg = v12831 := by rw [eI12865, pp_ne _ _ (Or.inl (lyx_ne hy (by decide) (by decide) (by decide)))]; exact e12854
      have e12869 : I12865 (ad g 53) 1 = v12839 := by rw [eI12865, pp_ne _ _ (Or.inl (lyx_ne hy (by decide) (by decide) (by decide)))]; exact e12855
      have fr12870 : fz 74 g [53, 55] I I12865 := by rw [eI12865]; exact fzx_pp hy fr12856 (by decide) (by decide)
      clear eI12865
      exact WP_vret dX9_openChest_116 rfl ⟨⟨hI12865, rfl, fr12870, (by rw [e12869, ew12827]; omega)⟩, rfl⟩
    · exact WP_vret dX9_openChest_32 rfl ⟨⟨hI, rfl, fr0, (by omega)⟩, rfl⟩
set_option maxHeartbeats 4000000 in
set_option maxRecDepth 100000 in
theorem sx_wsleepf_53_6 {g : GG} {n : Int} {L : Int32} (hy : LyX g)  {I : pI} {J : pJ} {R : pR} (hr : RfX g R) (hT : R (ad g 5) 0 = some (ad g 6)) (hI : XI g n L I) (so : Int32) (da : Int32) (co : Int32) (st : Int32) (so_lo : 0 ≤ so.toInt) (so_hi : so.toInt ≤ 3) (da_lo : 0 ≤ da.toInt) (da_hi : da.toInt ≤ 6) (co_lo : 0 ≤ co.toInt) (co_hi : co.toInt ≤ 60) (st_lo : 0 ≤ st.toInt) (st_hi : st.toInt ≤ 5) (hn : 0 ≤ n ∧ n ≤ 40000) (hb : (I (ad g 53) 1).toInt ≤ 23760 * n + 0 - 5940) : SP g mX9_sleep [.ref (ad g 49), .ref (ad g 53), .int so, .int da, .int co, .int st] I J R (fun r I' J' R' => (XI g n L I' ∧ R' = R ∧ fz 74 g [53, 55] I I' ∧ (I' (ad g 53) 1).toInt ≤ (I (ad g 53) 1).toInt + 5940) ∧ r = none) := by
  refine SP_of ⟨by decide, rfl⟩ (Nat.le_of_ble_eq_true rfl) ?_
  have e12871 : I (ad g 1) 1 = L := hI.2
  have b12872 := BT_get hI.1 1 1 2 (0) (0) (900) (by decide) 1 (by decide) (by decide)
  rw [e12871] at b12872
  have fr0 : fz 74 g [53, 55] I I := fz_rf
  obtain ⟨w12873, ew12873⟩ : ∃ w : Int32, I (ad g 53) 1 = w := ⟨_, rfl⟩
  have bw12873 := BT_get hI.1 53 1 2 (0) (23760) (0) (by decide) 1 (by decide) (by decide)
  rw [ew12873] at bw12873
  rw [ew12873] at hb
  refine WP_iload_n dX9_sleep_0 rfl ?_
  refine WQ_bipush (7) (7) dX9_sleep_1 rfl rfl (fun v12874 hv12874 => ?_)
  refine WQ_imulk (7) dX9_sleep_3 hv12874 (by omega) (by omega) (fun v12875 hv12875 => ?_)
  refine WP_istore (ls' := [(0, _), (1, _), (2, _), (3, _), (4, _), (5, _), (6, _)]) dX9_sleep_4 (by decide) rfl ?_
  refine WP_aload_n dX9_sleep_6 rfl ?_
  refine WP_getr dX9_sleep_7 fX9_25 rfl (lyx_is hy 49 9 rfl) (rfx hr 49 2 5 (by decide)) ?_
  refine WP_getr dX9_sleep_10 fX9_49 rfl (lyx_is hy 5 0 rfl) hT ?_
  refine WP_getr dX9_sleep_13 fX9_71 rfl (lyx_is hy 6 7 rfl) (rfx hr 6 6 8 (by decide)) ?_
  refine WP_iload_n dX9_sleep_16 rfl ?_
  refine WQ_iald dX9_sleep_17 (lyx_is hy 8 13 rfl) (lyx_n hy 8 4 rfl) (by omega) (by omega) (fun q hq => BT_get hI.1 8 0 4 (0) (0) (99) (by decide) q (Nat.zero_le _) hq) (fun v12876 av12876 bv12876 ev12876 => ?_)
  clear ev12876
  refine WP_istore (ls' := [(0, _), (1, _), (2, _), (3, _), (4, _), (5, _), (6, _), (7, _)]) dX9_sleep_18 (by decide) rfl ?_
  refine WP_iload dX9_sleep_20 rfl ?_
  refine WP_iload dX9_sleep_22 rfl ?_
  refine WP_aload_n dX9_sleep_24 rfl ?_
  refine WP_getr dX9_sleep_25 fX9_25 rfl (lyx_is hy 49 9 rfl) (rfx hr 49 2 5 (by decide)) ?_
  refine WP_getr dX9_sleep_28 fX9_128 rfl (lyx_is hy 5 0 rfl) (rfx hr 5 2 23 (by decide)) ?_
  refine WP_iload_n dX9_sleep_31 rfl ?_
  refine WQ_iald dX9_sleep_32 (lyx_is hy 23 13 rfl) (lyx_n hy 23 7 rfl) (by omega) (by omega) (fun q hq => BT_get hI.1 23 0 7 (0) (0) (900) (by decide) q (Nat.zero_le _) hq) (fun v12877 av12877 bv12877 ev12877 => ?_)
  clear ev12877
  refine WP_callN2 dX9_sleep_33 ⟨⟨⟨by decide, by decide⟩, zX10_stampsOf⟩, lX9_131, tX10_stampsOf⟩ (sx_stampsOf hy hr hI co v12877 (by omega) (by omega) (by omega) (by omega)) (Nat.le_of_ble_eq_true rfl) ?_
  intro r Ia Ja Ra hq
  obtain ⟨⟨ea, eb, ec⟩, v12878, rfl, av12878, bv12878, cv12878⟩ := hq
  show WP _ _ _ _ (.int _ :: _) _ _ _ _
  rw [ea, eb, ec]
  clear ea eb ec Ia Ja Ra
  refine WQ_imulb (99) (999) dX9_sleep_36 ⟨by omega, by omega⟩ ⟨by omega, by omega⟩ (by decide) (fun v12879 pv12879 av12879 bv12879 cv12879 => ?_)
  refine WP_istore (ls' := [(0, _), (1, _), (2, _), (3, _), (4, _), (5, _), (6, _), (7, _), (8, _)]) dX9_sleep_37 (by decide) rfl ?_
  refine WP_aload_n dX9_sleep_39 rfl ?_
  refine WP_getr dX9_sleep_40 fX9_25 rfl (lyx_is hy 49 9 rfl) (rfx hr 49 2 5 (by decide)) ?_
  refine WP_getr dX9_sleep_43 fX9_134 rfl (lyx_is hy 5 0 rfl) (rfx hr 5 5 26 (by decide)) ?_
  refine WP_iload dX9_sleep_46 rfl ?_
  refine WQ_iald dX9_sleep_48 (lyx_is hy 26 13 rfl) (lyx_n hy 26 6 rfl) (by omega) (by omega) (fun q hq => BT_get hI.1 26 0 6 (0) (0) (5) (by decide) q (Nat.zero_le _) hq) (fun v12880 av12880 bv12880 ev12880 => ?_)
  clear ev12880
  refine WP_istore (ls' := [(0, _), (1, _), (2, _), (3, _), (4, _), (5, _), (6, _), (7, _), (8, _), (9, _)]) dX9_sleep_49 (by decide) rfl ?_
  refine WP_aload_n dX9_sleep_51 rfl ?_
  refine WP_dup dX9_sleep_52 rfl ?_
  refine WQ_getim dX9_sleep_53 fX9_74 rfl (lyx_is hy 53 4 rfl) ew12873 ?_
  refine WP_iload dX9_sleep_56 rfl ?_
  refine WQ_iadd dX9_sleep_58 (by omega) (by omega) (fun v12881 hv12881 => ?_)
  refine WQ_puti dX9_sleep_59 fX9_74 rfl rfl (lyx_is hy 53 4 rfl) (fun I12882 eI12882 => ?_)
  have hI12882 : XI g n L I12882 := by rw [eI12882]; exact (xi_f hy hI (c := 53) (0) (23760) (0) (by decide) (Or.inl (by decide)) (by decide) (by omega) (by omega))
  have e12883 : I12882 (ad g 1) 1 = L := by rw [eI12882, pp_ne _ _ (Or.inl (lyx_ne hy (by decide) (by decide) (by decide)))]; exact e12871
  have e12884 : I12882 (ad g 53) 1 = v12881 := by rw [eI12882, pp_self]
  have fr12885 : fz 74 g [53, 55] I I12882 := by rw [eI12882]; exact fzx_pp hy fr0 (by decide) (by decide)
  clear eI12882
  refine WP_aload_n dX9_sleep_62 rfl ?_
  refine WP_getr dX9_sleep_63 fX9_75 rfl (lyx_is hy 53 4 rfl) (rfx hr 53 5 55 (by decide)) ?_
  refine WP_iload dX9_sleep_66 rfl ?_
  refine WQ_iconst (3) (3) dX9_sleep_68 rfl rfl (fun v12886 hv12886 => ?_)
  refine WQ_iadd dX9_sleep_69 (by omega) (by omega) (fun v12887 hv12887 => ?_)
  refine WP_dup2 dX9_sleep_70 rfl rfl ?_
  refine WQ_ialdu dX9_sleep_71 (lyx_is hy 55 13 rfl) (lyx_n hy 55 28 rfl) (by omega) (by omega) (fun v12888 => ?_)
  refine WP_iload dX9_sleep_72 rfl ?_
  refine WQ_iaddu dX9_sleep_74 (fun v12889 => ?_)
  refine WQ_iast dX9_sleep_75 (lyx_is hy 55 13 rfl) (lyx_n hy 55 28 rfl) (by omega) (by omega) (fun I12890 eI12890 => ?_)
  have hI12890 : XI g n L I12890 := by rw [eI12890]; exact (fa_put hy hI12882 (c := 55) (k := 3) (s := so.toInt.toNat) (by decide) (by omega) (by decide) (by rw [cl (n := 7 * so.toInt.toNat + 3) (by omega)]) (fun h => absurd h (by decide)) (fun h => absurd h (by decide)))
  have e12891 : I12890 (ad g 1) 1 = L := by rw [eI12890, pp_ne _ _ (Or.inl (lyx_ne hy (by decide) (by decide) (by decide)))]; exact e12883
  have e12892 : I12890 (ad g 53) 1 = v12881 := by rw [eI12890, pp_ne _ _ (Or.inl (lyx_ne hy (by decide) (by decide) (by decide)))]; exact e12884
  have fr12893 : fz 74 g [53, 55] I I12890 := by rw [eI12890]; exact fzx_pp hy fr12885 (by decide) (by decide)
  clear eI12890
  refine WP_aload_n dX9_sleep_76 rfl ?_
  refine WP_getr dX9_sleep_77 fX9_75 rfl (lyx_is hy 53 4 rfl) (rfx hr 53 5 55 (by decide)) ?_
  refine WP_iload dX9_sleep_80 rfl ?_
  refine WQ_iconst (5) (5) dX9_sleep_82 rfl rfl (fun v12894 hv12894 => ?_)
  refine WQ_iadd dX9_sleep_83 (by omega) (by omega) (fun v12895 hv12895 => ?_)
  refine WP_dup2 dX9_sleep_84 rfl rfl ?_
  refine WQ_ialdu dX9_sleep_85 (lyx_is hy 55 13 rfl) (lyx_n hy 55 28 rfl) (by omega) (by omega) (fun v12896 => ?_)
  refine WP_iload dX9_sleep_86 rfl ?_
  refine WP_iload dX9_sleep_88 rfl ?_
  refine WP_iload dX9_sleep_90 rfl ?_
  refine WQ_isub dX9_sleep_92 (by omega) (by omega) (fun v12897 hv12897 => ?_)
  refine WQ_imulu dX9_sleep_93 (fun v12898 => ?_)
  refine WQ_iaddu dX9_sleep_94 (fun v12899 => ?_)
  refine WQ_iast dX9_sleep_95 (lyx_is hy 55 13 rfl) (lyx_n hy 55 28 rfl) (by omega) (by omega) (fun I12900 eI12900 => ?_)
  have hI12900 : XI g n L I12900 := by rw [eI12900]; exact (fa_put hy hI12890 (c := 55) (k := 5) (s := so.toInt.toNat) (by decide) (by omega) (by decide) (by rw [cl (n := 7 * so.toInt.toNat + 5) (by omega)]) (fun h => absurd h (by decide)) (fun h => absurd h (by decide)))
  have e12901 : I12900 (ad g 1) 1 = L := by rw [eI12900, pp_ne _ _ (Or.inl (lyx_ne hy (by decide) (by decide) (by decide)))]; exact e12891
  have e12902 : I12900 (ad g 53) 1 = v12881 := by rw [eI12900, pp_ne _ _ (Or.inl (lyx_ne hy (by decide) (by decide) (by decide)))]; exact e12892
  have fr12903 : fz 74 g [53, 55] I I12900 := by rw [eI12900]; exact fzx_pp hy fr12893 (by decide) (by decide)
  clear eI12900
  refine WP_aload_n dX9_sleep_96 rfl ?_
  refine WP_getr dX9_sleep_97 fX9_75 rfl (lyx_is hy 53 4 rfl) (rfx hr 53 5 55 (by decide)) ?_
  refine WP_iload dX9_sleep_100 rfl ?_
  refine WQ_iconst (0) (0) dX9_sleep_102 rfl rfl (fun v12904 hv12904 => ?_)
  refine WQ_iadd dX9_sleep_103 (by omega) (by omega) (fun v12905 hv12905 => ?_)
  refine WP_aload_n dX9_sleep_104 rfl ?_
  refine WP_getr dX9_sleep_105 fX9_25 rfl (lyx_is hy 49 9 rfl) (rfx hr 49 2 5 (by decide)) ?_
  refine WP_iload dX9_sleep_108 rfl ?_
  refine WP_iload dX9_sleep_110 rfl ?_
  refine WP_iload_n dX9_sleep_112 rfl ?_
  refine WP_callV3 (k := 0) dX9_sleep_113 ⟨⟨⟨by decide, by decide⟩, zX0_coinsBehind⟩, lX9_137, by decide, rfl, vX0_coinsBehind.1, vX0_coinsBehind.2⟩ (lyx_is hy 5 0 rfl) (sx_cbx hy hr hI12900 co st da (by omega) (by omega) (by omega) (by omega) (by omega) (by omega)) (Nat.le_of_ble_eq_true rfl) ?_
  intro r Ia Ja Ra hq
  obtain ⟨⟨ea, eb, ec⟩, v12906, rfl, av12906, bv12906, cv12906⟩ := hq
  show WP _ _ _ _ (.int _ :: _) _ _ _ _
  rw [ea, eb, ec]
  clear ea eb ec Ia Ja Ra
  refine WQ_iast dX9_sleep_116 (lyx_is hy 55 13 rfl) (lyx_n hy 55 28 rfl) (by omega) (by omega) (fun I12907 eI12907 => ?_)
  have hI12907 : XI g n L I12907 := by rw [eI12907]; exact (fa_put hy hI12900 (c := 55) (k := 0) (s := so.toInt.toNat) (by decide) (by omega) (by decide) (by rw [cl (n := 7 * so.toInt.toNat + 0) (by omega)]) (fun _ => by omega) (fun _ => by omega))
  have e12908 : I12907 (ad g 1) 1 = L := by rw [eI12907, pp_ne _ _ (Or.inl (lyx_ne hy (by decide) (by decide) (by decide)))]; exact e12901
  have e12909 : I12907 (ad g 53) 1 = v12881 := by rw [eI12907, pp_ne _ _ (Or.inl (lyx_ne hy (by decide) (by decide) (by decide)))]; exact e12902
  have fr12910 : fz 74 g [53, 55] I I12907 := by rw [eI12907]; exact fzx_pp hy fr12903 (by decide) (by decide)
  clear eI12907
  refine WP_aload_n dX9_sleep_117 rfl ?_
  refine WP_getr dX9_sleep_118 fX9_75 rfl (lyx_is hy 53 4 rfl) (rfx hr 53 5 55 (by decide)) ?_
  refine WP_iload dX9_sleep_121 rfl ?_
  refine WQ_iconst (1) (1) dX9_sleep_123 rfl rfl (fun v12911 hv12911 => ?_)
  refine WQ_iadd dX9_sleep_124 (by omega) (by omega) (fun v12912 hv12912 => ?_)
  refine WP_iload dX9_sleep_125 rfl ?_
  refine WQ_iast dX9_sleep_127 (lyx_is hy 55 13 rfl) (lyx_n hy 55 28 rfl) (by omega) (by omega) (fun I12913 eI12913 => ?_)
  have hI12913 : XI g n L I12913 := by rw [eI12913]; exact (fa_put hy hI12907 (c := 55) (k := 1) (s := so.toInt.toNat) (by decide) (by omega) (by decide) (by rw [cl (n := 7 * so.toInt.toNat + 1) (by omega)]) (fun _ => by omega) (fun _ => by omega))
  have e12914 : I12913 (ad g 1) 1 = L := by rw [eI12913, pp_ne _ _ (Or.inl (lyx_ne hy (by decide) (by decide) (by decide)))]; exact e12908
  have e12915 : I12913 (ad g 53) 1 = v12881 := by rw [eI12913, pp_ne _ _ (Or.inl (lyx_ne hy (by decide) (by decide) (by decide)))]; exact e12909
  have fr12916 : fz 74 g [53, 55] I I12913 := by rw [eI12913]; exact fzx_pp hy fr12910 (by decide) (by decide)
  clear eI12913
  exact WP_vret dX9_sleep_128 rfl ⟨⟨hI12913, rfl, fr12916, (by rw [e12915, ew12873]; omega)⟩, rfl⟩
set_option maxHeartbeats 4000000 in
set_option maxRecDepth 100000 in
theorem sx_openChestf_53_27 {g : GG} {n : Int} {L : Int32} (hy : LyX g)  {I : pI} {J : pJ} {R : pR} (hr : RfX g R) (hT : R (ad g 5) 0 = some (ad g 27)) (hI : XI g n L I)   (hn : 0 ≤ n ∧ n ≤ 40000) : SP g mX9_openChest [.ref (ad g 49), .ref (ad g 53)] I J R (fun r I' J' R' => (XI g n L I' ∧ R' = R ∧ fz 74 g [53, 55] I I' ∧ (I' (ad g 53) 1).toInt ≤ (I (ad g 53) 1).toInt) ∧ r = none) := by
  refine SP_of ⟨by decide, rfl⟩ (Nat.le_of_ble_eq_true rfl) ?_
  have e12917 : I (ad g 1) 1 = L := hI.2
  have b12918 := BT_get hI.1 1 1 2 (0) (0) (900) (by decide) 1 (by decide) (by decide)
  rw [e12917] at b12918
  have fr0 : fz 74 g [53, 55] I I := fz_rf
  obtain ⟨w12919, ew12919⟩ : ∃ w : Int32, I (ad g 53) 1 = w := ⟨_, rfl⟩
  have bw12919 := BT_get hI.1 53 1 2 (0) (23760) (0) (by decide) 1 (by decide) (by decide)
  rw [ew12919] at bw12919
  refine WP_aload_n dX9_openChest_0 rfl ?_
  refine WP_getr dX9_openChest_1 fX9_25 rfl (lyx_is hy 49 9 rfl) (rfx hr 49 2 5 (by decide)) ?_
  refine WP_getr dX9_openChest_4 fX9_49 rfl (lyx_is hy 5 0 rfl) hT ?_
  refine WQ_geti dX9_openChest_7 fX9_68 rfl (lyx_is hy 27 7 rfl) (BT_get hI.1 27 3 4 (-1) (0) (3) (by decide) 3 (by decide) (by decide)) (fun v12920 ev12920 av12920 bv12920 => ?_)
  refine WP_istore_n (ls' := [(0, _), (1, _), (2, _)]) dX9_openChest_10 (by decide) rfl ?_
  refine WP_iload_n dX9_openChest_11 rfl ?_
  refine WQ_iconst (-1) (-1) dX9_openChest_12 rfl rfl (fun v12921 hv12921 => ?_)
  refine WQ_icmp_eq 32 dX9_openChest_13 rfl (fun c12921 => ?_) (fun c12921 => ?_)
  · exact WP_vret dX9_openChest_32 rfl ⟨⟨hI, rfl, fr0, (by omega)⟩, rfl⟩
  · refine WP_aload_n dX9_openChest_16 rfl ?_
    refine WP_getr dX9_openChest_17 fX9_25 rfl (lyx_is hy 49 9 rfl) (rfx hr 49 2 5 (by decide)) ?_
    refine WP_getr dX9_openChest_20 fX9_49 rfl (lyx_is hy 5 0 rfl) hT ?_
    refine WP_getr dX9_openChest_23 fX9_71 rfl (lyx_is hy 27 7 rfl) (rfx hr 27 6 29 (by decide)) ?_
    refine WP_iload_n dX9_openChest_26 rfl ?_
    refine WQ_iald dX9_openChest_27 (lyx_is hy 29 13 rfl) (lyx_n hy 29 4 rfl) (by omega) (by omega) (fun q hq => BT_get hI.1 29 0 4 (0) (0) (99) (by decide) q (Nat.zero_le _) hq) (fun v12923 av12923 bv12923 ev12923 => ?_)
    refine WQ_iconst (1) (1) dX9_openChest_28 rfl rfl (fun v12924 hv12924 => ?_)
    refine WQ_icmp_ge 33 dX9_openChest_29 rfl (fun c12924 => ?_) (fun c12924 => ?_)
    · refine WP_aload_n dX9_openChest_33 rfl ?_
      refine WP_getr dX9_openChest_34 fX9_25 rfl (lyx_is hy 49 9 rfl) (rfx hr 49 2 5 (by decide)) ?_
      refine WP_getr dX9_openChest_37 fX9_49 rfl (lyx_is hy 5 0 rfl) hT ?_
      refine WP_getr dX9_openChest_40 fX9_71 rfl (lyx_is hy 27 7 rfl) (rfx hr 27 6 29 (by decide)) ?_
      refine WP_iload_n dX9_openChest_43 rfl ?_
      refine WQ_ialde dX9_openChest_44 (lyx_is hy 29 13 rfl) (lyx_n hy 29 4 rfl) (by omega) (by omega) ev12923 ?_
      refine WP_istore_n (ls' := [(0, _), (1, _), (2, _), (3, _)]) dX9_openChest_45 (by decide) rfl ?_
      refine WP_aload_n dX9_openChest_46 rfl ?_
      refine WQ_getim dX9_openChest_47 fX9_74 rfl (lyx_is hy 53 4 rfl) ew12919 ?_
      refine WP_iload_n dX9_openChest_50 rfl ?_
      refine WQ_idivb dX9_openChest_51 (by omega) (by omega) (fun v12927 pv12927 av12927 bv12927 cv12927 => ?_)
      refine WP_istore (ls' := [(0, _), (1, _), (2, _), (3, _), (4, _)]) dX9_openChest_52 (by decide) rfl ?_
      refine WP_iload_n dX9_openChest_54 rfl ?_
      refine WQ_bipush (7) (7) dX9_openChest_55 rfl rfl (fun v12928 hv12928 => ?_)
      refine WQ_imulk (7) dX9_openChest_57 hv12928 (by omega) (by omega) (fun v12929 hv12929 => ?_)
      refine WP_istore (ls' := [(0, _), (1, _), (2, _), (3, _), (4, _), (5, _)]) dX9_openChest_58 (by decide) rfl ?_
      refine WP_aload_n dX9_openChest_60 rfl ?_
      refine WP_dup dX9_openChest_61 rfl ?_
      refine WQ_getim dX9_openChest_62 fX9_74 rfl (lyx_is hy 53 4 rfl) ew12919 ?_
      refine WP_iload dX9_openChest_65 rfl ?_
      refine WP_iload_n dX9_openChest_67 rfl ?_
      have knv12930 : 0 ≤ v12927.toInt * v12923.toInt := Int.mul_nonneg (by omega) (by omega)
      refine WQ_imulx dX9_openChest_68 (by omega) (by omega) (fun v12930 pv12930 => ?_)
      refine WQ_isub dX9_openChest_69 (by omega) (by omega) (fun v12931 hv12931 => ?_)
      refine WQ_puti dX9_openChest_70 fX9_74 rfl rfl (lyx_is hy 53 4 rfl) (fun I12932 eI12932 => ?_)
      have hI12932 : XI g n L I12932 := by rw [eI12932]; exact (xi_f hy hI (c := 53) (0) (23760) (0) (by decide) (Or.inl (by decide)) (by decide) (by omega) (by omega))
      have e12933 : I12932 (ad g 1) 1 = L := by rw [eI12932, pp_ne _ _ (Or.inl (lyx_ne hy (by decide) (by decide) (by decide)))]; exact e12917
      have e12934 : I12932 (ad g 27) 3 = v12920 := by rw [eI12932, pp_ne _ _ (Or.inl (lyx_ne hy (by decide) (by decide) (by decide)))]; exact ev12920
      have e12935 : I12932 (ad g 29) v12920.toNatClampNeg = v12923 := by rw [eI12932, pp_ne _ _ (Or.inl (lyx_ne hy (by decide) (by decide) (by decide)))]; exact ev12923
      have e12936 : I12932 (ad g 53) 1 = v12931 := by rw [eI12932, pp_self]
      have fr12937 : fz 74 g [53, 55] I I12932 := by rw [eI12932]; exact fzx_pp hy fr0 (by decide) (by decide)
      clear eI12932
      refine WP_aload_n dX9_openChest_73 rfl ?_
      refine WP_getr dX9_openChest_74 fX9_75 rfl (lyx_is hy 53 4 rfl) (rfx hr 53 5 55 (by decide)) ?_
      refine WP_iload dX9_openChest_77 rfl ?_
      refine WQ_bipush (6) (6) dX9_openChest_79 rfl rfl (fun v12938 hv12938 => ?_)
      refine WQ_iadd dX9_openChest_81 (by omega) (by omega) (fun v12939 hv12939 => ?_)
      refine WP_dup2 dX9_openChest_82 rfl rfl ?_
      refine WQ_ialdu dX9_openChest_83 (lyx_is hy 55 13 rfl) (lyx_n hy 55 28 rfl) (by omega) (by omega) (fun v12940 => ?_)
      refine WP_iload dX9_openChest_84 rfl ?_
      refine WP_iload_n dX9_openChest_86 rfl ?_
      have knv12941 : 0 ≤ v12927.toInt * v12923.toInt := Int.mul_nonneg (by omega) (by omega)
      refine WQ_imulx dX9_openChest_87 (by omega) (by omega) (fun v12941 pv12941 => ?_)
      refine WQ_iaddu dX9_openChest_88 (fun v12942 => ?_)
      refine WQ_iast dX9_openChest_89 (lyx_is hy 55 13 rfl) (lyx_n hy 55 28 rfl) (by omega) (by omega) (fun I12943 eI12943 => ?_)
      have hI12943 : XI g n L I12943 := by rw [eI12943]; exact (fa_put hy hI12932 (c := 55) (k := 6) (s := v12920.toInt.toNat) (by decide) (by omega) (by decide) (by rw [cl (n := 7 * v12920.toInt.toNat + 6) (by omega)]) (fun h => absurd h (by decide)) (fun h => absurd h (by decide)))
      have e12944 : I12943 (ad g 1) 1 = L := by rw [eI12943, pp_ne _ _ (Or.inl (lyx_ne hy (by decide) (by decide) (by decide)))]; exact e12933
      have e12945 : I12943 (ad g 27) 3 = v12920 := by rw [eI12943, pp_ne _ _ (Or.inl (lyx_ne hy (by decide) (by decide) (by decide)))]; exact e12934
      have e12946 : I12943 (ad g 29) v12920.toNatClampNeg = v12923 := by rw [eI12943, pp_ne _ _ (Or.inl (lyx_ne hy (by decide) (by decide) (by decide)))]; exact e12935
      have e12947 : I12943 (ad g 53) 1 = v12931 := by rw [eI12943, pp_ne _ _ (Or.inl (lyx_ne hy (by decide) (by decide) (by decide)))]; exact e12936
      have fr12948 : fz 74 g [53, 55] I I12943 := by rw [eI12943]; exact fzx_pp hy fr12937 (by decide) (by decide)
      clear eI12943
      refine WP_aload_n dX9_openChest_90 rfl ?_
      refine WP_getr dX9_openChest_91 fX9_75 rfl (lyx_is hy 53 4 rfl) (rfx hr 53 5 55 (by decide)) ?_
      refine WP_iload dX9_openChest_94 rfl ?_
      refine WQ_iconst (0) (0) dX9_openChest_96 rfl rfl (fun v12949 hv12949 => ?_)
      refine WQ_iadd dX9_openChest_97 (by omega) (by omega) (fun v12950 hv12950 => ?_)
      refine WQ_bipush (60) (60) dX9_openChest_98 rfl rfl (fun v12951 hv12951 => ?_)
      refine WP_aload_n dX9_openChest_100 rfl ?_
      refine WP_getr dX9_openChest_101 fX9_75 rfl (lyx_is hy 53 4 rfl) (rfx hr 53 5 55 (by decide)) ?_
      refine WP_iload dX9_openChest_104 rfl ?_
      refine WQ_iconst (0) (0) dX9_openChest_106 rfl rfl (fun v12952 hv12952 => ?_)
      refine WQ_iadd dX9_openChest_107 (by omega) (by omega) (fun v12953 hv12953 => ?_)
      refine WQ_ialdf (q := 7 * v12920.toInt.toNat) dX9_openChest_108 (lyx_is hy 55 13 rfl) (lyx_n hy 55 28 rfl) (by omega) (by omega) (by omega) (fa_get0 hI12943 (c := 55) (by decide) (by omega)) (fun v12954 av12954 bv12954 => ?_)
      refine WP_iload dX9_openChest_109 rfl ?_
      refine WQ_iadd dX9_openChest_111 (by omega) (by omega) (fun v12955 hv12955 => ?_)
      refine WQ_min dX9_openChest_112 lX9_78 ⟨by decide, Nat.le_of_ble_eq_true rfl⟩ (fun v12956 av12956 bv12956 cv12956 => ?_)
      refine WQ_iast dX9_openChest_115 (lyx_is hy 55 13 rfl) (lyx_n hy 55 28 rfl) (by omega) (by omega) (fun I12957 eI12957 => ?_)
      have hI12957 : XI g n L I12957 := by rw [eI12957]; exact (fa_put hy hI12943 (c := 55) (k := 0) (s := v12920.toInt.toNat) (by decide) (by omega) (by decide) (by rw [cl (n := 7 * v12920.toInt.toNat + 0) (by omega)]) (fun _ => by omega) (fun _ => by omega))
      have e12958 : I12957 (ad g 1) 1 = L := by rw [eI12957, pp_ne _ _ (Or.inl (lyx_ne hy (by decide) (by decide) (by decide)))]; exact e12944
      have e12959 : I12957 (ad g 27) 3 = v12920 := by rw [eI12957, pp_ne _ _ (Or.inl (lyx_ne hy (by decide) (by decide) (by decide)))]; exact e12945
      have e12960 : I12957 (ad g 29) v12920.toNatClampNeg = v12923 := by rw [eI12957, pp_ne _ _ (Or.inl (lyx_ne hy (by decide) (by decide) (by decide)))]; exact e12946
      have e12961 : I12957 (ad g 53) 1 = v12931 := by rw [eI12957, pp_ne _ _ (Or.inl (lyx_ne hy (by decide) (by decide) (by decide)))]; exact e12947
      have fr12962 : fz 74 g [53, 55] I I12957 := by rw [eI12957]; exact fzx_pp hy fr12948 (by decide) (by decide)
      clear eI12957
      exact WP_vret dX9_openChest_116 rfl ⟨⟨hI12957, rfl, fr12962, (by rw [e12961, ew12919]; omega)⟩, rfl⟩
    · exact WP_vret dX9_openChest_32 rfl ⟨⟨hI, rfl, fr0, (by omega)⟩, rfl⟩
set_option maxHeartbeats 4000000 in
set_option maxRecDepth 100000 in
theorem sx_wsleepf_53_27 {g : GG} {n : Int} {L : Int32} (hy : LyX g)  {I : pI} {J : pJ} {R : pR} (hr : RfX g R) (hT : R (ad g 5) 0 = some (ad g 27)) (hI : XI g n L I) (so : Int32) (da : Int32) (co : Int32) (st : Int32) (so_lo : 0 ≤ so.toInt) (so_hi : so.toInt ≤ 3) (da_lo : 0 ≤ da.toInt) (da_hi : da.toInt ≤ 6) (co_lo : 0 ≤ co.toInt) (co_hi : co.toInt ≤ 60) (st_lo : 0 ≤ st.toInt) (st_hi : st.toInt ≤ 5) (hn : 0 ≤ n ∧ n ≤ 40000) (hb : (I (ad g 53) 1).toInt ≤ 23760 * n + 0 - 5940) : SP g mX9_sleep [.ref (ad g 49), .ref (ad g 53), .int so, .int da, .int co, .int st] I J R (fun r I' J' R' => (XI g n L I' ∧ R' = R ∧ fz 74 g [53, 55] I I' ∧ (I' (ad g 53) 1).toInt ≤ (I (ad g 53) 1).toInt + 5940) ∧ r = none) := by
  refine SP_of ⟨by decide, rfl⟩ (Nat.le_of_ble_eq_true rfl) ?_
  have e12963 : I (ad g 1) 1 = L := hI.2
  have b12964 := BT_get hI.1 1 1 2 (0) (0) (900) (by decide) 1 (by decide) (by decide)
  rw [e12963] at b12964
  have fr0 : fz 74 g [53, 55] I I := fz_rf
  obtain ⟨w12965, ew12965⟩ : ∃ w : Int32, I (ad g 53) 1 = w := ⟨_, rfl⟩
  have bw12965 := BT_get hI.1 53 1 2 (0) (23760) (0) (by decide) 1 (by decide) (by decide)
  rw [ew12965] at bw12965
  rw [ew12965] at hb
  refine WP_iload_n dX9_sleep_0 rfl ?_
  refine WQ_bipush (7) (7) dX9_sleep_1 rfl rfl (fun v12966 hv12966 => ?_)
  refine WQ_imulk (7) dX9_sleep_3 hv12966 (by omega) (by omega) (fun v12967 hv12967 => ?_)
  refine WP_istore (ls' := [(0, _), (1, _), (2, _), (3, _), (4, _), (5, _), (6, _)]) dX9_sleep_4 (by decide) rfl ?_
  refine WP_aload_n dX9_sleep_6 rfl ?_
  refine WP_getr dX9_sleep_7 fX9_25 rfl (lyx_is hy 49 9 rfl) (rfx hr 49 2 5 (by decide)) ?_
  refine WP_getr dX9_sleep_10 fX9_49 rfl (lyx_is hy 5 0 rfl) hT ?_
  refine WP_getr dX9_sleep_13 fX9_71 rfl (lyx_is hy 27 7 rfl) (rfx hr 27 6 29 (by decide)) ?_
  refine WP_iload_n dX9_sleep_16 rfl ?_
  refine WQ_iald dX9_sleep_17 (lyx_is hy 29 13 rfl) (lyx_n hy 29 4 rfl) (by omega) (by omega) (fun q hq => BT_get hI.1 29 0 4 (0) (0) (99) (by decide) q (Nat.zero_le _) hq) (fun v12968 av12968 bv12968 ev12968 => ?_)
  clear ev12968
  refine WP_istore (ls' := [(0, _), (1, _), (2, _), (3, _), (4, _), (5, _), (6, _), (7, _)]) dX9_sleep_18 (by decide) rfl ?_
  refine WP_iload dX9_sleep_20 rfl ?_
  refine WP_iload dX9_sleep_22 rfl ?_
  refine WP_aload_n dX9_sleep_24 rfl ?_
  refine WP_getr dX9_sleep_25 fX9_25 rfl (lyx_is hy 49 9 rfl) (rfx hr 49 2 5 (by decide)) ?_
  refine WP_getr dX9_sleep_28 fX9_128 rfl (lyx_is hy 5 0 rfl) (rfx hr 5 2 23 (by decide)) ?_
  refine WP_iload_n dX9_sleep_31 rfl ?_
  refine WQ_iald dX9_sleep_32 (lyx_is hy 23 13 rfl) (lyx_n hy 23 7 rfl) (by omega) (by omega) (fun q hq => BT_get hI.1 23 0 7 (0) (0) (900) (by decide) q (Nat.zero_le _) hq) (fun v12969 av12969 bv12969 ev12969 => ?_)
  clear ev12969
  refine WP_callN2 dX9_sleep_33 ⟨⟨⟨by decide, by decide⟩, zX10_stampsOf⟩, lX9_131, tX10_stampsOf⟩ (sx_stampsOf hy hr hI co v12969 (by omega) (by omega) (by omega) (by omega)) (Nat.le_of_ble_eq_true rfl) ?_
  intro r Ia Ja Ra hq
  obtain ⟨⟨ea, eb, ec⟩, v12970, rfl, av12970, bv12970, cv12970⟩ := hq
  show WP _ _ _ _ (.int _ :: _) _ _ _ _
  rw [ea, eb, ec]
  clear ea eb ec Ia Ja Ra
  refine WQ_imulb (99) (999) dX9_sleep_36 ⟨by omega, by omega⟩ ⟨by omega, by omega⟩ (by decide) (fun v12971 pv12971 av12971 bv12971 cv12971 => ?_)
  refine WP_istore (ls' := [(0, _), (1, _), (2, _), (3, _), (4, _), (5, _), (6, _), (7, _), (8, _)]) dX9_sleep_37 (by decide) rfl ?_
  refine WP_aload_n dX9_sleep_39 rfl ?_
  refine WP_getr dX9_sleep_40 fX9_25 rfl (lyx_is hy 49 9 rfl) (rfx hr 49 2 5 (by decide)) ?_
  refine WP_getr dX9_sleep_43 fX9_134 rfl (lyx_is hy 5 0 rfl) (rfx hr 5 5 26 (by decide)) ?_
  refine WP_iload dX9_sleep_46 rfl ?_
  refine WQ_iald dX9_sleep_48 (lyx_is hy 26 13 rfl) (lyx_n hy 26 6 rfl) (by omega) (by omega) (fun q hq => BT_get hI.1 26 0 6 (0) (0) (5) (by decide) q (Nat.zero_le _) hq) (fun v12972 av12972 bv12972 ev12972 => ?_)
  clear ev12972
  refine WP_istore (ls' := [(0, _), (1, _), (2, _), (3, _), (4, _), (5, _), (6, _), (7, _), (8, _), (9, _)]) dX9_sleep_49 (by decide) rfl ?_
  refine WP_aload_n dX9_sleep_51 rfl ?_
  refine WP_dup dX9_sleep_52 rfl ?_
  refine WQ_getim dX9_sleep_53 fX9_74 rfl (lyx_is hy 53 4 rfl) ew12965 ?_
  refine WP_iload dX9_sleep_56 rfl ?_
  refine WQ_iadd dX9_sleep_58 (by omega) (by omega) (fun v12973 hv12973 => ?_)
  refine WQ_puti dX9_sleep_59 fX9_74 rfl rfl (lyx_is hy 53 4 rfl) (fun I12974 eI12974 => ?_)
  have hI12974 : XI g n L I12974 := by rw [eI12974]; exact (xi_f hy hI (c := 53) (0) (23760) (0) (by decide) (Or.inl (by decide)) (by decide) (by omega) (by omega))
  have e12975 : I12974 (ad g 1) 1 = L := by rw [eI12974, pp_ne _ _ (Or.inl (lyx_ne hy (by decide) (by decide) (by decide)))]; exact e12963
  have e12976 : I12974 (ad g 53) 1 = v12973 := by rw [eI12974, pp_self]
  have fr12977 : fz 74 g [53, 55] I I12974 := by rw [eI12974]; exact fzx_pp hy fr0 (by decide) (by decide)
  clear eI12974
  refine WP_aload_n dX9_sleep_62 rfl ?_
  refine WP_getr dX9_sleep_63 fX9_75 rfl (lyx_is hy 53 4 rfl) (rfx hr 53 5 55 (by decide)) ?_
  refine WP_iload dX9_sleep_66 rfl ?_
  refine WQ_iconst (3) (3) dX9_sleep_68 rfl rfl (fun v12978 hv12978 => ?_)
  refine WQ_iadd dX9_sleep_69 (by omega) (by omega) (fun v12979 hv12979 => ?_)
  refine WP_dup2 dX9_sleep_70 rfl rfl ?_
  refine WQ_ialdu dX9_sleep_71 (lyx_is hy 55 13 rfl) (lyx_n hy 55 28 rfl) (by omega) (by omega) (fun v12980 => ?_)
  refine WP_iload dX9_sleep_72 rfl ?_
  refine WQ_iaddu dX9_sleep_74 (fun v12981 => ?_)
  refine WQ_iast dX9_sleep_75 (lyx_is hy 55 13 rfl) (lyx_n hy 55 28 rfl) (by omega) (by omega) (fun I12982 eI12982 => ?_)
  have hI12982 : XI g n L I12982 := by rw [eI12982]; exact (fa_put hy hI12974 (c := 55) (k := 3) (s := so.toInt.toNat) (by decide) (by omega) (by decide) (by rw [cl (n := 7 * so.toInt.toNat + 3) (by omega)]) (fun h => absurd h (by decide)) (fun h => absurd h (by decide)))
  have e12983 : I12982 (ad g 1) 1 = L := by rw [eI12982, pp_ne _ _ (Or.inl (lyx_ne hy (by decide) (by decide) (by decide)))]; exact e12975
  have e12984 : I12982 (ad g 53) 1 = v12973 := by rw [eI12982, pp_ne _ _ (Or.inl (lyx_ne hy (by decide) (by decide) (by decide)))]; exact e12976
  have fr12985 : fz 74 g [53, 55] I I12982 := by rw [eI12982]; exact fzx_pp hy fr12977 (by decide) (by decide)
  clear eI12982
  refine WP_aload_n dX9_sleep_76 rfl ?_
  refine WP_getr dX9_sleep_77 fX9_75 rfl (lyx_is hy 53 4 rfl) (rfx hr 53 5 55 (by decide)) ?_
  refine WP_iload dX9_sleep_80 rfl ?_
  refine WQ_iconst (5) (5) dX9_sleep_82 rfl rfl (fun v12986 hv12986 => ?_)
  refine WQ_iadd dX9_sleep_83 (by omega) (by omega) (fun v12987 hv12987 => ?_)
  refine WP_dup2 dX9_sleep_84 rfl rfl ?_
  refine WQ_ialdu dX9_sleep_85 (lyx_is hy 55 13 rfl) (lyx_n hy 55 28 rfl) (by omega) (by omega) (fun v12988 => ?_)
  refine WP_iload dX9_sleep_86 rfl ?_
  refine WP_iload dX9_sleep_88 rfl ?_
  refine WP_iload dX9_sleep_90 rfl ?_
  refine WQ_isub dX9_sleep_92 (by omega) (by omega) (fun v12989 hv12989 => ?_)
  refine WQ_imulu dX9_sleep_93 (fun v12990 => ?_)
  refine WQ_iaddu dX9_sleep_94 (fun v12991 => ?_)
  refine WQ_iast dX9_sleep_95 (lyx_is hy 55 13 rfl) (lyx_n hy 55 28 rfl) (by omega) (by omega) (fun I12992 eI12992 => ?_)
  have hI12992 : XI g n L I12992 := by rw [eI12992]; exact (fa_put hy hI12982 (c := 55) (k := 5) (s := so.toInt.toNat) (by decide) (by omega) (by decide) (by rw [cl (n := 7 * so.toInt.toNat + 5) (by omega)]) (fun h => absurd h (by decide)) (fun h => absurd h (by decide)))
  have e12993 : I12992 (ad g 1) 1 = L := by rw [eI12992, pp_ne _ _ (Or.inl (lyx_ne hy (by decide) (by decide) (by decide)))]; exact e12983
  have e12994 : I12992 (ad g 53) 1 = v12973 := by rw [eI12992, pp_ne _ _ (Or.inl (lyx_ne hy (by decide) (by decide) (by decide)))]; exact e12984
  have fr12995 : fz 74 g [53, 55] I I12992 := by rw [eI12992]; exact fzx_pp hy fr12985 (by decide) (by decide)
  clear eI12992
  refine WP_aload_n dX9_sleep_96 rfl ?_
  refine WP_getr dX9_sleep_97 fX9_75 rfl (lyx_is hy 53 4 rfl) (rfx hr 53 5 55 (by decide)) ?_
  refine WP_iload dX9_sleep_100 rfl ?_
  refine WQ_iconst (0) (0) dX9_sleep_102 rfl rfl (fun v12996 hv12996 => ?_)
  refine WQ_iadd dX9_sleep_103 (by omega) (by omega) (fun v12997 hv12997 => ?_)
  refine WP_aload_n dX9_sleep_104 rfl ?_
  refine WP_getr dX9_sleep_105 fX9_25 rfl (lyx_is hy 49 9 rfl) (rfx hr 49 2 5 (by decide)) ?_
  refine WP_iload dX9_sleep_108 rfl ?_
  refine WP_iload dX9_sleep_110 rfl ?_
  refine WP_iload_n dX9_sleep_112 rfl ?_
  refine WP_callV3 (k := 0) dX9_sleep_113 ⟨⟨⟨by decide, by decide⟩, zX0_coinsBehind⟩, lX9_137, by decide, rfl, vX0_coinsBehind.1, vX0_coinsBehind.2⟩ (lyx_is hy 5 0 rfl) (sx_cbx hy hr hI12992 co st da (by omega) (by omega) (by omega) (by omega) (by omega) (by omega)) (Nat.le_of_ble_eq_true rfl) ?_
  intro r Ia Ja Ra hq
  obtain ⟨⟨ea, eb, ec⟩, v12998, rfl, av12998, bv12998, cv12998⟩ := hq
  show WP _ _ _ _ (.int _ :: _) _ _ _ _
  rw [ea, eb, ec]
  clear ea eb ec Ia Ja Ra
  refine WQ_iast dX9_sleep_116 (lyx_is hy 55 13 rfl) (lyx_n hy 55 28 rfl) (by omega) (by omega) (fun I12999 eI12999 => ?_)
  have hI12999 : XI g n L I12999 := by rw [eI12999]; exact (fa_put hy hI12992 (c := 55) (k := 0) (s := so.toInt.toNat) (by decide) (by omega) (by decide) (by rw [cl (n := 7 * so.toInt.toNat + 0) (by omega)]) (fun _ => by omega) (fun _ => by omega))
  have e13000 : I12999 (ad g 1) 1 = L := by rw [eI12999, pp_ne _ _ (Or.inl (lyx_ne hy (by decide) (by decide) (by decide)))]; exact e12993
  have e13001 : I12999 (ad g 53) 1 = v12973 := by rw [eI12999, pp_ne _ _ (Or.inl (lyx_ne hy (by decide) (by decide) (by decide)))]; exact e12994
  have fr13002 : fz 74 g [53, 55] I I12999 := by rw [eI12999]; exact fzx_pp hy fr12995 (by decide) (by decide)
  clear eI12999
  refine WP_aload_n dX9_sleep_117 rfl ?_
  refine WP_getr dX9_sleep_118 fX9_75 rfl (lyx_is hy 53 4 rfl) (rfx hr 53 5 55 (by decide)) ?_
  refine WP_iload dX9_sleep_121 rfl ?_
  refine WQ_iconst (1) (1) dX9_sleep_123 rfl rfl (fun v13003 hv13003 => ?_)
  refine WQ_iadd dX9_sleep_124 (by omega) (by omega) (fun v13004 hv13004 => ?_)
  refine WP_iload dX9_sleep_125 rfl ?_
  refine WQ_iast dX9_sleep_127 (lyx_is hy 55 13 rfl) (lyx_n hy 55 28 rfl) (by omega) (by omega) (fun I13005 eI13005 => ?_)
  have hI13005 : XI g n L I13005 := by rw [eI13005]; exact (fa_put hy hI12999 (c := 55) (k := 1) (s := so.toInt.toNat) (by decide) (by omega) (by decide) (by rw [cl (n := 7 * so.toInt.toNat + 1) (by omega)]) (fun _ => by omega) (fun _ => by omega))
  have e13006 : I13005 (ad g 1) 1 = L := by rw [eI13005, pp_ne _ _ (Or.inl (lyx_ne hy (by decide) (by decide) (by decide)))]; exact e13000
  have e13007 : I13005 (ad g 53) 1 = v12973 := by rw [eI13005, pp_ne _ _ (Or.inl (lyx_ne hy (by decide) (by decide) (by decide)))]; exact e13001
  have fr13008 : fz 74 g [53, 55] I I13005 := by rw [eI13005]; exact fzx_pp hy fr13002 (by decide) (by decide)
  clear eI13005
  exact WP_vret dX9_sleep_128 rfl ⟨⟨hI13005, rfl, fr13008, (by rw [e13007, ew12965]; omega)⟩, rfl⟩
set_option maxHeartbeats 4000000 in
set_option maxRecDepth 100000 in
theorem sx_openChestf_56_6 {g : GG} {n : Int} {L : Int32} (hy : LyX g)  {I : pI} {J : pJ} {R : pR} (hr : RfX g R) (hT : R (ad g 5) 0 = some (ad g 6)) (hI : XI g n L I)   (hn : 0 ≤ n ∧ n ≤ 40000) : SP g mX9_openChest [.ref (ad g 49), .ref (ad g 56)] I J R (fun r I' J' R' => (XI g n L I' ∧ R' = R ∧ fz 74 g [56, 58] I I' ∧ (I' (ad g 56) 1).toInt ≤ (I (ad g 56) 1).toInt) ∧ r = none) := by
  refine SP_of ⟨by decide, rfl⟩ (Nat.le_of_ble_eq_true rfl) ?_
  have e13009 : I (ad g 1) 1 = L := hI.2
  have b13010 := BT_get hI.1 1 1 2 (0) (0) (900) (by decide) 1 (by decide) (by decide)
  rw [e13009] at b13010
  have fr0 : fz 74 g [56, 58] I I := fz_rf
  obtain ⟨w13011, ew13011⟩ : ∃ w : Int32, I (ad g 56) 1 = w := ⟨_, rfl⟩
  have bw13011 := BT_get hI.1 56 1 2 (0) (23760) (700000) (by decide) 1 (by decide) (by decide)
  rw [ew13011] at bw13011
  refine WP_aload_n dX9_openChest_0 rfl ?_
  refine WP_getr dX9_openChest_1 fX9_25 rfl (lyx_is hy 49 9 rfl) (rfx hr 49 2 5 (by decide)) ?_
  refine WP_getr dX9_openChest_4 fX9_49 rfl (lyx_is hy 5 0 rfl) hT ?_
  refine WQ_geti dX9_openChest_7 fX9_68 rfl (lyx_is hy 6 7 rfl) (BT_get hI.1 6 3 4 (-1) (0) (3) (by decide) 3 (by decide) (by decide)) (fun v13012 ev13012 av13012 bv13012 => ?_)
  refine WP_istore_n (ls' := [(0, _), (1, _), (2, _)]) dX9_openChest_10 (by decide) rfl ?_
  refine WP_iload_n dX9_openChest_11 rfl ?_
  refine WQ_iconst (-1) (-1) dX9_openChest_12 rfl rfl (fun v13013 hv13013 => ?_)
  refine WQ_icmp_eq 32 dX9_openChest_13 rfl (fun c13013 => ?_) (fun c13013 => ?_)
  · exact WP_vret dX9_openChest_32 rfl ⟨⟨hI, rfl, fr0, (by omega)⟩, rfl⟩
  · refine WP_aload_n dX9_openChest_16 rfl ?_
    refine WP_getr dX9_openChest_17 fX9_25 rfl (lyx_is hy 49 9 rfl) (rfx hr 49 2 5 (by decide)) ?_
    refine WP_getr dX9_openChest_20 fX9_49 rfl (lyx_is hy 5 0 rfl) hT ?_
    refine WP_getr dX9_openChest_23 fX9_71 rfl (lyx_is hy 6 7 rfl) (rfx hr 6 6 8 (by decide)) ?_
    refine WP_iload_n dX9_openChest_26 rfl ?_
    refine WQ_iald dX9_openChest_27 (lyx_is hy 8 13 rfl) (lyx_n hy 8 4 rfl) (by omega) (by omega) (fun q hq => BT_get hI.1 8 0 4 (0) (0) (99) (by decide) q (Nat.zero_le _) hq) (fun v13015 av13015 bv13015 ev13015 => ?_)
    refine WQ_iconst (1) (1) dX9_openChest_28 rfl rfl (fun v13016 hv13016 => ?_)
    refine WQ_icmp_ge 33 dX9_openChest_29 rfl (fun c13016 => ?_) (fun c13016 => ?_)
    · refine WP_aload_n dX9_openChest_33 rfl ?_
      refine WP_getr dX9_openChest_34 fX9_25 rfl (lyx_is hy 49 9 rfl) (rfx hr 49 2 5 (by decide)) ?_
      refine WP_getr dX9_openChest_37 fX9_49 rfl (lyx_is hy 5 0 rfl) hT ?_
      refine WP_getr dX9_openChest_40 fX9_71 rfl (lyx_is hy 6 7 rfl) (rfx hr 6 6 8 (by decide)) ?_
      refine WP_iload_n dX9_openChest_43 rfl ?_
      refine WQ_ialde dX9_openChest_44 (lyx_is hy 8 13 rfl) (lyx_n hy 8 4 rfl) (by omega) (by omega) ev13015 ?_
      refine WP_istore_n (ls' := [(0, _), (1, _), (2, _), (3, _)]) dX9_openChest_45 (by decide) rfl ?_
      refine WP_aload_n dX9_openChest_46 rfl ?_
      refine WQ_getim dX9_openChest_47 fX9_74 rfl (lyx_is hy 56 4 rfl) ew13011 ?_
      refine WP_iload_n dX9_openChest_50 rfl ?_
      refine WQ_idivb dX9_openChest_51 (by omega) (by omega) (fun v13019 pv13019 av13019 bv13019 cv13019 => ?_)
      refine WP_istore (ls' := [(0, _), (1, _), (2, _), (3, _), (4, _)]) dX9_openChest_52 (by decide) rfl ?_
      refine WP_iload_n dX9_openChest_54 rfl ?_
      refine WQ_bipush (7) (7) dX9_openChest_55 rfl rfl (fun v13020 hv13020 => ?_)
      refine WQ_imulk (7) dX9_openChest_57 hv13020 (by omega) (by omega) (fun v13021 hv13021 => ?_)
      refine WP_istore (ls' := [(0, _), (1, _), (2, _), (3, _), (4, _), (5, _)]) dX9_openChest_58 (by decide) rfl ?_
      refine WP_aload_n dX9_openChest_60 rfl ?_
      refine WP_dup dX9_openChest_61 rfl ?_
      refine WQ_getim dX9_openChest_62 fX9_74 rfl (lyx_is hy 56 4 rfl) ew13011 ?_
      refine WP_iload dX9_openChest_65 rfl ?_
      refine WP_iload_n dX9_openChest_67 rfl ?_
      have knv13022 : 0 ≤ v13019.toInt * v13015.toInt := Int.mul_nonneg (by omega) (by omega)
      refine WQ_imulx dX9_openChest_68 (by omega) (by omega) (fun v13022 pv13022 => ?_)
      refine WQ_isub dX9_openChest_69 (by omega) (by omega) (fun v13023 hv13023 => ?_)
      refine WQ_puti dX9_openChest_70 fX9_74 rfl rfl (lyx_is hy 56 4 rfl) (fun I13024 eI13024 => ?_)
      have hI13024 : XI g n L I13024 := by rw [eI13024]; exact (xi_f hy hI (c := 56) (0) (23760) (700000) (by decide) (Or.inl (by decide)) (by decide) (by omega) (by omega))
      have e13025 : I13024 (ad g 1) 1 = L := by rw [eI13024, pp_ne _ _ (Or.inl (lyx_ne hy (by decide) (by decide) (by decide)))]; exact e13009
      have e13026 : I13024 (ad g 6) 3 = v13012 := by rw [eI13024, pp_ne _ _ (Or.inl (lyx_ne hy (by decide) (by decide) (by decide)))]; exact ev13012
      have e13027 : I13024 (ad g 8) v13012.toNatClampNeg = v13015 := by rw [eI13024, pp_ne _ _ (Or.inl (lyx_ne hy (by decide) (by decide) (by decide)))]; exact ev13015
      have e13028 : I13024 (ad g 56) 1 = v13023 := by rw [eI13024, pp_self]
      have fr13029 : fz 74 g [56, 58] I I13024 := by rw [eI13024]; exact fzx_pp hy fr0 (by decide) (by decide)
      clear eI13024
      refine WP_aload_n dX9_openChest_73 rfl ?_
      refine WP_getr dX9_openChest_74 fX9_75 rfl (lyx_is hy 56 4 rfl) (rfx hr 56 5 58 (by decide)) ?_
      refine WP_iload dX9_openChest_77 rfl ?_
      refine WQ_bipush (6) (6) dX9_openChest_79 rfl rfl (fun v13030 hv13030 => ?_)
      refine WQ_iadd dX9_openChest_81 (by omega) (by omega) (fun v13031 hv13031 => ?_)
      refine WP_dup2 dX9_openChest_82 rfl rfl ?_
      refine WQ_ialdu dX9_openChest_83 (lyx_is hy 58 13 rfl) (lyx_n hy 58 28 rfl) (by omega) (by omega) (fun v13032 => ?_)
      refine WP_iload dX9_openChest_84 rfl ?_
      refine WP_iload_n dX9_openChest_86 rfl ?_
      have knv13033 : 0 ≤ v13019.toInt * v13015.toInt := Int.mul_nonneg (by omega) (by omega)
      refine WQ_imulx dX9_openChest_87 (by omega) (by omega) (fun v13033 pv13033 => ?_)
      refine WQ_iaddu dX9_openChest_88 (fun v13034 => ?_)
      refine WQ_iast dX9_openChest_89 (lyx_is hy 58 13 rfl) (lyx_n hy 58 28 rfl) (by omega) (by omega) (fun I13035 eI13035 => ?_)
      have hI13035 : XI g n L I13035 := by rw [eI13035]; exact (fa_put hy hI13024 (c := 58) (k := 6) (s := v13012.toInt.toNat) (by decide) (by omega) (by decide) (by rw [cl (n := 7 * v13012.toInt.toNat + 6) (by omega)]) (fun h => absurd h (by decide)) (fun h => absurd h (by decide)))
      have e13036 : I13035 (ad g 1) 1 = L := by rw [eI13035, pp_ne _ _ (Or.inl (lyx_ne hy (by decide) (by decide) (by decide)))]; exact e13025
      have e13037 : I13035 (ad g 6) 3 = v13012 := by rw [eI13035, pp_ne _ _ (Or.inl (lyx_ne hy (by decide) (by decide) (by decide)))]; exact e13026
      have e13038 : I13035 (ad g 8) v13012.toNatClampNeg = v13015 := by rw [eI13035, pp_ne _ _ (Or.inl (lyx_ne hy (by decide) (by decide) (by decide)))]; exact e13027
      have e13039 : I13035 (ad g 56) 1 = v13023 := by rw [eI13035, pp_ne _ _ (Or.inl (lyx_ne hy (by decide) (by decide) (by decide)))]; exact e13028
      have fr13040 : fz 74 g [56, 58] I I13035 := by rw [eI13035]; exact fzx_pp hy fr13029 (by decide) (by decide)
      clear eI13035
      refine WP_aload_n dX9_openChest_90 rfl ?_
      refine WP_getr dX9_openChest_91 fX9_75 rfl (lyx_is hy 56 4 rfl) (rfx hr 56 5 58 (by decide)) ?_
      refine WP_iload dX9_openChest_94 rfl ?_
      refine WQ_iconst (0) (0) dX9_openChest_96 rfl rfl (fun v13041 hv13041 => ?_)
      refine WQ_iadd dX9_openChest_97 (by omega) (by omega) (fun v13042 hv13042 => ?_)
      refine WQ_bipush (60) (60) dX9_openChest_98 rfl rfl (fun v13043 hv13043 => ?_)
      refine WP_aload_n dX9_openChest_100 rfl ?_
      refine WP_getr dX9_openChest_101 fX9_75 rfl (lyx_is hy 56 4 rfl) (rfx hr 56 5 58 (by decide)) ?_
      refine WP_iload dX9_openChest_104 rfl ?_
      refine WQ_iconst (0) (0) dX9_openChest_106 rfl rfl (fun v13044 hv13044 => ?_)
      refine WQ_iadd dX9_openChest_107 (by omega) (by omega) (fun v13045 hv13045 => ?_)
      refine WQ_ialdf (q := 7 * v13012.toInt.toNat) dX9_openChest_108 (lyx_is hy 58 13 rfl) (lyx_n hy 58 28 rfl) (by omega) (by omega) (by omega) (fa_get0 hI13035 (c := 58) (by decide) (by omega)) (fun v13046 av13046 bv13046 => ?_)
      refine WP_iload dX9_openChest_109 rfl ?_
      refine WQ_iadd dX9_openChest_111 (by omega) (by omega) (fun v13047 hv13047 => ?_)
      refine WQ_min dX9_openChest_112 lX9_78 ⟨by decide, Nat.le_of_ble_eq_true rfl⟩ (fun v13048 av13048 bv13048 cv13048 => ?_)
      refine WQ_iast dX9_openChest_115 (lyx_is hy 58 13 rfl) (lyx_n hy 58 28 rfl) (by omega) (by omega) (fun I13049 eI13049 => ?_)
      have hI13049 : XI g n L I13049 := by rw [eI13049]; exact (fa_put hy hI13035 (c := 58) (k := 0) (s := v13012.toInt.toNat) (by decide) (by omega) (by decide) (by rw [cl (n := 7 * v13012.toInt.toNat + 0) (by omega)]) (fun _ => by omega) (fun _ => by omega))
      have e13050 : I13049 (ad g 1) 1 = L := by rw [eI13049, pp_ne _ _ (Or.inl (lyx_ne hy (by decide) (by decide) (by decide)))]; exact e13036
      have e13051 : I13049 (ad g 6) 3 = v13012 := by rw [eI13049, pp_ne _ _ (Or.inl (lyx_ne hy (by decide) (by decide) (by decide)))]; exact e13037
      have e13052 : I13049 (ad g 8) v13012.toNatClampNeg = v13015 := by rw [eI13049, pp_ne _ _ (Or.inl (lyx_ne hy (by decide) (by decide) (by decide)))]; exact e13038
      have e13053 : I13049 (ad g 56) 1 = v13023 := by rw [eI13049, pp_ne _ _ (Or.inl (lyx_ne hy (by decide) (by decide) (by decide)))]; exact e13039
      have fr13054 : fz 74 g [56, 58] I I13049 := by rw [eI13049]; exact fzx_pp hy fr13040 (by decide) (by decide)
      clear eI13049
      exact WP_vret dX9_openChest_116 rfl ⟨⟨hI13049, rfl, fr13054, (by rw [e13053, ew13011]; omega)⟩, rfl⟩
    · exact WP_vret dX9_openChest_32 rfl ⟨⟨hI, rfl, fr0, (by omega)⟩, rfl⟩
set_option maxHeartbeats 4000000 in
set_option maxRecDepth 100000 in
theorem sx_wsleepf_56_6 {g : GG} {n : Int} {L : Int32} (hy : LyX g)  {I : pI} {J : pJ} {R : pR} (hr : RfX g R) (hT : R (ad g 5) 0 = some (ad g 6)) (hI : XI g n L I) (so : Int32) (da : Int32) (co : Int32) (st : Int32) (so_lo : 0 ≤ so.toInt) (so_hi : so.toInt ≤ 3) (da_lo : 0 ≤ da.toInt) (da_hi : da.toInt ≤ 6) (co_lo : 0 ≤ co.toInt) (co_hi : co.toInt ≤ 60) (st_lo : 0 ≤ st.toInt) (st_hi : st.toInt ≤ 5) (hn : 0 ≤ n ∧ n ≤ 40000) (hb : (I (ad g 56) 1).toInt ≤ 23760 * n + 700000 - 5940) : SP g mX9_sleep [.ref (ad g 49), .ref (ad g 56), .int so, .int da, .int co, .int st] I J R (fun r I' J' R' => (XI g n L I' ∧ R' = R ∧ fz 74 g [56, 58] I I' ∧ (I' (ad g 56) 1).toInt ≤ (I (ad g 56) 1).toInt + 5940) ∧ r = none) := by
  refine SP_of ⟨by decide, rfl⟩ (Nat.le_of_ble_eq_true rfl) ?_
  have e13055 : I (ad g 1) 1 = L := hI.2
  have b13056 := BT_get hI.1 1 1 2 (0) (0) (900) (by decide) 1 (by decide) (by decide)
  rw [e13055] at b13056
  have fr0 : fz 74 g [56, 58] I I := fz_rf
  obtain ⟨w13057, ew13057⟩ : ∃ w : Int32, I (ad g 56) 1 = w := ⟨_, rfl⟩
  have bw13057 := BT_get hI.1 56 1 2 (0) (23760) (700000) (by decide) 1 (by decide) (by decide)
  rw [ew13057] at bw13057
  rw [ew13057] at hb
  refine WP_iload_n dX9_sleep_0 rfl ?_
  refine WQ_bipush (7) (7) dX9_sleep_1 rfl rfl (fun v13058 hv13058 => ?_)
  refine WQ_imulk (7) dX9_sleep_3 hv13058 (by omega) (by omega) (fun v13059 hv13059 => ?_)
  refine WP_istore (ls' := [(0, _), (1, _), (2, _), (3, _), (4, _), (5, _), (6, _)]) dX9_sleep_4 (by decide) rfl ?_
  refine WP_aload_n dX9_sleep_6 rfl ?_
  refine WP_getr dX9_sleep_7 fX9_25 rfl (lyx_is hy 49 9 rfl) (rfx hr 49 2 5 (by decide)) ?_
  refine WP_getr dX9_sleep_10 fX9_49 rfl (lyx_is hy 5 0 rfl) hT ?_
  refine WP_getr dX9_sleep_13 fX9_71 rfl (lyx_is hy 6 7 rfl) (rfx hr 6 6 8 (by decide)) ?_
  refine WP_iload_n dX9_sleep_16 rfl ?_
  refine WQ_iald dX9_sleep_17 (lyx_is hy 8 13 rfl) (lyx_n hy 8 4 rfl) (by omega) (by omega) (fun q hq => BT_get hI.1 8 0 4 (0) (0) (99) (by decide) q (Nat.zero_le _) hq) (fun v13060 av13060 bv13060 ev13060 => ?_)
  clear ev13060
  refine WP_istore (ls' := [(0, _), (1, _), (2, _), (3, _), (4, _), (5, _), (6, _), (7, _)]) dX9_sleep_18 (by decide) rfl ?_
  refine WP_iload dX9_sleep_20 rfl ?_
  refine WP_iload dX9_sleep_22 rfl ?_
  refine WP_aload_n dX9_sleep_24 rfl ?_
  refine WP_getr dX9_sleep_25 fX9_25 rfl (lyx_is hy 49 9 rfl) (rfx hr 49 2 5 (by decide)) ?_
  refine WP_getr dX9_sleep_28 fX9_128 rfl (lyx_is hy 5 0 rfl) (rfx hr 5 2 23 (by decide)) ?_
  refine WP_iload_n dX9_sleep_31 rfl ?_
  refine WQ_iald dX9_sleep_32 (lyx_is hy 23 13 rfl) (lyx_n hy 23 7 rfl) (by omega) (by omega) (fun q hq => BT_get hI.1 23 0 7 (0) (0) (900) (by decide) q (Nat.zero_le _) hq) (fun v13061 av13061 bv13061 ev13061 => ?_)
  clear ev13061
  refine WP_callN2 dX9_sleep_33 ⟨⟨⟨by decide, by decide⟩, zX10_stampsOf⟩, lX9_131, tX10_stampsOf⟩ (sx_stampsOf hy hr hI co v13061 (by omega) (by omega) (by omega) (by omega)) (Nat.le_of_ble_eq_true rfl) ?_
  intro r Ia Ja Ra hq
  obtain ⟨⟨ea, eb, ec⟩, v13062, rfl, av13062, bv13062, cv13062⟩ := hq
  show WP _ _ _ _ (.int _ :: _) _ _ _ _
  rw [ea, eb, ec]
  clear ea eb ec Ia Ja Ra
  refine WQ_imulb (99) (999) dX9_sleep_36 ⟨by omega, by omega⟩ ⟨by omega, by omega⟩ (by decide) (fun v13063 pv13063 av13063 bv13063 cv13063 => ?_)
  refine WP_istore (ls' := [(0, _), (1, _), (2, _), (3, _), (4, _), (5, _), (6, _), (7, _), (8, _)]) dX9_sleep_37 (by decide) rfl ?_
  refine WP_aload_n dX9_sleep_39 rfl ?_
  refine WP_getr dX9_sleep_40 fX9_25 rfl (lyx_is hy 49 9 rfl) (rfx hr 49 2 5 (by decide)) ?_
  refine WP_getr dX9_sleep_43 fX9_134 rfl (lyx_is hy 5 0 rfl) (rfx hr 5 5 26 (by decide)) ?_
  refine WP_iload dX9_sleep_46 rfl ?_
  refine WQ_iald dX9_sleep_48 (lyx_is hy 26 13 rfl) (lyx_n hy 26 6 rfl) (by omega) (by omega) (fun q hq => BT_get hI.1 26 0 6 (0) (0) (5) (by decide) q (Nat.zero_le _) hq) (fun v13064 av13064 bv13064 ev13064 => ?_)
  clear ev13064
  refine WP_istore (ls' := [(0, _), (1, _), (2, _), (3, _), (4, _), (5, _), (6, _), (7, _), (8, _), (9, _)]) dX9_sleep_49 (by decide) rfl ?_
  refine WP_aload_n dX9_sleep_51 rfl ?_
  refine WP_dup dX9_sleep_52 rfl ?_
  refine WQ_getim dX9_sleep_53 fX9_74 rfl (lyx_is hy 56 4 rfl) ew13057 ?_
  refine WP_iload dX9_sleep_56 rfl ?_
  refine WQ_iadd dX9_sleep_58 (by omega) (by omega) (fun v13065 hv13065 => ?_)
  refine WQ_puti dX9_sleep_59 fX9_74 rfl rfl (lyx_is hy 56 4 rfl) (fun I13066 eI13066 => ?_)
  have hI13066 : XI g n L I13066 := by rw [eI13066]; exact (xi_f hy hI (c := 56) (0) (23760) (700000) (by decide) (Or.inl (by decide)) (by decide) (by omega) (by omega))
  have e13067 : I13066 (ad g 1) 1 = L := by rw [eI13066, pp_ne _ _ (Or.inl (lyx_ne hy (by decide) (by decide) (by decide)))]; exact e13055
  have e13068 : I13066 (ad g 56) 1 = v13065 := by rw [eI13066, pp_self]
  have fr13069 : fz 74 g [56, 58] I I13066 := by rw [eI13066]; exact fzx_pp hy fr0 (by decide) (by decide)
  clear eI13066
  refine WP_aload_n dX9_sleep_62 rfl ?_
  refine WP_getr dX9_sleep_63 fX9_75 rfl (lyx_is hy 56 4 rfl) (rfx hr 56 5 58 (by decide)) ?_
  refine WP_iload dX9_sleep_66 rfl ?_
  refine WQ_iconst (3) (3) dX9_sleep_68 rfl rfl (fun v13070 hv13070 => ?_)
  refine WQ_iadd dX9_sleep_69 (by omega) (by omega) (fun v13071 hv13071 => ?_)
  refine WP_dup2 dX9_sleep_70 rfl rfl ?_
  refine WQ_ialdu dX9_sleep_71 (lyx_is hy 58 13 rfl) (lyx_n hy 58 28 rfl) (by omega) (by omega) (fun v13072 => ?_)
  refine WP_iload dX9_sleep_72 rfl ?_
  refine WQ_iaddu dX9_sleep_74 (fun v13073 => ?_)
  refine WQ_iast dX9_sleep_75 (lyx_is hy 58 13 rfl) (lyx_n hy 58 28 rfl) (by omega) (by omega) (fun I13074 eI13074 => ?_)
  have hI13074 : XI g n L I13074 := by rw [eI13074]; exact (fa_put hy hI13066 (c := 58) (k := 3) (s := so.toInt.toNat) (by decide) (by omega) (by decide) (by rw [cl (n := 7 * so.toInt.toNat + 3) (by omega)]) (fun h => absurd h (by decide)) (fun h => absurd h (by decide)))
  have e13075 : I13074 (ad g 1) 1 = L := by rw [eI13074, pp_ne _ _ (Or.inl (lyx_ne hy (by decide) (by decide) (by decide)))]; exact e13067
  have e13076 : I13074 (ad g 56) 1 = v13065 := by rw [eI13074, pp_ne _ _ (Or.inl (lyx_ne hy (by decide) (by decide) (by decide)))]; exact e13068
  have fr13077 : fz 74 g [56, 58] I I13074 := by rw [eI13074]; exact fzx_pp hy fr13069 (by decide) (by decide)
  clear eI13074
  refine WP_aload_n dX9_sleep_76 rfl ?_
  refine WP_getr dX9_sleep_77 fX9_75 rfl (lyx_is hy 56 4 rfl) (rfx hr 56 5 58 (by decide)) ?_
  refine WP_iload dX9_sleep_80 rfl ?_
  refine WQ_iconst (5) (5) dX9_sleep_82 rfl rfl (fun v13078 hv13078 => ?_)
  refine WQ_iadd dX9_sleep_83 (by omega) (by omega) (fun v13079 hv13079 => ?_)
  refine WP_dup2 dX9_sleep_84 rfl rfl ?_
  refine WQ_ialdu dX9_sleep_85 (lyx_is hy 58 13 rfl) (lyx_n hy 58 28 rfl) (by omega) (by omega) (fun v13080 => ?_)
  refine WP_iload dX9_sleep_86 rfl ?_
  refine WP_iload dX9_sleep_88 rfl ?_
  refine WP_iload dX9_sleep_90 rfl ?_
  refine WQ_isub dX9_sleep_92 (by omega) (by omega) (fun v13081 hv13081 => ?_)
  refine WQ_imulu dX9_sleep_93 (fun v13082 => ?_)
  refine WQ_iaddu dX9_sleep_94 (fun v13083 => ?_)
  refine WQ_iast dX9_sleep_95 (lyx_is hy 58 13 rfl) (lyx_n hy 58 28 rfl) (by omega) (by omega) (fun I13084 eI13084 => ?_)
  have hI13084 : XI g n L I13084 := by rw [eI13084]; exact (fa_put hy hI13074 (c := 58) (k := 5) (s := so.toInt.toNat) (by decide) (by omega) (by decide) (by rw [cl (n := 7 * so.toInt.toNat + 5) (by omega)]) (fun h => absurd h (by decide)) (fun h => absurd h (by decide)))
  have e13085 : I13084 (ad g 1) 1 = L := by rw [eI13084, pp_ne _ _ (Or.inl (lyx_ne hy (by decide) (by decide) (by decide)))]; exact e13075
  have e13086 : I13084 (ad g 56) 1 = v13065 := by rw [eI13084, pp_ne _ _ (Or.inl (lyx_ne hy (by decide) (by decide) (by decide)))]; exact e13076
  have fr13087 : fz 74 g [56, 58] I I13084 := by rw [eI13084]; exact fzx_pp hy fr13077 (by decide) (by decide)
  clear eI13084
  refine WP_aload_n dX9_sleep_96 rfl ?_
  refine WP_getr dX9_sleep_97 fX9_75 rfl (lyx_is hy 56 4 rfl) (rfx hr 56 5 58 (by decide)) ?_
  refine WP_iload dX9_sleep_100 rfl ?_
  refine WQ_iconst (0) (0) dX9_sleep_102 rfl rfl (fun v13088 hv13088 => ?_)
  refine WQ_iadd dX9_sleep_103 (by omega) (by omega) (fun v13089 hv13089 => ?_)
  refine WP_aload_n dX9_sleep_104 rfl ?_
  refine WP_getr dX9_sleep_105 fX9_25 rfl (lyx_is hy 49 9 rfl) (rfx hr 49 2 5 (by decide)) ?_
  refine WP_iload dX9_sleep_108 rfl ?_
  refine WP_iload dX9_sleep_110 rfl ?_
  refine WP_iload_n dX9_sleep_112 rfl ?_
  refine WP_callV3 (k := 0) dX9_sleep_113 ⟨⟨⟨by decide, by decide⟩, zX0_coinsBehind⟩, lX9_137, by decide, rfl, vX0_coinsBehind.1, vX0_coinsBehind.2⟩ (lyx_is hy 5 0 rfl) (sx_cbx hy hr hI13084 co st da (by omega) (by omega) (by omega) (by omega) (by omega) (by omega)) (Nat.le_of_ble_eq_true rfl) ?_
  intro r Ia Ja Ra hq
  obtain ⟨⟨ea, eb, ec⟩, v13090, rfl, av13090, bv13090, cv13090⟩ := hq
  show WP _ _ _ _ (.int _ :: _) _ _ _ _
  rw [ea, eb, ec]
  clear ea eb ec Ia Ja Ra
  refine WQ_iast dX9_sleep_116 (lyx_is hy 58 13 rfl) (lyx_n hy 58 28 rfl) (by omega) (by omega) (fun I13091 eI13091 => ?_)
  have hI13091 : XI g n L I13091 := by rw [eI13091]; exact (fa_put hy hI13084 (c := 58) (k := 0) (s := so.toInt.toNat) (by decide) (by omega) (by decide) (by rw [cl (n := 7 * so.toInt.toNat + 0) (by omega)]) (fun _ => by omega) (fun _ => by omega))
  have e13092 : I13091 (ad g 1) 1 = L := by rw [eI13091, pp_ne _ _ (Or.inl (lyx_ne hy (by decide) (by decide) (by decide)))]; exact e13085
  have e13093 : I13091 (ad g 56) 1 = v13065 := by rw [eI13091, pp_ne _ _ (Or.inl (lyx_ne hy (by decide) (by decide) (by decide)))]; exact e13086
  have fr13094 : fz 74 g [56, 58] I I13091 := by rw [eI13091]; exact fzx_pp hy fr13087 (by decide) (by decide)
  clear eI13091
  refine WP_aload_n dX9_sleep_117 rfl ?_
  refine WP_getr dX9_sleep_118 fX9_75 rfl (lyx_is hy 56 4 rfl) (rfx hr 56 5 58 (by decide)) ?_
  refine WP_iload dX9_sleep_121 rfl ?_
  refine WQ_iconst (1) (1) dX9_sleep_123 rfl rfl (fun v13095 hv13095 => ?_)
  refine WQ_iadd dX9_sleep_124 (by omega) (by omega) (fun v13096 hv13096 => ?_)
  refine WP_iload dX9_sleep_125 rfl ?_
  refine WQ_iast dX9_sleep_127 (lyx_is hy 58 13 rfl) (lyx_n hy 58 28 rfl) (by omega) (by omega) (fun I13097 eI13097 => ?_)
  have hI13097 : XI g n L I13097 := by rw [eI13097]; exact (fa_put hy hI13091 (c := 58) (k := 1) (s := so.toInt.toNat) (by decide) (by omega) (by decide) (by rw [cl (n := 7 * so.toInt.toNat + 1) (by omega)]) (fun _ => by omega) (fun _ => by omega))
  have e13098 : I13097 (ad g 1) 1 = L := by rw [eI13097, pp_ne _ _ (Or.inl (lyx_ne hy (by decide) (by decide) (by decide)))]; exact e13092
  have e13099 : I13097 (ad g 56) 1 = v13065 := by rw [eI13097, pp_ne _ _ (Or.inl (lyx_ne hy (by decide) (by decide) (by decide)))]; exact e13093
  have fr13100 : fz 74 g [56, 58] I I13097 := by rw [eI13097]; exact fzx_pp hy fr13094 (by decide) (by decide)
  clear eI13097
  exact WP_vret dX9_sleep_128 rfl ⟨⟨hI13097, rfl, fr13100, (by rw [e13099, ew13057]; omega)⟩, rfl⟩
set_option maxHeartbeats 4000000 in
set_option maxRecDepth 100000 in
theorem sx_openChestf_56_27 {g : GG} {n : Int} {L : Int32} (hy : LyX g)  {I : pI} {J : pJ} {R : pR} (hr : RfX g R) (hT : R (ad g 5) 0 = some (ad g 27)) (hI : XI g n L I)   (hn : 0 ≤ n ∧ n ≤ 40000) : SP g mX9_openChest [.ref (ad g 49), .ref (ad g 56)] I J R (fun r I' J' R' => (XI g n L I' ∧ R' = R ∧ fz 74 g [56, 58] I I' ∧ (I' (ad g 56) 1).toInt ≤ (I (ad g 56) 1).toInt) ∧ r = none) := by
  refine SP_of ⟨by decide, rfl⟩ (Nat.le_of_ble_eq_true rfl) ?_
  have e13101 : I (ad g 1) 1 = L := hI.2
  have b13102 := BT_get hI.1 1 1 2 (0) (0) (900) (by decide) 1 (by decide) (by decide)
  rw [e13101] at b13102
  have fr0 : fz 74 g [56, 58] I I := fz_rf
  obtain ⟨w13103, ew13103⟩ : ∃ w : Int32, I (ad g 56) 1 = w := ⟨_, rfl⟩
  have bw13103 := BT_get hI.1 56 1 2 (0) (23760) (700000) (by decide) 1 (by decide) (by decide)
  rw [ew13103] at bw13103
  refine WP_aload_n dX9_openChest_0 rfl ?_
  refine WP_getr dX9_openChest_1 fX9_25 rfl (lyx_is hy 49 9 rfl) (rfx hr 49 2 5 (by decide)) ?_
  refine WP_getr dX9_openChest_4 fX9_49 rfl (lyx_is hy 5 0 rfl) hT ?_
  refine WQ_geti dX9_openChest_7 fX9_68 rfl (lyx_is hy 27 7 rfl) (BT_get hI.1 27 3 4 (-1) (0) (3) (by decide) 3 (by decide) (by decide)) (fun v13104 ev13104 av13104 bv13104 => ?_)
  refine WP_istore_n (ls' := [(0, _), (1, _), (2, _)]) dX9_openChest_10 (by decide) rfl ?_
  refine WP_iload_n dX9_openChest_11 rfl ?_
  refine WQ_iconst (-1) (-1) dX9_openChest_12 rfl rfl (fun v13105 hv13105 => ?_)
  refine WQ_icmp_eq 32 dX9_openChest_13 rfl (fun c13105 => ?_) (fun c13105 => ?_)
  · exact WP_vret dX9_openChest_32 rfl ⟨⟨hI, rfl, fr0, (by omega)⟩, rfl⟩
  · refine WP_aload_n dX9_openChest_16 rfl ?_
    refine WP_getr dX9_openChest_17 fX9_25 rfl (lyx_is hy 49 9 rfl) (rfx hr 49 2 5 (by decide)) ?_
    refine WP_getr dX9_openChest_20 fX9_49 rfl (lyx_is hy 5 0 rfl) hT ?_
    refine WP_getr dX9_openChest_23 fX9_71 rfl (lyx_is hy 27 7 rfl) (rfx hr 27 6 29 (by decide)) ?_
    refine WP_iload_n dX9_openChest_26 rfl ?_
    refine WQ_iald dX9_openChest_27 (lyx_is hy 29 13 rfl) (lyx_n hy 29 4 rfl) (by omega) (by omega) (fun q hq => BT_get hI.1 29 0 4 (0) (0) (99) (by decide) q (Nat.zero_le _) hq) (fun v13107 av13107 bv13107 ev13107 => ?_)
    refine WQ_iconst (1) (1) dX9_openChest_28 rfl rfl (fun v13108 hv13108 => ?_)
    refine WQ_icmp_ge 33 dX9_openChest_29 rfl (fun c13108 => ?_) (fun c13108 => ?_)
    · refine WP_aload_n dX9_openChest_33 rfl ?_
      refine WP_getr dX9_openChest_34 fX9_25 rfl (lyx_is hy 49 9 rfl) (rfx hr 49 2 5 (by decide)) ?_
      refine WP_getr dX9_openChest_37 fX9_49 rfl (lyx_is hy 5 0 rfl) hT ?_
      refine WP_getr dX9_openChest_40 fX9_71 rfl (lyx_is hy 27 7 rfl) (rfx hr 27 6 29 (by decide)) ?_
      refine WP_iload_n dX9_openChest_43 rfl ?_
      refine WQ_ialde dX9_openChest_44 (lyx_is hy 29 13 rfl) (lyx_n hy 29 4 rfl) (by omega) (by omega) ev13107 ?_
      refine WP_istore_n (ls' := [(0, _), (1, _), (2, _), (3, _)]) dX9_openChest_45 (by decide) rfl ?_
      refine WP_aload_n dX9_openChest_46 rfl ?_
      refine WQ_getim dX9_openChest_47 fX9_74 rfl (lyx_is hy 56 4 rfl) ew13103 ?_
      refine WP_iload_n dX9_openChest_50 rfl ?_
      refine WQ_idivb dX9_openChest_51 (by omega) (by omega) (fun v13111 pv13111 av13111 bv13111 cv13111 => ?_)
      refine WP_istore (ls' := [(0, _), (1, _), (2, _), (3, _), (4, _)]) dX9_openChest_52 (by decide) rfl ?_
      refine WP_iload_n dX9_openChest_54 rfl ?_
      refine WQ_bipush (7) (7) dX9_openChest_55 rfl rfl (fun v13112 hv13112 => ?_)
      refine WQ_imulk (7) dX9_openChest_57 hv13112 (by omega) (by omega) (fun v13113 hv13113 => ?_)
      refine WP_istore (ls' := [(0, _), (1, _), (2, _), (3, _), (4, _), (5, _)]) dX9_openChest_58 (by decide) rfl ?_
      refine WP_aload_n dX9_openChest_60 rfl ?_
      refine WP_dup dX9_openChest_61 rfl ?_
      refine WQ_getim dX9_openChest_62 fX9_74 rfl (lyx_is hy 56 4 rfl) ew13103 ?_
      refine WP_iload dX9_openChest_65 rfl ?_
      refine WP_iload_n dX9_openChest_67 rfl ?_
      have knv13114 : 0 ≤ v13111.toInt * v13107.toInt := Int.mul_nonneg (by omega) (by omega)
      refine WQ_imulx dX9_openChest_68 (by omega) (by omega) (fun v13114 pv13114 => ?_)
      refine WQ_isub dX9_openChest_69 (by omega) (by omega) (fun v13115 hv13115 => ?_)
      refine WQ_puti dX9_openChest_70 fX9_74 rfl rfl (lyx_is hy 56 4 rfl) (fun I13116 eI13116 => ?_)
      have hI13116 : XI g n L I13116 := by rw [eI13116]; exact (xi_f hy hI (c := 56) (0) (23760) (700000) (by decide) (Or.inl (by decide)) (by decide) (by omega) (by omega))
      have e13117 : I13116 (ad g 1) 1 = L := by rw [eI13116, pp_ne _ _ (Or.inl (lyx_ne hy (by decide) (by decide) (by decide)))]; exact e13101
      have e13118 : I13116 (ad g 27) 3 = v13104 := by rw [eI13116, pp_ne _ _ (Or.inl (lyx_ne hy (by decide) (by decide) (by decide)))]; exact ev13104
      have e13119 : I13116 (ad g 29) v13104.toNatClampNeg = v13107 := by rw [eI13116, pp_ne _ _ (Or.inl (lyx_ne hy (by decide) (by decide) (by decide)))]; exact ev13107
      have e13120 : I13116 (ad g 56) 1 = v13115 := by rw [eI13116, pp_self]
      have fr13121 : fz 74 g [56, 58] I I13116 := by rw [eI13116]; exact fzx_pp hy fr0 (by decide) (by decide)
      clear eI13116
      refine WP_aload_n dX9_openChest_73 rfl ?_
      refine WP_getr dX9_openChest_74 fX9_75 rfl (lyx_is hy 56 4 rfl) (rfx hr 56 5 58 (by decide)) ?_
      refine WP_iload dX9_openChest_77 rfl ?_
      refine WQ_bipush (6) (6) dX9_openChest_79 rfl rfl (fun v13122 hv13122 => ?_)
      refine WQ_iadd dX9_openChest_81 (by omega) (by omega) (fun v13123 hv13123 => ?_)
      refine WP_dup2 dX9_openChest_82 rfl rfl ?_
      refine WQ_ialdu dX9_openChest_83 (lyx_is hy 58 13 rfl) (lyx_n hy 58 28 rfl) (by omega) (by omega) (fun v13124 => ?_)
      refine WP_iload dX9_openChest_84 rfl ?_
      refine WP_iload_n dX9_openChest_86 rfl ?_
      have knv13125 : 0 ≤ v13111.toInt * v13107.toInt := Int.mul_nonneg (by omega) (by omega)
      refine WQ_imulx dX9_openChest_87 (by omega) (by omega) (fun v13125 pv13125 => ?_)
      refine WQ_iaddu dX9_openChest_88 (fun v13126 => ?_)
      refine WQ_iast dX9_openChest_89 (lyx_is hy 58 13 rfl) (lyx_n hy 58 28 rfl) (by omega) (by omega) (fun I13127 eI13127 => ?_)
      have hI13127 : XI g n L I13127 := by rw [eI13127]; exact (fa_put hy hI13116 (c := 58) (k := 6) (s := v13104.toInt.toNat) (by decide) (by omega) (by decide) (by rw [cl (n := 7 * v13104.toInt.toNat + 6) (by omega)]) (fun h => absurd h (by decide)) (fun h => absurd h (by decide)))
      have e13128 : I13127 (ad g 1) 1 = L := by rw [eI13127, pp_ne _ _ (Or.inl (lyx_ne hy (by decide) (by decide) (by decide)))]; exact e13117
      have e13129 : I13127 (ad g 27) 3 = v13104 := by rw [eI13127, pp_ne _ _ (Or.inl (lyx_ne hy (by decide) (by decide) (by decide)))]; exact e13118
      have e13130 : I13127 (ad g 29) v13104.toNatClampNeg = v13107 := by rw [eI13127, pp_ne _ _ (Or.inl (lyx_ne hy (by decide) (by decide) (by decide)))]; exact e13119
      have e13131 : I13127 (ad g 56) 1 = v13115 := by rw [eI13127, pp_ne _ _ (Or.inl (lyx_ne hy (by decide) (by decide) (by decide)))]; exact e13120
      have fr13132 : fz 74 g [56, 58] I I13127 := by rw [eI13127]; exact fzx_pp hy fr13121 (by decide) (by decide)
      clear eI13127
      refine WP_aload_n dX9_openChest_90 rfl ?_
      refine WP_getr dX9_openChest_91 fX9_75 rfl (lyx_is hy 56 4 rfl) (rfx hr 56 5 58 (by decide)) ?_
      refine WP_iload dX9_openChest_94 rfl ?_
      refine WQ_iconst (0) (0) dX9_openChest_96 rfl rfl (fun v13133 hv13133 => ?_)
      refine WQ_iadd dX9_openChest_97 (by omega) (by omega) (fun v13134 hv13134 => ?_)
      refine WQ_bipush (60) (60) dX9_openChest_98 rfl rfl (fun v13135 hv13135 => ?_)
      refine WP_aload_n dX9_openChest_100 rfl ?_
      refine WP_getr dX9_openChest_101 fX9_75 rfl (lyx_is hy 56 4 rfl) (rfx hr 56 5 58 (by decide)) ?_
      refine WP_iload dX9_openChest_104 rfl ?_
      refine WQ_iconst (0) (0) dX9_openChest_106 rfl rfl (fun v13136 hv13136 => ?_)
      refine WQ_iadd dX9_openChest_107 (by omega) (by omega) (fun v13137 hv13137 => ?_)
      refine WQ_ialdf (q := 7 * v13104.toInt.toNat) dX9_openChest_108 (lyx_is hy 58 13 rfl) (lyx_n hy 58 28 rfl) (by omega) (by omega) (by omega) (fa_get0 hI13127 (c := 58) (by decide) (by omega)) (fun v13138 av13138 bv13138 => ?_)
      refine WP_iload dX9_openChest_109 rfl ?_
      refine WQ_iadd dX9_openChest_111 (by omega) (by omega) (fun v13139 hv13139 => ?_)
      refine WQ_min dX9_openChest_112 lX9_78 ⟨by decide, Nat.le_of_ble_eq_true rfl⟩ (fun v13140 av13140 bv13140 cv13140 => ?_)
      refine WQ_iast dX9_openChest_115 (lyx_is hy 58 13 rfl) (lyx_n hy 58 28 rfl) (by omega) (by omega) (fun I13141 eI13141 => ?_)
      have hI13141 : XI g n L I13141 := by rw [eI13141]; exact (fa_put hy hI13127 (c := 58) (k := 0) (s := v13104.toInt.toNat) (by decide) (by omega) (by decide) (by rw [cl (n := 7 * v13104.toInt.toNat + 0) (by omega)]) (fun _ => by omega) (fun _ => by omega))
      have e13142 : I13141 (ad g 1) 1 = L := by rw [eI13141, pp_ne _ _ (Or.inl (lyx_ne hy (by decide) (by decide) (by decide)))]; exact e13128
      have e13143 : I13141 (ad g 27) 3 = v13104 := by rw [eI13141, pp_ne _ _ (Or.inl (lyx_ne hy (by decide) (by decide) (by decide)))]; exact e13129
      have e13144 : I13141 (ad g 29) v13104.toNatClampNeg = v13107 := by rw [eI13141, pp_ne _ _ (Or.inl (lyx_ne hy (by decide) (by decide) (by decide)))]; exact e13130
      have e13145 : I13141 (ad g 56) 1 = v13115 := by rw [eI13141, pp_ne _ _ (Or.inl (lyx_ne hy (by decide) (by decide) (by decide)))]; exact e13131
      have fr13146 : fz 74 g [56, 58] I I13141 := by rw [eI13141]; exact fzx_pp hy fr13132 (by decide) (by decide)
      clear eI13141
      exact WP_vret dX9_openChest_116 rfl ⟨⟨hI13141, rfl, fr13146, (by rw [e13145, ew13103]; omega)⟩, rfl⟩
    · exact WP_vret dX9_openChest_32 rfl ⟨⟨hI, rfl, fr0, (by omega)⟩, rfl⟩
set_option maxHeartbeats 4000000 in
set_option maxRecDepth 100000 in
theorem sx_wsleepf_56_27 {g : GG} {n : Int} {L : Int32} (hy : LyX g)  {I : pI} {J : pJ} {R : pR} (hr : RfX g R) (hT : R (ad g 5) 0 = some (ad g 27)) (hI : XI g n L I) (so : Int32) (da : Int32) (co : Int32) (st : Int32) (so_lo : 0 ≤ so.toInt) (so_hi : so.toInt ≤ 3) (da_lo : 0 ≤ da.toInt) (da_hi : da.toInt ≤ 6) (co_lo : 0 ≤ co.toInt) (co_hi : co.toInt ≤ 60) (st_lo : 0 ≤ st.toInt) (st_hi : st.toInt ≤ 5) (hn : 0 ≤ n ∧ n ≤ 40000) (hb : (I (ad g 56) 1).toInt ≤ 23760 * n + 700000 - 5940) : SP g mX9_sleep [.ref (ad g 49), .ref (ad g 56), .int so, .int da, .int co, .int st] I J R (fun r I' J' R' => (XI g n L I' ∧ R' = R ∧ fz 74 g [56, 58] I I' ∧ (I' (ad g 56) 1).toInt ≤ (I (ad g 56) 1).toInt + 5940) ∧ r = none) := by
  refine SP_of ⟨by decide, rfl⟩ (Nat.le_of_ble_eq_true rfl) ?_
  have e13147 : I (ad g 1) 1 = L := hI.2
  have b13148 := BT_get hI.1 1 1 2 (0) (0) (900) (by decide) 1 (by decide) (by decide)
  rw [e13147] at b13148
  have fr0 : fz 74 g [56, 58] I I := fz_rf
  obtain ⟨w13149, ew13149⟩ : ∃ w : Int32, I (ad g 56) 1 = w := ⟨_, rfl⟩
  have bw13149 := BT_get hI.1 56 1 2 (0) (23760) (700000) (by decide) 1 (by decide) (by decide)
  rw [ew13149] at bw13149
  rw [ew13149] at hb
  refine WP_iload_n dX9_sleep_0 rfl ?_
  refine WQ_bipush (7) (7) dX9_sleep_1 rfl rfl (fun v13150 hv13150 => ?_)
  refine WQ_imulk (7) dX9_sleep_3 hv13150 (by omega) (by omega) (fun v13151 hv13151 => ?_)
  refine WP_istore (ls' := [(0, _), (1, _), (2, _), (3, _), (4, _), (5, _), (6, _)]) dX9_sleep_4 (by decide) rfl ?_
  refine WP_aload_n dX9_sleep_6 rfl ?_
  refine WP_getr dX9_sleep_7 fX9_25 rfl (lyx_is hy 49 9 rfl) (rfx hr 49 2 5 (by decide)) ?_
  refine WP_getr dX9_sleep_10 fX9_49 rfl (lyx_is hy 5 0 rfl) hT ?_
  refine WP_getr dX9_sleep_13 fX9_71 rfl (lyx_is hy 27 7 rfl) (rfx hr 27 6 29 (by decide)) ?_
  refine WP_iload_n dX9_sleep_16 rfl ?_
  refine WQ_iald dX9_sleep_17 (lyx_is hy 29 13 rfl) (lyx_n hy 29 4 rfl) (by omega) (by omega) (fun q hq => BT_get hI.1 29 0 4 (0) (0) (99) (by decide) q (Nat.zero_le _) hq) (fun v13152 av13152 bv13152 ev13152 => ?_)
  clear ev13152
  refine WP_istore (ls' := [(0, _), (1, _), (2, _), (3, _), (4, _), (5, _), (6, _), (7, _)]) dX9_sleep_18 (by decide) rfl ?_
  refine WP_iload dX9_sleep_20 rfl ?_
  refine WP_iload dX9_sleep_22 rfl ?_
  refine WP_aload_n dX9_sleep_24 rfl ?_
  refine WP_getr dX9_sleep_25 fX9_25 rfl (lyx_is hy 49 9 rfl) (rfx hr 49 2 5 (by decide)) ?_
  refine WP_getr dX9_sleep_28 fX9_128 rfl (lyx_is hy 5 0 rfl) (rfx hr 5 2 23 (by decide)) ?_
  refine WP_iload_n dX9_sleep_31 rfl ?_
  refine WQ_iald dX9_sleep_32 (lyx_is hy 23 13 rfl) (lyx_n hy 23 7 rfl) (by omega) (by omega) (fun q hq => BT_get hI.1 23 0 7 (0) (0) (900) (by decide) q (Nat.zero_le _) hq) (fun v13153 av13153 bv13153 ev13153 => ?_)
  clear ev13153
  refine WP_callN2 dX9_sleep_33 ⟨⟨⟨by decide, by decide⟩, zX10_stampsOf⟩, lX9_131, tX10_stampsOf⟩ (sx_stampsOf hy hr hI co v13153 (by omega) (by omega) (by omega) (by omega)) (Nat.le_of_ble_eq_true rfl) ?_
  intro r Ia Ja Ra hq
  obtain ⟨⟨ea, eb, ec⟩, v13154, rfl, av13154, bv13154, cv13154⟩ := hq
  show WP _ _ _ _ (.int _ :: _) _ _ _ _
  rw [ea, eb, ec]
  clear ea eb ec Ia Ja Ra
  refine WQ_imulb (99) (999) dX9_sleep_36 ⟨by omega, by omega⟩ ⟨by omega, by omega⟩ (by decide) (fun v13155 pv13155 av13155 bv13155 cv13155 => ?_)
  refine WP_istore (ls' := [(0, _), (1, _), (2, _), (3, _), (4, _), (5, _), (6, _), (7, _), (8, _)]) dX9_sleep_37 (by decide) rfl ?_
  refine WP_aload_n dX9_sleep_39 rfl ?_
  refine WP_getr dX9_sleep_40 fX9_25 rfl (lyx_is hy 49 9 rfl) (rfx hr 49 2 5 (by decide)) ?_
  refine WP_getr dX9_sleep_43 fX9_134 rfl (lyx_is hy 5 0 rfl) (rfx hr 5 5 26 (by decide)) ?_
  refine WP_iload dX9_sleep_46 rfl ?_
  refine WQ_iald dX9_sleep_48 (lyx_is hy 26 13 rfl) (lyx_n hy 26 6 rfl) (by omega) (by omega) (fun q hq => BT_get hI.1 26 0 6 (0) (0) (5) (by decide) q (Nat.zero_le _) hq) (fun v13156 av13156 bv13156 ev13156 => ?_)
  clear ev13156
  refine WP_istore (ls' := [(0, _), (1, _), (2, _), (3, _), (4, _), (5, _), (6, _), (7, _), (8, _), (9, _)]) dX9_sleep_49 (by decide) rfl ?_
  refine WP_aload_n dX9_sleep_51 rfl ?_
  refine WP_dup dX9_sleep_52 rfl ?_
  refine WQ_getim dX9_sleep_53 fX9_74 rfl (lyx_is hy 56 4 rfl) ew13149 ?_
  refine WP_iload dX9_sleep_56 rfl ?_
  refine WQ_iadd dX9_sleep_58 (by omega) (by omega) (fun v13157 hv13157 => ?_)
  refine WQ_puti dX9_sleep_59 fX9_74 rfl rfl (lyx_is hy 56 4 rfl) (fun I13158 eI13158 => ?_)
  have hI13158 : XI g n L I13158 := by rw [eI13158]; exact (xi_f hy hI (c := 56) (0) (23760) (700000) (by decide) (Or.inl (by decide)) (by decide) (by omega) (by omega))
  have e13159 : I13158 (ad g 1) 1 = L := by rw [eI13158, pp_ne _ _ (Or.inl (lyx_ne hy (by decide) (by decide) (by decide)))]; exact e13147
  have e13160 : I13158 (ad g 56) 1 = v13157 := by rw [eI13158, pp_self]
  have fr13161 : fz 74 g [56, 58] I I13158 := by rw [eI13158]; exact fzx_pp hy fr0 (by decide) (by decide)
  clear eI13158
  refine WP_aload_n dX9_sleep_62 rfl ?_
  refine WP_getr dX9_sleep_63 fX9_75 rfl (lyx_is hy 56 4 rfl) (rfx hr 56 5 58 (by decide)) ?_
  refine WP_iload dX9_sleep_66 rfl ?_
  refine WQ_iconst (3) (3) dX9_sleep_68 rfl rfl (fun v13162 hv13162 => ?_)
  refine WQ_iadd dX9_sleep_69 (by omega) (by omega) (fun v13163 hv13163 => ?_)
  refine WP_dup2 dX9_sleep_70 rfl rfl ?_
  refine WQ_ialdu dX9_sleep_71 (lyx_is hy 58 13 rfl) (lyx_n hy 58 28 rfl) (by omega) (by omega) (fun v13164 => ?_)
  refine WP_iload dX9_sleep_72 rfl ?_
  refine WQ_iaddu dX9_sleep_74 (fun v13165 => ?_)
  refine WQ_iast dX9_sleep_75 (lyx_is hy 58 13 rfl) (lyx_n hy 58 28 rfl) (by omega) (by omega) (fun I13166 eI13166 => ?_)
  have hI13166 : XI g n L I13166 := by rw [eI13166]; exact (fa_put hy hI13158 (c := 58) (k := 3) (s := so.toInt.toNat) (by decide) (by omega) (by decide) (by rw [cl (n := 7 * so.toInt.toNat + 3) (by omega)]) (fun h => absurd h (by decide)) (fun h => absurd h (by decide)))
  have e13167 : I13166 (ad g 1) 1 = L := by rw [eI13166, pp_ne _ _ (Or.inl (lyx_ne hy (by decide) (by decide) (by decide)))]; exact e13159
  have e13168 : I13166 (ad g 56) 1 = v13157 := by rw [eI13166, pp_ne _ _ (Or.inl (lyx_ne hy (by decide) (by decide) (by decide)))]; exact e13160
  have fr13169 : fz 74 g [56, 58] I I13166 := by rw [eI13166]; exact fzx_pp hy fr13161 (by decide) (by decide)
  clear eI13166
  refine WP_aload_n dX9_sleep_76 rfl ?_
  refine WP_getr dX9_sleep_77 fX9_75 rfl (lyx_is hy 56 4 rfl) (rfx hr 56 5 58 (by decide)) ?_
  refine WP_iload dX9_sleep_80 rfl ?_
  refine WQ_iconst (5) (5) dX9_sleep_82 rfl rfl (fun v13170 hv13170 => ?_)
  refine WQ_iadd dX9_sleep_83 (by omega) (by omega) (fun v13171 hv13171 => ?_)
  refine WP_dup2 dX9_sleep_84 rfl rfl ?_
  refine WQ_ialdu dX9_sleep_85 (lyx_is hy 58 13 rfl) (lyx_n hy 58 28 rfl) (by omega) (by omega) (fun v13172 => ?_)
  refine WP_iload dX9_sleep_86 rfl ?_
  refine WP_iload dX9_sleep_88 rfl ?_
  refine WP_iload dX9_sleep_90 rfl ?_
  refine WQ_isub dX9_sleep_92 (by omega) (by omega) (fun v13173 hv13173 => ?_)
  refine WQ_imulu dX9_sleep_93 (fun v13174 => ?_)
  refine WQ_iaddu dX9_sleep_94 (fun v13175 => ?_)
  refine WQ_iast dX9_sleep_95 (lyx_is hy 58 13 rfl) (lyx_n hy 58 28 rfl) (by omega) (by omega) (fun I13176 eI13176 => ?_)
  have hI13176 : XI g n L I13176 := by rw [eI13176]; exact (fa_put hy hI13166 (c := 58) (k := 5) (s := so.toInt.toNat) (by decide) (by omega) (by decide) (by rw [cl (n := 7 * so.toInt.toNat + 5) (by omega)]) (fun h => absurd h (by decide)) (fun h => absurd h (by decide)))
  have e13177 : I13176 (ad g 1) 1 = L := by rw [eI13176, pp_ne _ _ (Or.inl (lyx_ne hy (by decide) (by decide) (by decide)))]; exact e13167
  have e13178 : I13176 (ad g 56) 1 = v13157 := by rw [eI13176, pp_ne _ _ (Or.inl (lyx_ne hy (by decide) (by decide) (by decide)))]; exact e13168
  have fr13179 : fz 74 g [56, 58] I I13176 := by rw [eI13176]; exact fzx_pp hy fr13169 (by decide) (by decide)
  clear eI13176
  refine WP_aload_n dX9_sleep_96 rfl ?_
  refine WP_getr dX9_sleep_97 fX9_75 rfl (lyx_is hy 56 4 rfl) (rfx hr 56 5 58 (by decide)) ?_
  refine WP_iload dX9_sleep_100 rfl ?_
  refine WQ_iconst (0) (0) dX9_sleep_102 rfl rfl (fun v13180 hv13180 => ?_)
  refine WQ_iadd dX9_sleep_103 (by omega) (by omega) (fun v13181 hv13181 => ?_)
  refine WP_aload_n dX9_sleep_104 rfl ?_
  refine WP_getr dX9_sleep_105 fX9_25 rfl (lyx_is hy 49 9 rfl) (rfx hr 49 2 5 (by decide)) ?_
  refine WP_iload dX9_sleep_108 rfl ?_
  refine WP_iload dX9_sleep_110 rfl ?_
  refine WP_iload_n dX9_sleep_112 rfl ?_
  refine WP_callV3 (k := 0) dX9_sleep_113 ⟨⟨⟨by decide, by decide⟩, zX0_coinsBehind⟩, lX9_137, by decide, rfl, vX0_coinsBehind.1, vX0_coinsBehind.2⟩ (lyx_is hy 5 0 rfl) (sx_cbx hy hr hI13176 co st da (by omega) (by omega) (by omega) (by omega) (by omega) (by omega)) (Nat.le_of_ble_eq_true rfl) ?_
  intro r Ia Ja Ra hq
  obtain ⟨⟨ea, eb, ec⟩, v13182, rfl, av13182, bv13182, cv13182⟩ := hq
  show WP _ _ _ _ (.int _ :: _) _ _ _ _
  rw [ea, eb, ec]
  clear ea eb ec Ia Ja Ra
  refine WQ_iast dX9_sleep_116 (lyx_is hy 58 13 rfl) (lyx_n hy 58 28 rfl) (by omega) (by omega) (fun I13183 eI13183 => ?_)
  have hI13183 : XI g n L I13183 := by rw [eI13183]; exact (fa_put hy hI13176 (c := 58) (k := 0) (s := so.toInt.toNat) (by decide) (by omega) (by decide) (by rw [cl (n := 7 * so.toInt.toNat + 0) (by omega)]) (fun _ => by omega) (fun _ => by omega))
  have e13184 : I13183 (ad g 1) 1 = L := by rw [eI13183, pp_ne _ _ (Or.inl (lyx_ne hy (by decide) (by decide) (by decide)))]; exact e13177
  have e13185 : I13183 (ad g 56) 1 = v13157 := by rw [eI13183, pp_ne _ _ (Or.inl (lyx_ne hy (by decide) (by decide) (by decide)))]; exact e13178
  have fr13186 : fz 74 g [56, 58] I I13183 := by rw [eI13183]; exact fzx_pp hy fr13179 (by decide) (by decide)
  clear eI13183
  refine WP_aload_n dX9_sleep_117 rfl ?_
  refine WP_getr dX9_sleep_118 fX9_75 rfl (lyx_is hy 56 4 rfl) (rfx hr 56 5 58 (by decide)) ?_
  refine WP_iload dX9_sleep_121 rfl ?_
  refine WQ_iconst (1) (1) dX9_sleep_123 rfl rfl (fun v13187 hv13187 => ?_)
  refine WQ_iadd dX9_sleep_124 (by omega) (by omega) (fun v13188 hv13188 => ?_)
  refine WP_iload dX9_sleep_125 rfl ?_
  refine WQ_iast dX9_sleep_127 (lyx_is hy 58 13 rfl) (lyx_n hy 58 28 rfl) (by omega) (by omega) (fun I13189 eI13189 => ?_)
  have hI13189 : XI g n L I13189 := by rw [eI13189]; exact (fa_put hy hI13183 (c := 58) (k := 1) (s := so.toInt.toNat) (by decide) (by omega) (by decide) (by rw [cl (n := 7 * so.toInt.toNat + 1) (by omega)]) (fun _ => by omega) (fun _ => by omega))
  have e13190 : I13189 (ad g 1) 1 = L := by rw [eI13189, pp_ne _ _ (Or.inl (lyx_ne hy (by decide) (by decide) (by decide)))]; exact e13184
  have e13191 : I13189 (ad g 56) 1 = v13157 := by rw [eI13189, pp_ne _ _ (Or.inl (lyx_ne hy (by decide) (by decide) (by decide)))]; exact e13185
  have fr13192 : fz 74 g [56, 58] I I13189 := by rw [eI13189]; exact fzx_pp hy fr13186 (by decide) (by decide)
  clear eI13189
  exact WP_vret dX9_sleep_128 rfl ⟨⟨hI13189, rfl, fr13192, (by rw [e13191, ew13149]; omega)⟩, rfl⟩
set_option maxHeartbeats 4000000 in
set_option maxRecDepth 100000 in
theorem sx_habita {g : GG} {n : Int} {L : Int32} (hy : LyX g)  {I : pI} {J : pJ} {R : pR} (hr : RfX g R) (hI : XI g n L I) (wa : Int32) (co : Int32) (st : Int32) (co_lo : 0 ≤ co.toInt) (co_hi : co.toInt ≤ 60) (st_lo : 0 ≤ st.toInt) (st_hi : st.toInt ≤ 5) : SP g mX6_habit [.ref (ad g 50), .int wa, .int co, .int st] I J R (fun r I' J' R' => (I' = I ∧ J' = J ∧ R' = R) ∧ ∃ v : Int32, r = some (.int v) ∧ 0 ≤ v.toInt ∧ v.toInt ≤ 47 ∧ (v.toInt / 4 % 4 ≤ st.toInt ∧ st.toInt - v.toInt / 4 % 4 + v.toInt / 16 ≤ 5 ∧ (v.toInt % 4) * (I (ad g 50) 3).toInt + (v.toInt / 16) * (I (ad g 50) 4).toInt ≤ co.toInt)) := by
  refine SP_of ⟨by decide, rfl⟩ (Nat.le_of_ble_eq_true rfl) ?_
  have e13193 : I (ad g 1) 1 = L := hI.2
  have b13194 := BT_get hI.1 1 1 2 (0) (0) (900) (by decide) 1 (by decide) (by decide)
  rw [e13193] at b13194
  refine WP_iload_n dX6_habit_0 rfl ?_
  refine WQ_iconst (4) (4) dX6_habit_1 rfl rfl (fun v13195 hv13195 => ?_)
  refine WQ_icmp_ne 7 dX6_habit_2 rfl (fun c13195 => ?_) (fun c13195 => ?_)
  · refine WP_iload_n dX6_habit_7 rfl ?_
    refine WQ_iconst (2) (2) dX6_habit_8 rfl rfl (fun v13197 hv13197 => ?_)
    refine WQ_icmp_ne 20 dX6_habit_9 rfl (fun c13197 => ?_) (fun c13197 => ?_)
    · refine WQ_iconst (0) (0) dX6_habit_20 rfl rfl (fun v13199 hv13199 => ?_)
      refine WP_istore (ls' := [(0, _), (1, _), (2, _), (3, _), (4, _)]) dX6_habit_21 (by decide) rfl ?_
      refine WP_aload_n dX6_habit_23 rfl ?_
      refine WQ_geti dX6_habit_24 fX6_54 rfl (lyx_is hy 50 6 rfl) (BT_get hI.1 50 5 6 (0) (0) (3) (by decide) 5 (by decide) (by decide)) (fun v13200 ev13200 av13200 bv13200 => ?_)
      refine WP_aload_n dX6_habit_27 rfl ?_
      refine WQ_geti dX6_habit_28 fX6_36 rfl (lyx_is hy 50 6 rfl) (BT_get hI.1 50 1 2 (0) (0) (3) (by decide) 1 (by decide) (by decide)) (fun v13201 ev13201 av13201 bv13201 => ?_)
      refine WP_iload dX6_habit_31 rfl ?_
      refine WQ_isub dX6_habit_33 (by omega) (by omega) (fun v13202 hv13202 => ?_)
      refine WQ_min dX6_habit_34 lX6_78 ⟨by decide, Nat.le_of_ble_eq_true rfl⟩ (fun v13203 av13203 bv13203 cv13203 => ?_)
      refine WP_iload_n dX6_habit_37 rfl ?_
      refine WP_aload_n dX6_habit_38 rfl ?_
      refine WQ_geti dX6_habit_39 fX6_48 rfl (lyx_is hy 50 6 rfl) (BT_get hI.1 50 3 4 (0) (0) (20) (by decide) 3 (by decide) (by decide)) (fun v13204 ev13204 av13204 bv13204 => ?_)
      refine WP_callN2 dX6_habit_42 ⟨⟨⟨by decide, by decide⟩, zX10_affordable⟩, lX6_83, tX10_affordable⟩ (sx_afford hy hr hI co v13204 (by omega) (by omega) (by omega) (by omega)) (Nat.le_of_ble_eq_true rfl) ?_
      intro r Ia Ja Ra hq
      obtain ⟨⟨ea, eb, ec⟩, v13205, rfl, av13205, bv13205, cv13205⟩ := hq
      show WP _ _ _ _ (.int _ :: _) _ _ _ _
      rw [ea, eb, ec]
      clear ea eb ec Ia Ja Ra
      refine WQ_min dX6_habit_45 lX6_78 ⟨by decide, Nat.le_of_ble_eq_true rfl⟩ (fun v13206 av13206 bv13206 cv13206 => ?_)
      refine WP_istore (ls' := [(0, _), (1, _), (2, _), (3, _), (4, _), (5, _)]) dX6_habit_48 (by decide) rfl ?_
      refine WP_iload_n dX6_habit_50 rfl ?_
      refine WQ_iconst (2) (2) dX6_habit_51 rfl rfl (fun v13207 hv13207 => ?_)
      refine WQ_icmp_eq 72 dX6_habit_52 rfl (fun c13207 => ?_) (fun c13207 => ?_)
      · refine WQ_iconst (0) (0) dX6_habit_72 rfl rfl (fun v13209 hv13209 => ?_)
        refine WP_istore (ls' := [(0, _), (1, _), (2, _), (3, _), (4, _), (5, _), (6, _)]) dX6_habit_73 (by decide) rfl ?_
        refine WP_iload_n dX6_habit_75 rfl ?_
        refine WQ_if_eq 91 dX6_habit_76 rfl (fun c13209 => False.elim (by omega)) (fun c13209 => ?_)
        refine WP_iload_n dX6_habit_79 rfl ?_
        refine WQ_iconst (2) (2) dX6_habit_80 rfl rfl (fun v13211 hv13211 => ?_)
        refine WQ_icmp_ne 133 dX6_habit_81 rfl (fun c13211 => False.elim (by omega)) (fun c13211 => ?_)
        refine WP_aload_n dX6_habit_84 rfl ?_
        refine WQ_geti dX6_habit_85 fX6_67 rfl (lyx_is hy 50 6 rfl) (BT_get hI.1 50 8 9 (0) (0) (1) (by decide) 8 (by decide) (by decide)) (fun v13213 ev13213 av13213 bv13213 => ?_)
        refine WQ_if_eq 133 dX6_habit_88 rfl (fun c13213 => ?_) (fun c13213 => ?_)
        · refine WQ_bipush (16) (16) dX6_habit_133 rfl rfl (fun v13215 hv13215 => ?_)
          refine WP_iload dX6_habit_135 rfl ?_
          refine WQ_imulk (0) dX6_habit_137 hv13209 (by omega) (by omega) (fun v13216 hv13216 => ?_)
          refine WQ_iconst (4) (4) dX6_habit_138 rfl rfl (fun v13217 hv13217 => ?_)
          refine WP_iload dX6_habit_139 rfl ?_
          refine WQ_imulk (0) dX6_habit_141 hv13199 (by omega) (by omega) (fun v13218 hv13218 => ?_)
          refine WQ_iadd dX6_habit_142 (by omega) (by omega) (fun v13219 hv13219 => ?_)
          refine WP_iload dX6_habit_143 rfl ?_
          refine WQ_iadd dX6_habit_145 (by omega) (by omega) (fun v13220 hv13220 => ?_)
          obtain ⟨w13221, ew13221⟩ : ∃ w : Int32, I (ad g 50) 4 = w := ⟨_, rfl⟩
          have bw13221 := BT_get hI.1 50 4 5 (0) (0) (20) (by decide) 4 (by decide) (by decide)
          rw [ew13221] at bw13221
          exact WP_iret dX6_habit_146 rfl ⟨⟨rfl, rfl, rfl⟩, _, rfl, by omega, by omega, (by
                have ee : v13220.toInt % 4 = v13206.toInt := by omega
                have es : v13220.toInt / 16 = v13209.toInt := by omega
                have ef : v13220.toInt / 4 % 4 = v13199.toInt := by omega
                rw [ee, es, ef, ev13204, ew13221]
                have k1 : v13206.toInt * v13204.toInt ≤ v13205.toInt * v13204.toInt := Int.mul_le_mul_of_nonneg_right (by omega) (by omega)
                have k2 : v13209.toInt * w13221.toInt = 0 := by rw [show v13209.toInt = 0 by omega]; simp
                exact ⟨by omega, by omega, by omega⟩)⟩
        · refine WQ_iconst (5) (5) dX6_habit_91 rfl rfl (fun v13222 hv13222 => ?_)
          refine WP_iload_n dX6_habit_92 rfl ?_
          refine WQ_isub dX6_habit_93 (by omega) (by omega) (fun v13223 hv13223 => ?_)
          refine WP_iload dX6_habit_94 rfl ?_
          refine WQ_iadd dX6_habit_96 (by omega) (by omega) (fun v13224 hv13224 => ?_)
          refine WP_istore (ls' := [(0, _), (1, _), (2, _), (3, _), (4, _), (5, _), (6, _), (7, _)]) dX6_habit_97 (by decide) rfl ?_
          refine WP_iload_n dX6_habit_99 rfl ?_
          refine WP_iload dX6_habit_100 rfl ?_
          refine WP_aload_n dX6_habit_102 rfl ?_
          refine WQ_getim dX6_habit_103 fX6_48 rfl (lyx_is hy 50 6 rfl) ev13204 ?_
          refine WQ_imulb (3) (20) dX6_habit_106 ⟨by omega, by omega⟩ ⟨by omega, by omega⟩ (by decide) (fun v13225 pv13225 av13225 bv13225 cv13225 => ?_)
          have k0 : v13206.toInt * v13204.toInt ≤ v13205.toInt * v13204.toInt := Int.mul_le_mul_of_nonneg_right (by omega) (by omega)
          refine WQ_isub dX6_habit_107 (by omega) (by omega) (fun v13226 hv13226 => ?_)
          refine WP_aload_n dX6_habit_108 rfl ?_
          refine WQ_geti dX6_habit_109 fX6_51 rfl (lyx_is hy 50 6 rfl) (BT_get hI.1 50 4 5 (0) (0) (20) (by decide) 4 (by decide) (by decide)) (fun v13227 ev13227 av13227 bv13227 => ?_)
          refine WP_callN2 dX6_habit_112 ⟨⟨⟨by decide, by decide⟩, zX10_affordable⟩, lX6_83, tX10_affordable⟩ (sx_afford hy hr hI v13226 v13227 (by omega) (by omega) (by omega) (by omega)) (Nat.le_of_ble_eq_true rfl) ?_
          intro r Ia Ja Ra hq
          obtain ⟨⟨ea, eb, ec⟩, v13228, rfl, av13228, bv13228, cv13228⟩ := hq
          show WP _ _ _ _ (.int _ :: _) _ _ _ _
          rw [ea, eb, ec]
          clear ea eb ec Ia Ja Ra
          refine WP_istore (ls' := [(0, _), (1, _), (2, _), (3, _), (4, _), (5, _), (6, _), (7, _), (8, _)]) dX6_habit_115 (by decide) rfl ?_
          refine WP_aload_n dX6_habit_117 rfl ?_
          refine WQ_geti dX6_habit_118 fX6_57 rfl (lyx_is hy 50 6 rfl) (BT_get hI.1 50 6 7 (0) (0) (2) (by decide) 6 (by decide) (by decide)) (fun v13229 ev13229 av13229 bv13229 => ?_)
          refine WP_iload dX6_habit_121 rfl ?_
          refine WQ_min dX6_habit_123 lX6_78 ⟨by decide, Nat.le_of_ble_eq_true rfl⟩ (fun v13230 av13230 bv13230 cv13230 => ?_)
          refine WP_iload dX6_habit_126 rfl ?_
          refine WQ_min dX6_habit_128 lX6_78 ⟨by decide, Nat.le_of_ble_eq_true rfl⟩ (fun v13231 av13231 bv13231 cv13231 => ?_)
          refine WP_istore (ls' := [(0, _), (1, _), (2, _), (3, _), (4, _), (5, _), (6, _), (7, _), (8, _)]) dX6_habit_131 (by decide) rfl ?_
          refine WQ_bipush (16) (16) dX6_habit_133 rfl rfl (fun v13232 hv13232 => ?_)
          refine WP_iload dX6_habit_135 rfl ?_
          refine WQ_imulK (16) dX6_habit_137 hv13232 (by omega) (by omega) (fun v13233 hv13233 => ?_)
          refine WQ_iconst (4) (4) dX6_habit_138 rfl rfl (fun v13234 hv13234 => ?_)
          refine WP_iload dX6_habit_139 rfl ?_
          refine WQ_imulk (0) dX6_habit_141 hv13199 (by omega) (by omega) (fun v13235 hv13235 => ?_)
          refine WQ_iadd dX6_habit_142 (by omega) (by omega) (fun v13236 hv13236 => ?_)
          refine WP_iload dX6_habit_143 rfl ?_
          refine WQ_iadd dX6_habit_145 (by omega) (by omega) (fun v13237 hv13237 => ?_)
          exact WP_iret dX6_habit_146 rfl ⟨⟨rfl, rfl, rfl⟩, _, rfl, by omega, by omega, (by
                have ee : v13237.toInt % 4 = v13206.toInt := by omega
                have es : v13237.toInt / 16 = v13231.toInt := by omega
                have ef : v13237.toInt / 4 % 4 = v13199.toInt := by omega
                rw [ee, es, ef, ev13204, ev13227]
                have k1 : v13206.toInt * v13204.toInt ≤ v13205.toInt * v13204.toInt := Int.mul_le_mul_of_nonneg_right (by omega) (by omega)
                have k2 : v13231.toInt * v13227.toInt ≤ v13228.toInt * v13227.toInt := Int.mul_le_mul_of_nonneg_right (by omega) (by omega)
                exact ⟨by omega, by omega, by omega⟩)⟩
      · refine WP_aload_n dX6_habit_55 rfl ?_
        refine WQ_getim dX6_habit_56 fX6_36 rfl (lyx_is hy 50 6 rfl) ev13201 ?_
        refine WP_iload dX6_habit_59 rfl ?_
        refine WQ_isub dX6_habit_61 (by omega) (by omega) (fun v13238 hv13238 => ?_)
        refine WP_aload_n dX6_habit_62 rfl ?_
        refine WP_iload_n dX6_habit_63 rfl ?_
        refine WP_callV1 (k := 6) dX6_habit_64 ⟨⟨⟨by decide, by decide⟩, zX6_mostFromStore⟩, lX6_70, by decide, rfl, vX6_mostFromStore.1, vX6_mostFromStore.2⟩ (lyx_is hy 50 6 rfl) (sx_mfs_50 hy hr hI st (by omega) (by omega)) (Nat.le_of_ble_eq_true rfl) ?_
        intro r Ia Ja Ra hq
        obtain ⟨⟨ea, eb, ec⟩, v13239, rfl, av13239, bv13239, cv13239⟩ := hq
        show WP _ _ _ _ (.int _ :: _) _ _ _ _
        rw [ea, eb, ec]
        clear ea eb ec Ia Ja Ra
        rw [ev13201] at cv13239
        refine WQ_min dX6_habit_67 lX6_78 ⟨by decide, Nat.le_of_ble_eq_true rfl⟩ (fun v13240 av13240 bv13240 cv13240 => ?_)
        refine WP_istore (ls' := [(0, _), (1, _), (2, _), (3, _), (4, _), (5, _)]) dX6_habit_70 (by decide) rfl ?_
        refine WQ_iconst (0) (0) dX6_habit_72 rfl rfl (fun v13241 hv13241 => ?_)
        refine WP_istore (ls' := [(0, _), (1, _), (2, _), (3, _), (4, _), (5, _), (6, _)]) dX6_habit_73 (by decide) rfl ?_
        refine WP_iload_n dX6_habit_75 rfl ?_
        refine WQ_if_eq 91 dX6_habit_76 rfl (fun c13241 => ?_) (fun c13241 => ?_)
        · refine WQ_iconst (5) (5) dX6_habit_91 rfl rfl (fun v13243 hv13243 => ?_)
          refine WP_iload_n dX6_habit_92 rfl ?_
          refine WQ_isub dX6_habit_93 (by omega) (by omega) (fun v13244 hv13244 => ?_)
          refine WP_iload dX6_habit_94 rfl ?_
          refine WQ_iadd dX6_habit_96 (by omega) (by omega) (fun v13245 hv13245 => ?_)
          refine WP_istore (ls' := [(0, _), (1, _), (2, _), (3, _), (4, _), (5, _), (6, _), (7, _)]) dX6_habit_97 (by decide) rfl ?_
          refine WP_iload_n dX6_habit_99 rfl ?_
          refine WP_iload dX6_habit_100 rfl ?_
          refine WP_aload_n dX6_habit_102 rfl ?_
          refine WQ_getim dX6_habit_103 fX6_48 rfl (lyx_is hy 50 6 rfl) ev13204 ?_
          refine WQ_imulb (3) (20) dX6_habit_106 ⟨by omega, by omega⟩ ⟨by omega, by omega⟩ (by decide) (fun v13246 pv13246 av13246 bv13246 cv13246 => ?_)
          have k0 : v13206.toInt * v13204.toInt ≤ v13205.toInt * v13204.toInt := Int.mul_le_mul_of_nonneg_right (by omega) (by omega)
          refine WQ_isub dX6_habit_107 (by omega) (by omega) (fun v13247 hv13247 => ?_)
          refine WP_aload_n dX6_habit_108 rfl ?_
          refine WQ_geti dX6_habit_109 fX6_51 rfl (lyx_is hy 50 6 rfl) (BT_get hI.1 50 4 5 (0) (0) (20) (by decide) 4 (by decide) (by decide)) (fun v13248 ev13248 av13248 bv13248 => ?_)
          refine WP_callN2 dX6_habit_112 ⟨⟨⟨by decide, by decide⟩, zX10_affordable⟩, lX6_83, tX10_affordable⟩ (sx_afford hy hr hI v13247 v13248 (by omega) (by omega) (by omega) (by omega)) (Nat.le_of_ble_eq_true rfl) ?_
          intro r Ia Ja Ra hq
          obtain ⟨⟨ea, eb, ec⟩, v13249, rfl, av13249, bv13249, cv13249⟩ := hq
          show WP _ _ _ _ (.int _ :: _) _ _ _ _
          rw [ea, eb, ec]
          clear ea eb ec Ia Ja Ra
          refine WP_istore (ls' := [(0, _), (1, _), (2, _), (3, _), (4, _), (5, _), (6, _), (7, _), (8, _)]) dX6_habit_115 (by decide) rfl ?_
          refine WP_aload_n dX6_habit_117 rfl ?_
          refine WQ_geti dX6_habit_118 fX6_57 rfl (lyx_is hy 50 6 rfl) (BT_get hI.1 50 6 7 (0) (0) (2) (by decide) 6 (by decide) (by decide)) (fun v13250 ev13250 av13250 bv13250 => ?_)
          refine WP_iload dX6_habit_121 rfl ?_
          refine WQ_min dX6_habit_123 lX6_78 ⟨by decide, Nat.le_of_ble_eq_true rfl⟩ (fun v13251 av13251 bv13251 cv13251 => ?_)
          refine WP_iload dX6_habit_126 rfl ?_
          refine WQ_min dX6_habit_128 lX6_78 ⟨by decide, Nat.le_of_ble_eq_true rfl⟩ (fun v13252 av13252 bv13252 cv13252 => ?_)
          refine WP_istore (ls' := [(0, _), (1, _), (2, _), (3, _), (4, _), (5, _), (6, _), (7, _), (8, _)]) dX6_habit_131 (by decide) rfl ?_
          refine WQ_bipush (16) (16) dX6_habit_133 rfl rfl (fun v13253 hv13253 => ?_)
          refine WP_iload dX6_habit_135 rfl ?_
          refine WQ_imulK (16) dX6_habit_137 hv13253 (by omega) (by omega) (fun v13254 hv13254 => ?_)
          refine WQ_iconst (4) (4) dX6_habit_138 rfl rfl (fun v13255 hv13255 => ?_)
          refine WP_iload dX6_habit_139 rfl ?_
          refine WQ_imulK (4) dX6_habit_141 hv13255 (by omega) (by omega) (fun v13256 hv13256 => ?_)
          refine WQ_iadd dX6_habit_142 (by omega) (by omega) (fun v13257 hv13257 => ?_)
          refine WP_iload dX6_habit_143 rfl ?_
          refine WQ_iadd dX6_habit_145 (by omega) (by omega) (fun v13258 hv13258 => ?_)
          exact WP_iret dX6_habit_146 rfl ⟨⟨rfl, rfl, rfl⟩, _, rfl, by omega, by omega, (by
                have ee : v13258.toInt % 4 = v13206.toInt := by omega
                have es : v13258.toInt / 16 = v13252.toInt := by omega
                have ef : v13258.toInt / 4 % 4 = v13240.toInt := by omega
                rw [ee, es, ef, ev13204, ev13248]
                have k1 : v13206.toInt * v13204.toInt ≤ v13205.toInt * v13204.toInt := Int.mul_le_mul_of_nonneg_right (by omega) (by omega)
                have k2 : v13252.toInt * v13248.toInt ≤ v13249.toInt * v13248.toInt := Int.mul_le_mul_of_nonneg_right (by omega) (by omega)
                exact ⟨by omega, by omega, by omega⟩)⟩
        · refine WP_iload_n dX6_habit_79 rfl ?_
          refine WQ_iconst (2) (2) dX6_habit_80 rfl rfl (fun v13259 hv13259 => ?_)
          refine WQ_icmp_ne 133 dX6_habit_81 rfl (fun c13259 => ?_) (fun c13259 => ?_)
          · refine WQ_bipush (16) (16) dX6_habit_133 rfl rfl (fun v13261 hv13261 => ?_)
            refine WP_iload dX6_habit_135 rfl ?_
            refine WQ_imulk (0) dX6_habit_137 hv13241 (by omega) (by omega) (fun v13262 hv13262 => ?_)
            refine WQ_iconst (4) (4) dX6_habit_138 rfl rfl (fun v13263 hv13263 => ?_)
            refine WP_iload dX6_habit_139 rfl ?_
            refine WQ_imulK (4) dX6_habit_141 hv13263 (by omega) (by omega) (fun v13264 hv13264 => ?_)
            refine WQ_iadd dX6_habit_142 (by omega) (by omega) (fun v13265 hv13265 => ?_)
            refine WP_iload dX6_habit_143 rfl ?_
            refine WQ_iadd dX6_habit_145 (by omega) (by omega) (fun v13266 hv13266 => ?_)
            obtain ⟨w13267, ew13267⟩ : ∃ w : Int32, I (ad g 50) 4 = w := ⟨_, rfl⟩
            have bw13267 := BT_get hI.1 50 4 5 (0) (0) (20) (by decide) 4 (by decide) (by decide)
            rw [ew13267] at bw13267
            exact WP_iret dX6_habit_146 rfl ⟨⟨rfl, rfl, rfl⟩, _, rfl, by omega, by omega, (by
                  have ee : v13266.toInt % 4 = v13206.toInt := by omega
                  have es : v13266.toInt / 16 = v13241.toInt := by omega
                  have ef : v13266.toInt / 4 % 4 = v13240.toInt := by omega
                  rw [ee, es, ef, ev13204, ew13267]
                  have k1 : v13206.toInt * v13204.toInt ≤ v13205.toInt * v13204.toInt := Int.mul_le_mul_of_nonneg_right (by omega) (by omega)
                  have k2 : v13241.toInt * w13267.toInt = 0 := by rw [show v13241.toInt = 0 by omega]; simp
                  exact ⟨by omega, by omega, by omega⟩)⟩
          · refine WP_aload_n dX6_habit_84 rfl ?_
            refine WQ_geti dX6_habit_85 fX6_67 rfl (lyx_is hy 50 6 rfl) (BT_get hI.1 50 8 9 (0) (0) (1) (by decide) 8 (by decide) (by decide)) (fun v13268 ev13268 av13268 bv13268 => ?_)
            refine WQ_if_eq 133 dX6_habit_88 rfl (fun c13268 => ?_) (fun c13268 => ?_)
            · refine WQ_bipush (16) (16) dX6_habit_133 rfl rfl (fun v13270 hv13270 => ?_)
              refine WP_iload dX6_habit_135 rfl ?_
              refine WQ_imulk (0) dX6_habit_137 hv13241 (by omega) (by omega) (fun v13271 hv13271 => ?_)
              refine WQ_iconst (4) (4) dX6_habit_138 rfl rfl (fun v13272 hv13272 => ?_)
              refine WP_iload dX6_habit_139 rfl ?_
              refine WQ_imulK (4) dX6_habit_141 hv13272 (by omega) (by omega) (fun v13273 hv13273 => ?_)
              refine WQ_iadd dX6_habit_142 (by omega) (by omega) (fun v13274 hv13274 => ?_)
              refine WP_iload dX6_habit_143 rfl ?_
              refine WQ_iadd dX6_habit_145 (by omega) (by omega) (fun v13275 hv13275 => ?_)
              obtain ⟨w13276, ew13276⟩ : ∃ w : Int32, I (ad g 50) 4 = w := ⟨_, rfl⟩
              have bw13276 := BT_get hI.1 50 4 5 (0) (0) (20) (by decide) 4 (by decide) (by decide)
              rw [ew13276] at bw13276
              exact WP_iret dX6_habit_146 rfl ⟨⟨rfl, rfl, rfl⟩, _, rfl, by omega, by omega, (by
                    have ee : v13275.toInt % 4 = v13206.toInt := by omega
                    have es : v13275.toInt / 16 = v13241.toInt := by omega
                    have ef : v13275.toInt / 4 % 4 = v13240.toInt := by omega
                    rw [ee, es, ef, ev13204, ew13276]
                    have k1 : v13206.toInt * v13204.toInt ≤ v13205.toInt * v13204.toInt := Int.mul_le_mul_of_nonneg_right (by omega) (by omega)
                    have k2 : v13241.toInt * w13276.toInt = 0 := by rw [show v13241.toInt = 0 by omega]; simp
                    exact ⟨by omega, by omega, by omega⟩)⟩
            · refine WQ_iconst (5) (5) dX6_habit_91 rfl rfl (fun v13277 hv13277 => ?_)
              refine WP_iload_n dX6_habit_92 rfl ?_
              refine WQ_isub dX6_habit_93 (by omega) (by omega) (fun v13278 hv13278 => ?_)
              refine WP_iload dX6_habit_94 rfl ?_
              refine WQ_iadd dX6_habit_96 (by omega) (by omega) (fun v13279 hv13279 => ?_)
              refine WP_istore (ls' := [(0, _), (1, _), (2, _), (3, _), (4, _), (5, _), (6, _), (7, _)]) dX6_habit_97 (by decide) rfl ?_
              refine WP_iload_n dX6_habit_99 rfl ?_
              refine WP_iload dX6_habit_100 rfl ?_
              refine WP_aload_n dX6_habit_102 rfl ?_
              refine WQ_getim dX6_habit_103 fX6_48 rfl (lyx_is hy 50 6 rfl) ev13204 ?_
              refine WQ_imulb (3) (20) dX6_habit_106 ⟨by omega, by omega⟩ ⟨by omega, by omega⟩ (by decide) (fun v13280 pv13280 av13280 bv13280 cv13280 => ?_)
              have k0 : v13206.toInt * v13204.toInt ≤ v13205.toInt * v13204.toInt := Int.mul_le_mul_of_nonneg_right (by omega) (by omega)
              refine WQ_isub dX6_habit_107 (by omega) (by omega) (fun v13281 hv13281 => ?_)
              refine WP_aload_n dX6_habit_108 rfl ?_
              refine WQ_geti dX6_habit_109 fX6_51 rfl (lyx_is hy 50 6 rfl) (BT_get hI.1 50 4 5 (0) (0) (20) (by decide) 4 (by decide) (by decide)) (fun v13282 ev13282 av13282 bv13282 => ?_)
              refine WP_callN2 dX6_habit_112 ⟨⟨⟨by decide, by decide⟩, zX10_affordable⟩, lX6_83, tX10_affordable⟩ (sx_afford hy hr hI v13281 v13282 (by omega) (by omega) (by omega) (by omega)) (Nat.le_of_ble_eq_true rfl) ?_
              intro r Ia Ja Ra hq
              obtain ⟨⟨ea, eb, ec⟩, v13283, rfl, av13283, bv13283, cv13283⟩ := hq
              show WP _ _ _ _ (.int _ :: _) _ _ _ _
              rw [ea, eb, ec]
              clear ea eb ec Ia Ja Ra
              refine WP_istore (ls' := [(0, _), (1, _), (2, _), (3, _), (4, _), (5, _), (6, _), (7, _), (8, _)]) dX6_habit_115 (by decide) rfl ?_
              refine WP_aload_n dX6_habit_117 rfl ?_
              refine WQ_geti dX6_habit_118 fX6_57 rfl (lyx_is hy 50 6 rfl) (BT_get hI.1 50 6 7 (0) (0) (2) (by decide) 6 (by decide) (by decide)) (fun v13284 ev13284 av13284 bv13284 => ?_)
              refine WP_iload dX6_habit_121 rfl ?_
              refine WQ_min dX6_habit_123 lX6_78 ⟨by decide, Nat.le_of_ble_eq_true rfl⟩ (fun v13285 av13285 bv13285 cv13285 => ?_)
              refine WP_iload dX6_habit_126 rfl ?_
              refine WQ_min dX6_habit_128 lX6_78 ⟨by decide, Nat.le_of_ble_eq_true rfl⟩ (fun v13286 av13286 bv13286 cv13286 => ?_)
              refine WP_istore (ls' := [(0, _), (1, _), (2, _), (3, _), (4, _), (5, _), (6, _), (7, _), (8, _)]) dX6_habit_131 (by decide) rfl ?_
              refine WQ_bipush (16) (16) dX6_habit_133 rfl rfl (fun v13287 hv13287 => ?_)
              refine WP_iload dX6_habit_135 rfl ?_
              refine WQ_imulK (16) dX6_habit_137 hv13287 (by omega) (by omega) (fun v13288 hv13288 => ?_)
              refine WQ_iconst (4) (4) dX6_habit_138 rfl rfl (fun v13289 hv13289 => ?_)
              refine WP_iload dX6_habit_139 rfl ?_
              refine WQ_imulK (4) dX6_habit_141 hv13289 (by omega) (by omega) (fun v13290 hv13290 => ?_)
              refine WQ_iadd dX6_habit_142 (by omega) (by omega) (fun v13291 hv13291 => ?_)
              refine WP_iload dX6_habit_143 rfl ?_
              refine WQ_iadd dX6_habit_145 (by omega) (by omega) (fun v13292 hv13292 => ?_)
              exact WP_iret dX6_habit_146 rfl ⟨⟨rfl, rfl, rfl⟩, _, rfl, by omega, by omega, (by
                    have ee : v13292.toInt % 4 = v13206.toInt := by omega
                    have es : v13292.toInt / 16 = v13286.toInt := by omega
                    have ef : v13292.toInt / 4 % 4 = v13240.toInt := by omega
                    rw [ee, es, ef, ev13204, ev13282]
                    have k1 : v13206.toInt * v13204.toInt ≤ v13205.toInt * v13204.toInt := Int.mul_le_mul_of_nonneg_right (by omega) (by omega)
                    have k2 : v13286.toInt * v13282.toInt ≤ v13283.toInt * v13282.toInt := Int.mul_le_mul_of_nonneg_right (by omega) (by omega)
                    exact ⟨by omega, by omega, by omega⟩)⟩
    · refine WP_aload_n dX6_habit_12 rfl ?_
      refine WP_iload_n dX6_habit_13 rfl ?_
      refine WP_callV1 (k := 6) dX6_habit_14 ⟨⟨⟨by decide, by decide⟩, zX6_mostFromStore⟩, lX6_70, by decide, rfl, vX6_mostFromStore.1, vX6_mostFromStore.2⟩ (lyx_is hy 50 6 rfl) (sx_mfs_50 hy hr hI st (by omega) (by omega)) (Nat.le_of_ble_eq_true rfl) ?_
      intro r Ia Ja Ra hq
      obtain ⟨⟨ea, eb, ec⟩, v13293, rfl, av13293, bv13293, cv13293⟩ := hq
      show WP _ _ _ _ (.int _ :: _) _ _ _ _
      rw [ea, eb, ec]
      clear ea eb ec Ia Ja Ra
      obtain ⟨w13294, ew13294⟩ : ∃ w : Int32, I (ad g 50) 1 = w := ⟨_, rfl⟩
      have bw13294 := BT_get hI.1 50 1 2 (0) (0) (3) (by decide) 1 (by decide) (by decide)
      rw [ew13294] at bw13294
      rw [ew13294] at cv13293
      refine WP_goto 21 dX6_habit_17 rfl ?_
      refine WP_istore (ls' := [(0, _), (1, _), (2, _), (3, _), (4, _)]) dX6_habit_21 (by decide) rfl ?_
      refine WP_aload_n dX6_habit_23 rfl ?_
      refine WQ_geti dX6_habit_24 fX6_54 rfl (lyx_is hy 50 6 rfl) (BT_get hI.1 50 5 6 (0) (0) (3) (by decide) 5 (by decide) (by decide)) (fun v13295 ev13295 av13295 bv13295 => ?_)
      refine WP_aload_n dX6_habit_27 rfl ?_
      refine WQ_getim dX6_habit_28 fX6_36 rfl (lyx_is hy 50 6 rfl) ew13294 ?_
      refine WP_iload dX6_habit_31 rfl ?_
      refine WQ_isub dX6_habit_33 (by omega) (by omega) (fun v13296 hv13296 => ?_)
      refine WQ_min dX6_habit_34 lX6_78 ⟨by decide, Nat.le_of_ble_eq_true rfl⟩ (fun v13297 av13297 bv13297 cv13297 => ?_)
      refine WP_iload_n dX6_habit_37 rfl ?_
      refine WP_aload_n dX6_habit_38 rfl ?_
      refine WQ_geti dX6_habit_39 fX6_48 rfl (lyx_is hy 50 6 rfl) (BT_get hI.1 50 3 4 (0) (0) (20) (by decide) 3 (by decide) (by decide)) (fun v13298 ev13298 av13298 bv13298 => ?_)
      refine WP_callN2 dX6_habit_42 ⟨⟨⟨by decide, by decide⟩, zX10_affordable⟩, lX6_83, tX10_affordable⟩ (sx_afford hy hr hI co v13298 (by omega) (by omega) (by omega) (by omega)) (Nat.le_of_ble_eq_true rfl) ?_
      intro r Ia Ja Ra hq
      obtain ⟨⟨ea, eb, ec⟩, v13299, rfl, av13299, bv13299, cv13299⟩ := hq
      show WP _ _ _ _ (.int _ :: _) _ _ _ _
      rw [ea, eb, ec]
      clear ea eb ec Ia Ja Ra
      refine WQ_min dX6_habit_45 lX6_78 ⟨by decide, Nat.le_of_ble_eq_true rfl⟩ (fun v13300 av13300 bv13300 cv13300 => ?_)
      refine WP_istore (ls' := [(0, _), (1, _), (2, _), (3, _), (4, _), (5, _)]) dX6_habit_48 (by decide) rfl ?_
      refine WP_iload_n dX6_habit_50 rfl ?_
      refine WQ_iconst (2) (2) dX6_habit_51 rfl rfl (fun v13301 hv13301 => ?_)
      refine WQ_icmp_eq 72 dX6_habit_52 rfl (fun c13301 => ?_) (fun c13301 => False.elim (by omega))
      refine WQ_iconst (0) (0) dX6_habit_72 rfl rfl (fun v13303 hv13303 => ?_)
      refine WP_istore (ls' := [(0, _), (1, _), (2, _), (3, _), (4, _), (5, _), (6, _)]) dX6_habit_73 (by decide) rfl ?_
      refine WP_iload_n dX6_habit_75 rfl ?_
      refine WQ_if_eq 91 dX6_habit_76 rfl (fun c13303 => False.elim (by omega)) (fun c13303 => ?_)
      refine WP_iload_n dX6_habit_79 rfl ?_
      refine WQ_iconst (2) (2) dX6_habit_80 rfl rfl (fun v13305 hv13305 => ?_)
      refine WQ_icmp_ne 133 dX6_habit_81 rfl (fun c13305 => False.elim (by omega)) (fun c13305 => ?_)
      refine WP_aload_n dX6_habit_84 rfl ?_
      refine WQ_geti dX6_habit_85 fX6_67 rfl (lyx_is hy 50 6 rfl) (BT_get hI.1 50 8 9 (0) (0) (1) (by decide) 8 (by decide) (by decide)) (fun v13307 ev13307 av13307 bv13307 => ?_)
      refine WQ_if_eq 133 dX6_habit_88 rfl (fun c13307 => ?_) (fun c13307 => ?_)
      · refine WQ_bipush (16) (16) dX6_habit_133 rfl rfl (fun v13309 hv13309 => ?_)
        refine WP_iload dX6_habit_135 rfl ?_
        refine WQ_imulk (0) dX6_habit_137 hv13303 (by omega) (by omega) (fun v13310 hv13310 => ?_)
        refine WQ_iconst (4) (4) dX6_habit_138 rfl rfl (fun v13311 hv13311 => ?_)
        refine WP_iload dX6_habit_139 rfl ?_
        refine WQ_imulK (4) dX6_habit_141 hv13311 (by omega) (by omega) (fun v13312 hv13312 => ?_)
        refine WQ_iadd dX6_habit_142 (by omega) (by omega) (fun v13313 hv13313 => ?_)
        refine WP_iload dX6_habit_143 rfl ?_
        refine WQ_iadd dX6_habit_145 (by omega) (by omega) (fun v13314 hv13314 => ?_)
        obtain ⟨w13315, ew13315⟩ : ∃ w : Int32, I (ad g 50) 4 = w := ⟨_, rfl⟩
        have bw13315 := BT_get hI.1 50 4 5 (0) (0) (20) (by decide) 4 (by decide) (by decide)
        rw [ew13315] at bw13315
        exact WP_iret dX6_habit_146 rfl ⟨⟨rfl, rfl, rfl⟩, _, rfl, by omega, by omega, (by
              have ee : v13314.toInt % 4 = v13300.toInt := by omega
              have es : v13314.toInt / 16 = v13303.toInt := by omega
              have ef : v13314.toInt / 4 % 4 = v13293.toInt := by omega
              rw [ee, es, ef, ev13298, ew13315]
              have k1 : v13300.toInt * v13298.toInt ≤ v13299.toInt * v13298.toInt := Int.mul_le_mul_of_nonneg_right (by omega) (by omega)
              have k2 : v13303.toInt * w13315.toInt = 0 := by rw [show v13303.toInt = 0 by omega]; simp
              exact ⟨by omega, by omega, by omega⟩)⟩
      · refine WQ_iconst (5) (5) dX6_habit_91 rfl rfl (fun v13316 hv13316 => ?_)
        refine WP_iload_n dX6_habit_92 rfl ?_
        refine WQ_isub dX6_habit_93 (by omega) (by omega) (fun v13317 hv13317 => ?_)
        refine WP_iload dX6_habit_94 rfl ?_
        refine WQ_iadd dX6_habit_96 (by omega) (by omega) (fun v13318 hv13318 => ?_)
        refine WP_istore (ls' := [(0, _), (1, _), (2, _), (3, _), (4, _), (5, _), (6, _), (7, _)]) dX6_habit_97 (by decide) rfl ?_
        refine WP_iload_n dX6_habit_99 rfl ?_
        refine WP_iload dX6_habit_100 rfl ?_
        refine WP_aload_n dX6_habit_102 rfl ?_
        refine WQ_getim dX6_habit_103 fX6_48 rfl (lyx_is hy 50 6 rfl) ev13298 ?_
        refine WQ_imulb (3) (20) dX6_habit_106 ⟨by omega, by omega⟩ ⟨by omega, by omega⟩ (by decide) (fun v13319 pv13319 av13319 bv13319 cv13319 => ?_)
        have k0 : v13300.toInt * v13298.toInt ≤ v13299.toInt * v13298.toInt := Int.mul_le_mul_of_nonneg_right (by omega) (by omega)
        refine WQ_isub dX6_habit_107 (by omega) (by omega) (fun v13320 hv13320 => ?_)
        refine WP_aload_n dX6_habit_108 rfl ?_
        refine WQ_geti dX6_habit_109 fX6_51 rfl (lyx_is hy 50 6 rfl) (BT_get hI.1 50 4 5 (0) (0) (20) (by decide) 4 (by decide) (by decide)) (fun v13321 ev13321 av13321 bv13321 => ?_)
        refine WP_callN2 dX6_habit_112 ⟨⟨⟨by decide, by decide⟩, zX10_affordable⟩, lX6_83, tX10_affordable⟩ (sx_afford hy hr hI v13320 v13321 (by omega) (by omega) (by omega) (by omega)) (Nat.le_of_ble_eq_true rfl) ?_
        intro r Ia Ja Ra hq
        obtain ⟨⟨ea, eb, ec⟩, v13322, rfl, av13322, bv13322, cv13322⟩ := hq
        show WP _ _ _ _ (.int _ :: _) _ _ _ _
        rw [ea, eb, ec]
        clear ea eb ec Ia Ja Ra
        refine WP_istore (ls' := [(0, _), (1, _), (2, _), (3, _), (4, _), (5, _), (6, _), (7, _), (8, _)]) dX6_habit_115 (by decide) rfl ?_
        refine WP_aload_n dX6_habit_117 rfl ?_
        refine WQ_geti dX6_habit_118 fX6_57 rfl (lyx_is hy 50 6 rfl) (BT_get hI.1 50 6 7 (0) (0) (2) (by decide) 6 (by decide) (by decide)) (fun v13323 ev13323 av13323 bv13323 => ?_)
        refine WP_iload dX6_habit_121 rfl ?_
        refine WQ_min dX6_habit_123 lX6_78 ⟨by decide, Nat.le_of_ble_eq_true rfl⟩ (fun v13324 av13324 bv13324 cv13324 => ?_)
        refine WP_iload dX6_habit_126 rfl ?_
        refine WQ_min dX6_habit_128 lX6_78 ⟨by decide, Nat.le_of_ble_eq_true rfl⟩ (fun v13325 av13325 bv13325 cv13325 => ?_)
        refine WP_istore (ls' := [(0, _), (1, _), (2, _), (3, _), (4, _), (5, _), (6, _), (7, _), (8, _)]) dX6_habit_131 (by decide) rfl ?_
        refine WQ_bipush (16) (16) dX6_habit_133 rfl rfl (fun v13326 hv13326 => ?_)
        refine WP_iload dX6_habit_135 rfl ?_
        refine WQ_imulK (16) dX6_habit_137 hv13326 (by omega) (by omega) (fun v13327 hv13327 => ?_)
        refine WQ_iconst (4) (4) dX6_habit_138 rfl rfl (fun v13328 hv13328 => ?_)
        refine WP_iload dX6_habit_139 rfl ?_
        refine WQ_imulK (4) dX6_habit_141 hv13328 (by omega) (by omega) (fun v13329 hv13329 => ?_)
        refine WQ_iadd dX6_habit_142 (by omega) (by omega) (fun v13330 hv13330 => ?_)
        refine WP_iload dX6_habit_143 rfl ?_
        refine WQ_iadd dX6_habit_145 (by omega) (by omega) (fun v13331 hv13331 => ?_)
        exact WP_iret dX6_habit_146 rfl ⟨⟨rfl, rfl, rfl⟩, _, rfl, by omega, by omega, (by
              have ee : v13331.toInt % 4 = v13300.toInt := by omega
              have es : v13331.toInt / 16 = v13325.toInt := by omega
              have ef : v13331.toInt / 4 % 4 = v13293.toInt := by omega
              rw [ee, es, ef, ev13298, ev13321]
              have k1 : v13300.toInt * v13298.toInt ≤ v13299.toInt * v13298.toInt := Int.mul_le_mul_of_nonneg_right (by omega) (by omega)
              have k2 : v13325.toInt * v13321.toInt ≤ v13322.toInt * v13321.toInt := Int.mul_le_mul_of_nonneg_right (by omega) (by omega)
              exact ⟨by omega, by omega, by omega⟩)⟩
  · refine WQ_iconst (0) (0) dX6_habit_5 rfl rfl (fun v13332 hv13332 => ?_)
    exact WP_iret dX6_habit_6 rfl ⟨⟨rfl, rfl, rfl⟩, _, rfl, by omega, by omega, (by have hz : v13332.toInt = 0 := (by omega); rw [hz]; refine ⟨by omega, by omega, ?_⟩; simp; omega)⟩
