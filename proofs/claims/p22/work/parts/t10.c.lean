set_option maxHeartbeats 4000000 in
set_option maxRecDepth 100000 in
theorem sx_faultAhead_6_0 {g : GG} {n : Int} {L : Int32} (hy : LyX g)  {I : pI} {J : pJ} {R : pR} (hr : RfX g R) (hI : XI g n L I) (cz : Int32) (cz_lo : 0 ≤ cz.toInt) (cz_hi : cz.toInt ≤ 0) : SP g mX7_faultAhead [.ref (ad g 6), .int cz] I J R (fun r I' J' R' => (I' = I ∧ J' = J ∧ R' = R) ∧ ∃ v : Int32, r = some (.int v) ∧ 0 ≤ v.toInt ∧ v.toInt ≤ 4) := by
  refine SP_of ⟨by decide, rfl⟩ (Nat.le_of_ble_eq_true rfl) ?_
  have e16443 : I (ad g 1) 1 = L := hI.2
  have b16444 := BT_get hI.1 1 1 2 (0) (0) (900) (by decide) 1 (by decide) (by decide)
  rw [e16443] at b16444
  refine WP_iload_n dX7_faultAhead_0 rfl ?_
  refine WQ_iconst (1) (1) dX7_faultAhead_1 rfl rfl (fun v16445 hv16445 => ?_)
  refine WQ_icmp_ne 13 dX7_faultAhead_2 rfl (fun c16445 => ?_) (fun c16445 => False.elim (by omega))
  refine WP_iload_n dX7_faultAhead_13 rfl ?_
  refine WQ_iconst (2) (2) dX7_faultAhead_14 rfl rfl (fun v16447 hv16447 => ?_)
  refine WQ_icmp_ne 28 dX7_faultAhead_15 rfl (fun c16447 => ?_) (fun c16447 => False.elim (by omega))
  refine WP_iload_n dX7_faultAhead_28 rfl ?_
  refine WQ_bipush (8) (8) dX7_faultAhead_29 rfl rfl (fun v16449 hv16449 => ?_)
  have jn55_16453 : ∀ (v16453 : Int32), 0 ≤ v16453.toInt → v16453.toInt ≤ 0 → WP g mX7_faultAhead 55 [(0, .ref (ad g 6)), (1, .int cz)] [.int v16453] I J R (fun r I' J' R' => (I' = I ∧ J' = J ∧ R' = R) ∧ ∃ v : Int32, r = some (.int v) ∧ 0 ≤ v.toInt ∧ v.toInt ≤ 4) := by
    intro v16453 av16453 bv16453
    exact WP_iret dX7_faultAhead_55 rfl ⟨⟨rfl, rfl, rfl⟩, _, rfl, by omega, by omega⟩
  refine WQ_icmp_eq 40 dX7_faultAhead_31 rfl (fun c16454 => False.elim (by omega)) (fun c16454 => ?_)
  refine WP_iload_n dX7_faultAhead_34 rfl ?_
  refine WQ_bipush (9) (9) dX7_faultAhead_35 rfl rfl (fun v16456 hv16456 => ?_)
  refine WQ_icmp_ne 54 dX7_faultAhead_37 rfl (fun c16456 => ?_) (fun c16456 => False.elim (by omega))
  refine WQ_iconst (0) (0) dX7_faultAhead_54 rfl rfl (fun v16458 hv16458 => ?_)
  exact WP_sub (fc rfl (fc rfl fn)) (jn55_16453 v16458 (by omega) (by omega))
set_option maxHeartbeats 4000000 in
set_option maxRecDepth 100000 in
theorem sx_faultAhead_6_1 {g : GG} {n : Int} {L : Int32} (hy : LyX g)  {I : pI} {J : pJ} {R : pR} (hr : RfX g R) (hI : XI g n L I) (cz : Int32) (cz_lo : 1 ≤ cz.toInt) (cz_hi : cz.toInt ≤ 1) : SP g mX7_faultAhead [.ref (ad g 6), .int cz] I J R (fun r I' J' R' => (I' = I ∧ J' = J ∧ R' = R) ∧ ∃ v : Int32, r = some (.int v) ∧ 0 ≤ v.toInt ∧ v.toInt ≤ 4 ∧ (v.toInt = 0 → (I (ad g 6) 1).toInt ≤ 3)) := by
  refine SP_of ⟨by decide, rfl⟩ (Nat.le_of_ble_eq_true rfl) ?_
  have e16459 : I (ad g 1) 1 = L := hI.2
  have b16460 := BT_get hI.1 1 1 2 (0) (0) (900) (by decide) 1 (by decide) (by decide)
  rw [e16459] at b16460
  refine WP_iload_n dX7_faultAhead_0 rfl ?_
  refine WQ_iconst (1) (1) dX7_faultAhead_1 rfl rfl (fun v16461 hv16461 => ?_)
  refine WQ_icmp_ne 13 dX7_faultAhead_2 rfl (fun c16461 => False.elim (by omega)) (fun c16461 => ?_)
  refine WP_aload_n dX7_faultAhead_5 rfl ?_
  refine WQ_geti dX7_faultAhead_6 fX7_65 rfl (lyx_is hy 6 7 rfl) (BT_get hI.1 6 1 2 (0) (0) (4) (by decide) 1 (by decide) (by decide)) (fun v16463 ev16463 av16463 bv16463 => ?_)
  refine WQ_iconst (4) (4) dX7_faultAhead_9 rfl rfl (fun v16464 hv16464 => ?_)
  refine WQ_icmp_eq 26 dX7_faultAhead_10 rfl (fun c16464 => ?_) (fun c16464 => ?_)
  · refine WQ_iconst (4) (4) dX7_faultAhead_26 rfl rfl (fun v16466 hv16466 => ?_)
    exact WP_iret dX7_faultAhead_27 rfl ⟨⟨rfl, rfl, rfl⟩, _, rfl, by omega, by omega, by (try rw [ev16463]); omega⟩
  · refine WP_iload_n dX7_faultAhead_13 rfl ?_
    refine WQ_iconst (2) (2) dX7_faultAhead_14 rfl rfl (fun v16467 hv16467 => ?_)
    refine WQ_icmp_ne 28 dX7_faultAhead_15 rfl (fun c16467 => ?_) (fun c16467 => False.elim (by omega))
    refine WP_iload_n dX7_faultAhead_28 rfl ?_
    refine WQ_bipush (8) (8) dX7_faultAhead_29 rfl rfl (fun v16469 hv16469 => ?_)
    refine WQ_icmp_eq 40 dX7_faultAhead_31 rfl (fun c16469 => False.elim (by omega)) (fun c16469 => ?_)
    refine WP_iload_n dX7_faultAhead_34 rfl ?_
    refine WQ_bipush (9) (9) dX7_faultAhead_35 rfl rfl (fun v16471 hv16471 => ?_)
    refine WQ_icmp_ne 54 dX7_faultAhead_37 rfl (fun c16471 => ?_) (fun c16471 => False.elim (by omega))
    refine WQ_iconst (0) (0) dX7_faultAhead_54 rfl rfl (fun v16473 hv16473 => ?_)
    exact WP_iret dX7_faultAhead_55 rfl ⟨⟨rfl, rfl, rfl⟩, _, rfl, by omega, by omega, by (try rw [ev16463]); omega⟩
set_option maxHeartbeats 4000000 in
set_option maxRecDepth 100000 in
theorem sx_faultAhead_6_2 {g : GG} {n : Int} {L : Int32} (hy : LyX g)  {I : pI} {J : pJ} {R : pR} (hr : RfX g R) (hI : XI g n L I) (cz : Int32) (cz_lo : 2 ≤ cz.toInt) (cz_hi : cz.toInt ≤ 2) : SP g mX7_faultAhead [.ref (ad g 6), .int cz] I J R (fun r I' J' R' => (I' = I ∧ J' = J ∧ R' = R) ∧ ∃ v : Int32, r = some (.int v) ∧ 0 ≤ v.toInt ∧ v.toInt ≤ 4 ∧ (v.toInt = 0 → (I (ad g 6) 2).toInt ≤ 2)) := by
  refine SP_of ⟨by decide, rfl⟩ (Nat.le_of_ble_eq_true rfl) ?_
  have e16474 : I (ad g 1) 1 = L := hI.2
  have b16475 := BT_get hI.1 1 1 2 (0) (0) (900) (by decide) 1 (by decide) (by decide)
  rw [e16474] at b16475
  refine WP_iload_n dX7_faultAhead_0 rfl ?_
  refine WQ_iconst (1) (1) dX7_faultAhead_1 rfl rfl (fun v16476 hv16476 => ?_)
  refine WQ_icmp_ne 13 dX7_faultAhead_2 rfl (fun c16476 => ?_) (fun c16476 => False.elim (by omega))
  refine WP_iload_n dX7_faultAhead_13 rfl ?_
  refine WQ_iconst (2) (2) dX7_faultAhead_14 rfl rfl (fun v16478 hv16478 => ?_)
  refine WQ_icmp_ne 28 dX7_faultAhead_15 rfl (fun c16478 => False.elim (by omega)) (fun c16478 => ?_)
  refine WP_aload_n dX7_faultAhead_18 rfl ?_
  refine WQ_geti dX7_faultAhead_19 fX7_68 rfl (lyx_is hy 6 7 rfl) (BT_get hI.1 6 2 3 (0) (0) (3) (by decide) 2 (by decide) (by decide)) (fun v16480 ev16480 av16480 bv16480 => ?_)
  refine WQ_iconst (3) (3) dX7_faultAhead_22 rfl rfl (fun v16481 hv16481 => ?_)
  refine WQ_icmp_ne 28 dX7_faultAhead_23 rfl (fun c16481 => ?_) (fun c16481 => ?_)
  · refine WP_iload_n dX7_faultAhead_28 rfl ?_
    refine WQ_bipush (8) (8) dX7_faultAhead_29 rfl rfl (fun v16483 hv16483 => ?_)
    refine WQ_icmp_eq 40 dX7_faultAhead_31 rfl (fun c16483 => False.elim (by omega)) (fun c16483 => ?_)
    refine WP_iload_n dX7_faultAhead_34 rfl ?_
    refine WQ_bipush (9) (9) dX7_faultAhead_35 rfl rfl (fun v16485 hv16485 => ?_)
    refine WQ_icmp_ne 54 dX7_faultAhead_37 rfl (fun c16485 => ?_) (fun c16485 => False.elim (by omega))
    refine WQ_iconst (0) (0) dX7_faultAhead_54 rfl rfl (fun v16487 hv16487 => ?_)
    exact WP_iret dX7_faultAhead_55 rfl ⟨⟨rfl, rfl, rfl⟩, _, rfl, by omega, by omega, by (try rw [ev16480]); omega⟩
  · refine WQ_iconst (4) (4) dX7_faultAhead_26 rfl rfl (fun v16488 hv16488 => ?_)
    exact WP_iret dX7_faultAhead_27 rfl ⟨⟨rfl, rfl, rfl⟩, _, rfl, by omega, by omega, by (try rw [ev16480]); omega⟩
set_option maxHeartbeats 4000000 in
set_option maxRecDepth 100000 in
theorem sx_faultAhead_6_3 {g : GG} {n : Int} {L : Int32} (hy : LyX g)  {I : pI} {J : pJ} {R : pR} (hr : RfX g R) (hI : XI g n L I) (cz : Int32) (cz_lo : 3 ≤ cz.toInt) (cz_hi : cz.toInt ≤ 3) : SP g mX7_faultAhead [.ref (ad g 6), .int cz] I J R (fun r I' J' R' => (I' = I ∧ J' = J ∧ R' = R) ∧ ∃ v : Int32, r = some (.int v) ∧ 0 ≤ v.toInt ∧ v.toInt ≤ 4) := by
  refine SP_of ⟨by decide, rfl⟩ (Nat.le_of_ble_eq_true rfl) ?_
  have e16489 : I (ad g 1) 1 = L := hI.2
  have b16490 := BT_get hI.1 1 1 2 (0) (0) (900) (by decide) 1 (by decide) (by decide)
  rw [e16489] at b16490
  refine WP_iload_n dX7_faultAhead_0 rfl ?_
  refine WQ_iconst (1) (1) dX7_faultAhead_1 rfl rfl (fun v16491 hv16491 => ?_)
  refine WQ_icmp_ne 13 dX7_faultAhead_2 rfl (fun c16491 => ?_) (fun c16491 => False.elim (by omega))
  refine WP_iload_n dX7_faultAhead_13 rfl ?_
  refine WQ_iconst (2) (2) dX7_faultAhead_14 rfl rfl (fun v16493 hv16493 => ?_)
  refine WQ_icmp_ne 28 dX7_faultAhead_15 rfl (fun c16493 => ?_) (fun c16493 => False.elim (by omega))
  refine WP_iload_n dX7_faultAhead_28 rfl ?_
  refine WQ_bipush (8) (8) dX7_faultAhead_29 rfl rfl (fun v16495 hv16495 => ?_)
  have jn55_16499 : ∀ (v16499 : Int32), 0 ≤ v16499.toInt → v16499.toInt ≤ 0 → WP g mX7_faultAhead 55 [(0, .ref (ad g 6)), (1, .int cz)] [.int v16499] I J R (fun r I' J' R' => (I' = I ∧ J' = J ∧ R' = R) ∧ ∃ v : Int32, r = some (.int v) ∧ 0 ≤ v.toInt ∧ v.toInt ≤ 4) := by
    intro v16499 av16499 bv16499
    exact WP_iret dX7_faultAhead_55 rfl ⟨⟨rfl, rfl, rfl⟩, _, rfl, by omega, by omega⟩
  refine WQ_icmp_eq 40 dX7_faultAhead_31 rfl (fun c16500 => False.elim (by omega)) (fun c16500 => ?_)
  refine WP_iload_n dX7_faultAhead_34 rfl ?_
  refine WQ_bipush (9) (9) dX7_faultAhead_35 rfl rfl (fun v16502 hv16502 => ?_)
  refine WQ_icmp_ne 54 dX7_faultAhead_37 rfl (fun c16502 => ?_) (fun c16502 => False.elim (by omega))
  refine WQ_iconst (0) (0) dX7_faultAhead_54 rfl rfl (fun v16504 hv16504 => ?_)
  exact WP_sub (fc rfl (fc rfl fn)) (jn55_16499 v16504 (by omega) (by omega))
set_option maxHeartbeats 4000000 in
set_option maxRecDepth 100000 in
theorem sx_faultAhead_6_4 {g : GG} {n : Int} {L : Int32} (hy : LyX g)  {I : pI} {J : pJ} {R : pR} (hr : RfX g R) (hI : XI g n L I) (cz : Int32) (cz_lo : 4 ≤ cz.toInt) (cz_hi : cz.toInt ≤ 4) : SP g mX7_faultAhead [.ref (ad g 6), .int cz] I J R (fun r I' J' R' => (I' = I ∧ J' = J ∧ R' = R) ∧ ∃ v : Int32, r = some (.int v) ∧ 0 ≤ v.toInt ∧ v.toInt ≤ 4) := by
  refine SP_of ⟨by decide, rfl⟩ (Nat.le_of_ble_eq_true rfl) ?_
  have e16505 : I (ad g 1) 1 = L := hI.2
  have b16506 := BT_get hI.1 1 1 2 (0) (0) (900) (by decide) 1 (by decide) (by decide)
  rw [e16505] at b16506
  refine WP_iload_n dX7_faultAhead_0 rfl ?_
  refine WQ_iconst (1) (1) dX7_faultAhead_1 rfl rfl (fun v16507 hv16507 => ?_)
  refine WQ_icmp_ne 13 dX7_faultAhead_2 rfl (fun c16507 => ?_) (fun c16507 => False.elim (by omega))
  refine WP_iload_n dX7_faultAhead_13 rfl ?_
  refine WQ_iconst (2) (2) dX7_faultAhead_14 rfl rfl (fun v16509 hv16509 => ?_)
  refine WQ_icmp_ne 28 dX7_faultAhead_15 rfl (fun c16509 => ?_) (fun c16509 => False.elim (by omega))
  refine WP_iload_n dX7_faultAhead_28 rfl ?_
  refine WQ_bipush (8) (8) dX7_faultAhead_29 rfl rfl (fun v16511 hv16511 => ?_)
  have jn55_16515 : ∀ (v16515 : Int32), 0 ≤ v16515.toInt → v16515.toInt ≤ 0 → WP g mX7_faultAhead 55 [(0, .ref (ad g 6)), (1, .int cz)] [.int v16515] I J R (fun r I' J' R' => (I' = I ∧ J' = J ∧ R' = R) ∧ ∃ v : Int32, r = some (.int v) ∧ 0 ≤ v.toInt ∧ v.toInt ≤ 4) := by
    intro v16515 av16515 bv16515
    exact WP_iret dX7_faultAhead_55 rfl ⟨⟨rfl, rfl, rfl⟩, _, rfl, by omega, by omega⟩
  refine WQ_icmp_eq 40 dX7_faultAhead_31 rfl (fun c16516 => False.elim (by omega)) (fun c16516 => ?_)
  refine WP_iload_n dX7_faultAhead_34 rfl ?_
  refine WQ_bipush (9) (9) dX7_faultAhead_35 rfl rfl (fun v16518 hv16518 => ?_)
  refine WQ_icmp_ne 54 dX7_faultAhead_37 rfl (fun c16518 => ?_) (fun c16518 => False.elim (by omega))
  refine WQ_iconst (0) (0) dX7_faultAhead_54 rfl rfl (fun v16520 hv16520 => ?_)
  exact WP_sub (fc rfl (fc rfl fn)) (jn55_16515 v16520 (by omega) (by omega))
set_option maxHeartbeats 4000000 in
set_option maxRecDepth 100000 in
theorem sx_faultAhead_6_5 {g : GG} {n : Int} {L : Int32} (hy : LyX g)  {I : pI} {J : pJ} {R : pR} (hr : RfX g R) (hI : XI g n L I) (cz : Int32) (cz_lo : 5 ≤ cz.toInt) (cz_hi : cz.toInt ≤ 5) : SP g mX7_faultAhead [.ref (ad g 6), .int cz] I J R (fun r I' J' R' => (I' = I ∧ J' = J ∧ R' = R) ∧ ∃ v : Int32, r = some (.int v) ∧ 0 ≤ v.toInt ∧ v.toInt ≤ 4) := by
  refine SP_of ⟨by decide, rfl⟩ (Nat.le_of_ble_eq_true rfl) ?_
  have e16521 : I (ad g 1) 1 = L := hI.2
  have b16522 := BT_get hI.1 1 1 2 (0) (0) (900) (by decide) 1 (by decide) (by decide)
  rw [e16521] at b16522
  refine WP_iload_n dX7_faultAhead_0 rfl ?_
  refine WQ_iconst (1) (1) dX7_faultAhead_1 rfl rfl (fun v16523 hv16523 => ?_)
  refine WQ_icmp_ne 13 dX7_faultAhead_2 rfl (fun c16523 => ?_) (fun c16523 => False.elim (by omega))
  refine WP_iload_n dX7_faultAhead_13 rfl ?_
  refine WQ_iconst (2) (2) dX7_faultAhead_14 rfl rfl (fun v16525 hv16525 => ?_)
  refine WQ_icmp_ne 28 dX7_faultAhead_15 rfl (fun c16525 => ?_) (fun c16525 => False.elim (by omega))
  refine WP_iload_n dX7_faultAhead_28 rfl ?_
  refine WQ_bipush (8) (8) dX7_faultAhead_29 rfl rfl (fun v16527 hv16527 => ?_)
  have jn55_16531 : ∀ (v16531 : Int32), 0 ≤ v16531.toInt → v16531.toInt ≤ 0 → WP g mX7_faultAhead 55 [(0, .ref (ad g 6)), (1, .int cz)] [.int v16531] I J R (fun r I' J' R' => (I' = I ∧ J' = J ∧ R' = R) ∧ ∃ v : Int32, r = some (.int v) ∧ 0 ≤ v.toInt ∧ v.toInt ≤ 4) := by
    intro v16531 av16531 bv16531
    exact WP_iret dX7_faultAhead_55 rfl ⟨⟨rfl, rfl, rfl⟩, _, rfl, by omega, by omega⟩
  refine WQ_icmp_eq 40 dX7_faultAhead_31 rfl (fun c16532 => False.elim (by omega)) (fun c16532 => ?_)
  refine WP_iload_n dX7_faultAhead_34 rfl ?_
  refine WQ_bipush (9) (9) dX7_faultAhead_35 rfl rfl (fun v16534 hv16534 => ?_)
  refine WQ_icmp_ne 54 dX7_faultAhead_37 rfl (fun c16534 => ?_) (fun c16534 => False.elim (by omega))
  refine WQ_iconst (0) (0) dX7_faultAhead_54 rfl rfl (fun v16536 hv16536 => ?_)
  exact WP_sub (fc rfl (fc rfl fn)) (jn55_16531 v16536 (by omega) (by omega))
set_option maxHeartbeats 4000000 in
set_option maxRecDepth 100000 in
theorem sx_faultAhead_6_6 {g : GG} {n : Int} {L : Int32} (hy : LyX g)  {I : pI} {J : pJ} {R : pR} (hr : RfX g R) (hI : XI g n L I) (cz : Int32) (cz_lo : 6 ≤ cz.toInt) (cz_hi : cz.toInt ≤ 6) : SP g mX7_faultAhead [.ref (ad g 6), .int cz] I J R (fun r I' J' R' => (I' = I ∧ J' = J ∧ R' = R) ∧ ∃ v : Int32, r = some (.int v) ∧ 0 ≤ v.toInt ∧ v.toInt ≤ 4) := by
  refine SP_of ⟨by decide, rfl⟩ (Nat.le_of_ble_eq_true rfl) ?_
  have e16537 : I (ad g 1) 1 = L := hI.2
  have b16538 := BT_get hI.1 1 1 2 (0) (0) (900) (by decide) 1 (by decide) (by decide)
  rw [e16537] at b16538
  refine WP_iload_n dX7_faultAhead_0 rfl ?_
  refine WQ_iconst (1) (1) dX7_faultAhead_1 rfl rfl (fun v16539 hv16539 => ?_)
  refine WQ_icmp_ne 13 dX7_faultAhead_2 rfl (fun c16539 => ?_) (fun c16539 => False.elim (by omega))
  refine WP_iload_n dX7_faultAhead_13 rfl ?_
  refine WQ_iconst (2) (2) dX7_faultAhead_14 rfl rfl (fun v16541 hv16541 => ?_)
  refine WQ_icmp_ne 28 dX7_faultAhead_15 rfl (fun c16541 => ?_) (fun c16541 => False.elim (by omega))
  refine WP_iload_n dX7_faultAhead_28 rfl ?_
  refine WQ_bipush (8) (8) dX7_faultAhead_29 rfl rfl (fun v16543 hv16543 => ?_)
  have jn55_16547 : ∀ (v16547 : Int32), 0 ≤ v16547.toInt → v16547.toInt ≤ 0 → WP g mX7_faultAhead 55 [(0, .ref (ad g 6)), (1, .int cz)] [.int v16547] I J R (fun r I' J' R' => (I' = I ∧ J' = J ∧ R' = R) ∧ ∃ v : Int32, r = some (.int v) ∧ 0 ≤ v.toInt ∧ v.toInt ≤ 4) := by
    intro v16547 av16547 bv16547
    exact WP_iret dX7_faultAhead_55 rfl ⟨⟨rfl, rfl, rfl⟩, _, rfl, by omega, by omega⟩
  refine WQ_icmp_eq 40 dX7_faultAhead_31 rfl (fun c16548 => False.elim (by omega)) (fun c16548 => ?_)
  refine WP_iload_n dX7_faultAhead_34 rfl ?_
  refine WQ_bipush (9) (9) dX7_faultAhead_35 rfl rfl (fun v16550 hv16550 => ?_)
  refine WQ_icmp_ne 54 dX7_faultAhead_37 rfl (fun c16550 => ?_) (fun c16550 => False.elim (by omega))
  refine WQ_iconst (0) (0) dX7_faultAhead_54 rfl rfl (fun v16552 hv16552 => ?_)
  exact WP_sub (fc rfl (fc rfl fn)) (jn55_16547 v16552 (by omega) (by omega))
set_option maxHeartbeats 4000000 in
set_option maxRecDepth 100000 in
theorem sx_faultAhead_6_7 {g : GG} {n : Int} {L : Int32} (hy : LyX g)  {I : pI} {J : pJ} {R : pR} (hr : RfX g R) (hI : XI g n L I) (cz : Int32) (cz_lo : 7 ≤ cz.toInt) (cz_hi : cz.toInt ≤ 7) : SP g mX7_faultAhead [.ref (ad g 6), .int cz] I J R (fun r I' J' R' => (I' = I ∧ J' = J ∧ R' = R) ∧ ∃ v : Int32, r = some (.int v) ∧ 0 ≤ v.toInt ∧ v.toInt ≤ 4) := by
  refine SP_of ⟨by decide, rfl⟩ (Nat.le_of_ble_eq_true rfl) ?_
  have e16553 : I (ad g 1) 1 = L := hI.2
  have b16554 := BT_get hI.1 1 1 2 (0) (0) (900) (by decide) 1 (by decide) (by decide)
  rw [e16553] at b16554
  refine WP_iload_n dX7_faultAhead_0 rfl ?_
  refine WQ_iconst (1) (1) dX7_faultAhead_1 rfl rfl (fun v16555 hv16555 => ?_)
  refine WQ_icmp_ne 13 dX7_faultAhead_2 rfl (fun c16555 => ?_) (fun c16555 => False.elim (by omega))
  refine WP_iload_n dX7_faultAhead_13 rfl ?_
  refine WQ_iconst (2) (2) dX7_faultAhead_14 rfl rfl (fun v16557 hv16557 => ?_)
  refine WQ_icmp_ne 28 dX7_faultAhead_15 rfl (fun c16557 => ?_) (fun c16557 => False.elim (by omega))
  refine WP_iload_n dX7_faultAhead_28 rfl ?_
  refine WQ_bipush (8) (8) dX7_faultAhead_29 rfl rfl (fun v16559 hv16559 => ?_)
  have jn55_16563 : ∀ (v16563 : Int32), 0 ≤ v16563.toInt → v16563.toInt ≤ 0 → WP g mX7_faultAhead 55 [(0, .ref (ad g 6)), (1, .int cz)] [.int v16563] I J R (fun r I' J' R' => (I' = I ∧ J' = J ∧ R' = R) ∧ ∃ v : Int32, r = some (.int v) ∧ 0 ≤ v.toInt ∧ v.toInt ≤ 4) := by
    intro v16563 av16563 bv16563
    exact WP_iret dX7_faultAhead_55 rfl ⟨⟨rfl, rfl, rfl⟩, _, rfl, by omega, by omega⟩
  refine WQ_icmp_eq 40 dX7_faultAhead_31 rfl (fun c16564 => False.elim (by omega)) (fun c16564 => ?_)
  refine WP_iload_n dX7_faultAhead_34 rfl ?_
  refine WQ_bipush (9) (9) dX7_faultAhead_35 rfl rfl (fun v16566 hv16566 => ?_)
  refine WQ_icmp_ne 54 dX7_faultAhead_37 rfl (fun c16566 => ?_) (fun c16566 => False.elim (by omega))
  refine WQ_iconst (0) (0) dX7_faultAhead_54 rfl rfl (fun v16568 hv16568 => ?_)
  exact WP_sub (fc rfl (fc rfl fn)) (jn55_16563 v16568 (by omega) (by omega))
set_option maxHeartbeats 4000000 in
set_option maxRecDepth 100000 in
theorem sx_faultAhead_6_8 {g : GG} {n : Int} {L : Int32} (hy : LyX g)  {I : pI} {J : pJ} {R : pR} (hr : RfX g R) (hI : XI g n L I) (cz : Int32) (cz_lo : 8 ≤ cz.toInt) (cz_hi : cz.toInt ≤ 8) : SP g mX7_faultAhead [.ref (ad g 6), .int cz] I J R (fun r I' J' R' => (I' = I ∧ J' = J ∧ R' = R) ∧ ∃ v : Int32, r = some (.int v) ∧ 0 ≤ v.toInt ∧ v.toInt ≤ 4) := by
  refine SP_of ⟨by decide, rfl⟩ (Nat.le_of_ble_eq_true rfl) ?_
  have e16569 : I (ad g 1) 1 = L := hI.2
  have b16570 := BT_get hI.1 1 1 2 (0) (0) (900) (by decide) 1 (by decide) (by decide)
  rw [e16569] at b16570
  refine WP_iload_n dX7_faultAhead_0 rfl ?_
  refine WQ_iconst (1) (1) dX7_faultAhead_1 rfl rfl (fun v16571 hv16571 => ?_)
  refine WQ_icmp_ne 13 dX7_faultAhead_2 rfl (fun c16571 => ?_) (fun c16571 => False.elim (by omega))
  refine WP_iload_n dX7_faultAhead_13 rfl ?_
  refine WQ_iconst (2) (2) dX7_faultAhead_14 rfl rfl (fun v16573 hv16573 => ?_)
  refine WQ_icmp_ne 28 dX7_faultAhead_15 rfl (fun c16573 => ?_) (fun c16573 => False.elim (by omega))
  refine WP_iload_n dX7_faultAhead_28 rfl ?_
  refine WQ_bipush (8) (8) dX7_faultAhead_29 rfl rfl (fun v16575 hv16575 => ?_)
  have jn55_16582 : ∀ (v16582 : Int32), 0 ≤ v16582.toInt → v16582.toInt ≤ 3 → WP g mX7_faultAhead 55 [(0, .ref (ad g 6)), (1, .int cz)] [.int v16582] I J R (fun r I' J' R' => (I' = I ∧ J' = J ∧ R' = R) ∧ ∃ v : Int32, r = some (.int v) ∧ 0 ≤ v.toInt ∧ v.toInt ≤ 4) := by
    intro v16582 av16582 bv16582
    exact WP_iret dX7_faultAhead_55 rfl ⟨⟨rfl, rfl, rfl⟩, _, rfl, by omega, by omega⟩
  refine WQ_icmp_eq 40 dX7_faultAhead_31 rfl (fun c16583 => ?_) (fun c16583 => False.elim (by omega))
  refine WP_aload_n dX7_faultAhead_40 rfl ?_
  refine WP_iload_n dX7_faultAhead_41 rfl ?_
  refine WQ_iconst (0) (0) dX7_faultAhead_42 rfl rfl (fun v16585 hv16585 => ?_)
  refine WQ_iconst (0) (0) dX7_faultAhead_43 rfl rfl (fun v16586 hv16586 => ?_)
  refine WP_callV3 (k := 7) dX7_faultAhead_44 ⟨⟨⟨by decide, by decide⟩, zX7_isTold⟩, lX7_87, by decide, rfl, vX7_isTold.1, vX7_isTold.2⟩ (lyx_is hy 6 7 rfl) (sx_isTold_6 hy hr hI cz v16585 v16586 (by omega) (by omega) (by omega) (by omega) ) (Nat.le_of_ble_eq_true rfl) ?_
  intro r Ia Ja Ra hq
  obtain ⟨⟨ea, eb, ec⟩, v16587, rfl, av16587, bv16587⟩ := hq
  show WP _ _ _ _ (.int _ :: _) _ _ _ _
  rw [ea, eb, ec]
  clear ea eb ec Ia Ja Ra
  refine WQ_if_eq 54 dX7_faultAhead_47 rfl (fun c16587 => ?_) (fun c16587 => ?_)
  · refine WQ_iconst (0) (0) dX7_faultAhead_54 rfl rfl (fun v16589 hv16589 => ?_)
    exact WP_sub (fc rfl (fc rfl fn)) (jn55_16582 v16589 (by omega) (by omega))
  · refine WQ_iconst (3) (3) dX7_faultAhead_50 rfl rfl (fun v16590 hv16590 => ?_)
    refine WP_goto 55 dX7_faultAhead_51 rfl ?_
    exact WP_sub (fc rfl (fc rfl fn)) (jn55_16582 v16590 (by omega) (by omega))
set_option maxHeartbeats 4000000 in
set_option maxRecDepth 100000 in
theorem sx_faultAhead_6_9 {g : GG} {n : Int} {L : Int32} (hy : LyX g)  {I : pI} {J : pJ} {R : pR} (hr : RfX g R) (hI : XI g n L I) (cz : Int32) (cz_lo : 9 ≤ cz.toInt) (cz_hi : cz.toInt ≤ 9) : SP g mX7_faultAhead [.ref (ad g 6), .int cz] I J R (fun r I' J' R' => (I' = I ∧ J' = J ∧ R' = R) ∧ ∃ v : Int32, r = some (.int v) ∧ 0 ≤ v.toInt ∧ v.toInt ≤ 4) := by
  refine SP_of ⟨by decide, rfl⟩ (Nat.le_of_ble_eq_true rfl) ?_
  have e16591 : I (ad g 1) 1 = L := hI.2
  have b16592 := BT_get hI.1 1 1 2 (0) (0) (900) (by decide) 1 (by decide) (by decide)
  rw [e16591] at b16592
  refine WP_iload_n dX7_faultAhead_0 rfl ?_
  refine WQ_iconst (1) (1) dX7_faultAhead_1 rfl rfl (fun v16593 hv16593 => ?_)
  refine WQ_icmp_ne 13 dX7_faultAhead_2 rfl (fun c16593 => ?_) (fun c16593 => False.elim (by omega))
  refine WP_iload_n dX7_faultAhead_13 rfl ?_
  refine WQ_iconst (2) (2) dX7_faultAhead_14 rfl rfl (fun v16595 hv16595 => ?_)
  refine WQ_icmp_ne 28 dX7_faultAhead_15 rfl (fun c16595 => ?_) (fun c16595 => False.elim (by omega))
  refine WP_iload_n dX7_faultAhead_28 rfl ?_
  refine WQ_bipush (8) (8) dX7_faultAhead_29 rfl rfl (fun v16597 hv16597 => ?_)
  have jn55_16606 : ∀ (v16606 : Int32), 0 ≤ v16606.toInt → v16606.toInt ≤ 3 → WP g mX7_faultAhead 55 [(0, .ref (ad g 6)), (1, .int cz)] [.int v16606] I J R (fun r I' J' R' => (I' = I ∧ J' = J ∧ R' = R) ∧ ∃ v : Int32, r = some (.int v) ∧ 0 ≤ v.toInt ∧ v.toInt ≤ 4) := by
    intro v16606 av16606 bv16606
    exact WP_iret dX7_faultAhead_55 rfl ⟨⟨rfl, rfl, rfl⟩, _, rfl, by omega, by omega⟩
  refine WQ_icmp_eq 40 dX7_faultAhead_31 rfl (fun c16607 => False.elim (by omega)) (fun c16607 => ?_)
  refine WP_iload_n dX7_faultAhead_34 rfl ?_
  refine WQ_bipush (9) (9) dX7_faultAhead_35 rfl rfl (fun v16609 hv16609 => ?_)
  refine WQ_icmp_ne 54 dX7_faultAhead_37 rfl (fun c16609 => False.elim (by omega)) (fun c16609 => ?_)
  refine WP_aload_n dX7_faultAhead_40 rfl ?_
  refine WP_iload_n dX7_faultAhead_41 rfl ?_
  refine WQ_iconst (0) (0) dX7_faultAhead_42 rfl rfl (fun v16611 hv16611 => ?_)
  refine WQ_iconst (0) (0) dX7_faultAhead_43 rfl rfl (fun v16612 hv16612 => ?_)
  refine WP_callV3 (k := 7) dX7_faultAhead_44 ⟨⟨⟨by decide, by decide⟩, zX7_isTold⟩, lX7_87, by decide, rfl, vX7_isTold.1, vX7_isTold.2⟩ (lyx_is hy 6 7 rfl) (sx_isTold_6 hy hr hI cz v16611 v16612 (by omega) (by omega) (by omega) (by omega) ) (Nat.le_of_ble_eq_true rfl) ?_
  intro r Ia Ja Ra hq
  obtain ⟨⟨ea, eb, ec⟩, v16613, rfl, av16613, bv16613⟩ := hq
  show WP _ _ _ _ (.int _ :: _) _ _ _ _
  rw [ea, eb, ec]
  clear ea eb ec Ia Ja Ra
  refine WQ_if_eq 54 dX7_faultAhead_47 rfl (fun c16613 => ?_) (fun c16613 => ?_)
  · refine WQ_iconst (0) (0) dX7_faultAhead_54 rfl rfl (fun v16615 hv16615 => ?_)
    exact WP_sub (fc rfl (fc rfl fn)) (jn55_16606 v16615 (by omega) (by omega))
  · refine WQ_iconst (3) (3) dX7_faultAhead_50 rfl rfl (fun v16616 hv16616 => ?_)
    refine WP_goto 55 dX7_faultAhead_51 rfl ?_
    exact WP_sub (fc rfl (fc rfl fn)) (jn55_16606 v16616 (by omega) (by omega))
set_option maxHeartbeats 4000000 in
set_option maxRecDepth 100000 in
theorem sx_parts_6_0 {g : GG} {n : Int} {L : Int32} (hy : LyX g) {aK aV : Nat → Nat} {fo : Option Nat} (hz : HZ g aK aV fo)  {I : pI} {J : pJ} {R : pR} (hr : RfX g R) (hI : XI g n L I) (cz : Int32) (cz_lo : 0 ≤ cz.toInt) (cz_hi : cz.toInt ≤ 0) : SP g mX3_faultInParts [.ref (ad g 3), .int cz, .ref (ad g 6)] I J R (fun r I' J' R' => (XI g n L I' ∧ R' = R ∧ fz 74 g [1, 4] I I' ∧ fz 74 g [1] J J' ∧ True ∧ I' (ad g 6) 1 = I (ad g 6) 1 ∧ I' (ad g 6) 2 = I (ad g 6) 2) ∧ ∃ v : Int32, r = some (.int v) ∧ 0 ≤ v.toInt ∧ v.toInt ≤ 5 ∧ (v.toInt = 0 → (I' (ad g 4) 0).toInt ≤ 6 ∧ (I' (ad g 4) 1).toInt ≤ 900)) := by
  refine SP_of ⟨by decide, rfl⟩ (Nat.le_of_ble_eq_true rfl) ?_
  have e16617 : I (ad g 1) 1 = L := hI.2
  have b16618 := BT_get hI.1 1 1 2 (0) (0) (900) (by decide) 1 (by decide) (by decide)
  rw [e16617] at b16618
  have fr0 : fz 74 g [1, 4] I I := fz_rf
  have frj0 : fz 74 g [1] J J := fz_rf
  obtain ⟨w16619, ew16619⟩ : ∃ w : Int32, I (ad g 6) 1 = w := ⟨_, rfl⟩
  have bw16619 := BT_get hI.1 6 1 2 (0) (0) (4) (by decide) 1 (by decide) (by decide)
  rw [ew16619] at bw16619
  obtain ⟨w16620, ew16620⟩ : ∃ w : Int32, I (ad g 6) 2 = w := ⟨_, rfl⟩
  have bw16620 := BT_get hI.1 6 2 3 (0) (0) (3) (by decide) 2 (by decide) (by decide)
  rw [ew16620] at bw16620
  refine WP_iload_n dX3_faultInParts_0 rfl ?_
  refine WP_callS1 dX3_faultInParts_1 ⟨⟨⟨by decide, by decide⟩, zX3_shapeOf⟩, lX3_84, tX3_shapeOf⟩ (sx_shapeOf hy hz hr hI cz (by omega) (by omega)) (Nat.le_of_ble_eq_true rfl) ?_
  intro r Ia Ja Ra hq
  obtain ⟨⟨ea, eb, ec⟩, rfl⟩ := hq
  show WP _ _ _ _ (.ref _ :: _) _ _ _ _
  rw [show 10 + cz.toInt.toNat = 10 by omega]
  rw [ea, eb, ec]
  clear ea eb ec Ia Ja Ra
  refine WP_astore_n (ls' := [(0, _), (1, _), (2, _), (3, _)]) dX3_faultInParts_4 (by decide) rfl ?_
  refine WQ_iconst (0) (0) dX3_faultInParts_5 rfl rfl (fun v16621 hv16621 => ?_)
  refine WP_istore (ls' := [(0, _), (1, _), (2, _), (3, _), (4, _)]) dX3_faultInParts_6 (by decide) rfl ?_
  refine WP_iload dX3_faultInParts_8 rfl ?_
  refine WP_aload_n dX3_faultInParts_10 rfl ?_
  refine WS_call hz (i := 10) (by omega) dX3_faultInParts_11 ⟨⟨by decide, by decide⟩, zJ0_length_8abf5⟩ lX3_87 vJ0_length_8abf5 (As := []) (rest := [.int v16621]) (j_length hz (i := 10) (by omega)) rfl rfl (Nat.le_of_ble_eq_true rfl) ?_
  intro r Ia Ja Ra hq
  obtain ⟨⟨ea, eb, ec⟩, v16622, rfl, cv16622⟩ := hq
  show WP _ _ _ _ (.int _ :: _) _ _ _ _
  rw [ea, eb, ec]
  clear ea eb ec Ia Ja Ra
  have hv16622 : v16622.toInt = 2 := cv16622.trans rfl
  refine WQ_icmp_ge 125 dX3_faultInParts_14 rfl (fun c16622 => False.elim (by omega)) (fun c16622 => ?_)
  refine WP_iload dX3_faultInParts_17 rfl ?_
  refine WQ_iconst (5) (5) dX3_faultInParts_19 rfl rfl (fun v16624 hv16624 => ?_)
  refine WQ_icmp_ge 125 dX3_faultInParts_20 rfl (fun c16624 => False.elim (by omega)) (fun c16624 => ?_)
  refine WP_aload_n dX3_faultInParts_23 rfl ?_
  refine WP_iload dX3_faultInParts_24 rfl ?_
  refine WS_call hz (i := 10) (by omega) dX3_faultInParts_26 ⟨⟨by decide, by decide⟩, zJ0_charAt_5068e⟩ lX3_92 vJ0_charAt_5068e (As := [.int v16621]) (rest := []) (j_charAt hz (i := 10) (k := v16621) (by omega) (by omega) (by have z9 : ((liN.getD 10 0 : Nat) : Int) = 2 := rfl; omega)) rfl rfl (Nat.le_of_ble_eq_true rfl) ?_
  intro r Ia Ja Ra hq
  obtain ⟨⟨ea, eb, ec⟩, v16626, rfl, cv16626⟩ := hq
  show WP _ _ _ _ (.int _ :: _) _ _ _ _
  rw [ea, eb, ec]
  clear ea eb ec Ia Ja Ra
  have hv16626 : v16626.toInt = 68 := cv16626.trans (by rw [show v16621.toInt.toNat = 0 by omega]; rfl)
  refine WP_istore (ls' := [(0, _), (1, _), (2, _), (3, _), (4, _), (5, _)]) dX3_faultInParts_29 (by decide) rfl ?_
  refine WP_iload dX3_faultInParts_31 rfl ?_
  refine WQ_bipush (97) (97) dX3_faultInParts_33 rfl rfl (fun v16627 hv16627 => ?_)
  refine WQ_icmp_lt 49 dX3_faultInParts_35 rfl (fun c16627 => ?_) (fun c16627 => False.elim (by omega))
  refine WQ_iconst (0) (0) dX3_faultInParts_49 rfl rfl (fun v16629 hv16629 => ?_)
  refine WP_istore (ls' := [(0, _), (1, _), (2, _), (3, _), (4, _), (5, _), (6, _)]) dX3_faultInParts_50 (by decide) rfl ?_
  refine WP_aload_n dX3_faultInParts_52 rfl ?_
  refine WP_getr dX3_faultInParts_53 fX3_15 rfl (lyx_is hy 3 3 rfl) (rfx hr 3 2 1 (by decide)) ?_
  refine WQ_geti dX3_faultInParts_56 fX3_43 rfl (lyx_is hy 1 5 rfl) (BT_get hI.1 1 2 3 (0) (0) (4) (by decide) 2 (by decide) (by decide)) (fun v16630 ev16630 av16630 bv16630 => ?_)
  refine WP_iload dX3_faultInParts_59 rfl ?_
  refine WQ_if_eq 68 dX3_faultInParts_61 rfl (fun c16630 => ?_) (fun c16630 => False.elim (by omega))
  refine WQ_iconst (2) (2) dX3_faultInParts_68 rfl rfl (fun v16632 hv16632 => ?_)
  refine WQ_icmp_eq 74 dX3_faultInParts_69 rfl (fun c16632 => ?_) (fun c16632 => ?_)
  · refine WP_iload dX3_faultInParts_74 rfl ?_
    refine WQ_if_eq 92 dX3_faultInParts_76 rfl (fun c16633 => ?_) (fun c16633 => False.elim (by omega))
    refine WP_aload_n dX3_faultInParts_92 rfl ?_
    refine WP_iload dX3_faultInParts_93 rfl ?_
    refine WP_iload_n dX3_faultInParts_95 rfl ?_
    refine WP_iload dX3_faultInParts_96 rfl ?_
    refine WP_aload_n dX3_faultInParts_98 rfl ?_
    refine WP_callV4 (k := 3) dX3_faultInParts_99 ⟨⟨⟨by decide, by decide⟩, zX3_faultOfNumber⟩, lX3_100, by decide, rfl, vX3_faultOfNumber.1, vX3_faultOfNumber.2⟩ (lyx_is hy 3 3 rfl) (sx_part_6_0_0 hy hr hI v16626 cz v16621 (by omega) (by omega) (by omega) (by omega) (by omega) (by omega)) (Nat.le_of_ble_eq_true rfl) ?_
    intro r I16635 J16636 Ra hq
    obtain ⟨⟨hI16635, ec, fiI16635, fjI16635, ⟨pI16635, sI16635_6_1, sI16635_6_2⟩⟩, v16637, rfl, av16637, bv16637, cv16637⟩ := hq
    show WP _ _ _ _ (.int _ :: _) _ _ _ _
    rw [ec]
    clear ec Ra
    have fr16638 : fz 74 g [1, 4] I I16635 := fz_tr fr0 (fz_mono fiI16635 (by decide))
    have fr16639 : fz 74 g [1] J J16636 := fz_tr frj0 (fz_mono fjI16635 (by decide))
    have e16640 : I16635 (ad g 6) 1 = w16619 := by rw [sI16635_6_1]; exact ew16619
    have e16641 : I16635 (ad g 6) 2 = w16620 := by rw [sI16635_6_2]; exact ew16620
    have e16642 : I16635 (ad g 1) 1 = L := hI16635.2
    have b16643 := BT_get hI16635.1 1 1 2 (0) (0) (900) (by decide) 1 (by decide) (by decide)
    rw [e16642] at b16643
    obtain ⟨w16644, ew16644⟩ : ∃ w : Int32, I16635 (ad g 4) 0 = w := ⟨_, rfl⟩
    have bw16644 := BT_get hI16635.1 4 0 5 (0) (0) (1000) (by decide) 0 (by decide) (by decide)
    rw [ew16644] at bw16644
    rw [ew16644] at cv16637
    refine WP_istore (ls' := [(0, _), (1, _), (2, _), (3, _), (4, _), (5, _), (6, _), (7, _)]) dX3_faultInParts_102 (by decide) rfl ?_
    refine WP_iload dX3_faultInParts_104 rfl ?_
    refine WQ_if_eq 112 dX3_faultInParts_106 rfl (fun c16644 => ?_) (fun c16644 => ?_)
    · refine WP_aload_n dX3_faultInParts_112 rfl ?_
      refine WP_getr dX3_faultInParts_113 fX3_15 rfl (lyx_is hy 3 3 rfl) (rfx hr 3 2 1 (by decide)) ?_
      refine WP_callV0 (k := 5) dX3_faultInParts_116 ⟨⟨⟨by decide, by decide⟩, zX5_next⟩, lX3_40, by decide, rfl, vX5_next.1, vX5_next.2⟩ (lyx_is hy 1 5 rfl) (sx_nextf hy hr hI16635  ) (Nat.le_of_ble_eq_true rfl) ?_
      intro r I16646 J16647 Ra hq
      obtain ⟨⟨hI16646, ec, fiI16646, fjI16646⟩, rfl⟩ := hq
      rw [ec]
      clear ec Ra
      have fr16648 : fz 74 g [1, 4] I I16646 := fz_tr fr16638 (fz_mono fiI16646 (by decide))
      have fr16649 : fz 74 g [1] J J16647 := fz_tr fr16639 (fz_mono fjI16646 (by decide))
      have e16650 : I16646 (ad g 6) 1 = w16619 := by rw [fz_at fiI16646 6 (by decide) (by decide)]; exact e16640
      have e16651 : I16646 (ad g 6) 2 = w16620 := by rw [fz_at fiI16646 6 (by decide) (by decide)]; exact e16641
      have e16652 : I16646 (ad g 4) 0 = w16644 := by rw [fz_at fiI16646 4 (by decide) (by decide)]; exact ew16644
      have e16653 : I16646 (ad g 1) 1 = L := hI16646.2
      have b16654 := BT_get hI16646.1 1 1 2 (0) (0) (900) (by decide) 1 (by decide) (by decide)
      rw [e16653] at b16654
      refine WP_iinc (ls' := [(0, _), (1, _), (2, _), (3, _), (4, _), (5, _), (6, _), (7, _)]) dX3_faultInParts_119 rfl (by decide) rfl ?_
      have hv16655 : (v16621 + Int32.ofInt (1)).toInt = v16621.toInt + (1) := ia_n rfl (by omega) (by omega)
      generalize v16621 + Int32.ofInt (1) = v16655 at hv16655 ⊢
      refine WP_goto 8 dX3_faultInParts_122 rfl ?_
      refine WP_iload dX3_faultInParts_8 rfl ?_
      refine WP_aload_n dX3_faultInParts_10 rfl ?_
      refine WS_call hz (i := 10) (by omega) dX3_faultInParts_11 ⟨⟨by decide, by decide⟩, zJ0_length_8abf5⟩ lX3_87 vJ0_length_8abf5 (As := []) (rest := [.int v16655]) (j_length hz (i := 10) (by omega)) rfl rfl (Nat.le_of_ble_eq_true rfl) ?_
      intro r Ia Ja Ra hq
      obtain ⟨⟨ea, eb, ec⟩, v16656, rfl, cv16656⟩ := hq
      show WP _ _ _ _ (.int _ :: _) _ _ _ _
      rw [ea, eb, ec]
      clear ea eb ec Ia Ja Ra
      have hv16656 : v16656.toInt = 2 := cv16656.trans rfl
      refine WQ_icmp_ge 125 dX3_faultInParts_14 rfl (fun c16656 => False.elim (by omega)) (fun c16656 => ?_)
      refine WP_iload dX3_faultInParts_17 rfl ?_
      refine WQ_iconst (5) (5) dX3_faultInParts_19 rfl rfl (fun v16658 hv16658 => ?_)
      refine WQ_icmp_ge 125 dX3_faultInParts_20 rfl (fun c16658 => False.elim (by omega)) (fun c16658 => ?_)
      refine WP_aload_n dX3_faultInParts_23 rfl ?_
      refine WP_iload dX3_faultInParts_24 rfl ?_
      refine WS_call hz (i := 10) (by omega) dX3_faultInParts_26 ⟨⟨by decide, by decide⟩, zJ0_charAt_5068e⟩ lX3_92 vJ0_charAt_5068e (As := [.int v16655]) (rest := []) (j_charAt hz (i := 10) (k := v16655) (by omega) (by omega) (by have z9 : ((liN.getD 10 0 : Nat) : Int) = 2 := rfl; omega)) rfl rfl (Nat.le_of_ble_eq_true rfl) ?_
      intro r Ia Ja Ra hq
      obtain ⟨⟨ea, eb, ec⟩, v16660, rfl, cv16660⟩ := hq
      show WP _ _ _ _ (.int _ :: _) _ _ _ _
      rw [ea, eb, ec]
      clear ea eb ec Ia Ja Ra
      have hv16660 : v16660.toInt = 76 := cv16660.trans (by rw [show v16655.toInt.toNat = 1 by omega]; rfl)
      refine WP_istore (ls' := [(0, _), (1, _), (2, _), (3, _), (4, _), (5, _), (6, _), (7, _)]) dX3_faultInParts_29 (by decide) rfl ?_
      refine WP_iload dX3_faultInParts_31 rfl ?_
      refine WQ_bipush (97) (97) dX3_faultInParts_33 rfl rfl (fun v16661 hv16661 => ?_)
      refine WQ_icmp_lt 49 dX3_faultInParts_35 rfl (fun c16661 => ?_) (fun c16661 => False.elim (by omega))
      refine WQ_iconst (0) (0) dX3_faultInParts_49 rfl rfl (fun v16663 hv16663 => ?_)
      refine WP_istore (ls' := [(0, _), (1, _), (2, _), (3, _), (4, _), (5, _), (6, _), (7, _)]) dX3_faultInParts_50 (by decide) rfl ?_
      refine WP_aload_n dX3_faultInParts_52 rfl ?_
      refine WP_getr dX3_faultInParts_53 fX3_15 rfl (lyx_is hy 3 3 rfl) (rfx hr 3 2 1 (by decide)) ?_
      refine WQ_geti dX3_faultInParts_56 fX3_43 rfl (lyx_is hy 1 5 rfl) (BT_get hI16646.1 1 2 3 (0) (0) (4) (by decide) 2 (by decide) (by decide)) (fun v16664 ev16664 av16664 bv16664 => ?_)
      refine WP_iload dX3_faultInParts_59 rfl ?_
      refine WQ_if_eq 68 dX3_faultInParts_61 rfl (fun c16664 => ?_) (fun c16664 => False.elim (by omega))
      refine WQ_iconst (2) (2) dX3_faultInParts_68 rfl rfl (fun v16666 hv16666 => ?_)
      refine WQ_icmp_eq 74 dX3_faultInParts_69 rfl (fun c16666 => ?_) (fun c16666 => ?_)
      · refine WP_iload dX3_faultInParts_74 rfl ?_
        refine WQ_if_eq 92 dX3_faultInParts_76 rfl (fun c16667 => ?_) (fun c16667 => False.elim (by omega))
        refine WP_aload_n dX3_faultInParts_92 rfl ?_
        refine WP_iload dX3_faultInParts_93 rfl ?_
        refine WP_iload_n dX3_faultInParts_95 rfl ?_
        refine WP_iload dX3_faultInParts_96 rfl ?_
        refine WP_aload_n dX3_faultInParts_98 rfl ?_
        refine WP_callV4 (k := 3) dX3_faultInParts_99 ⟨⟨⟨by decide, by decide⟩, zX3_faultOfNumber⟩, lX3_100, by decide, rfl, vX3_faultOfNumber.1, vX3_faultOfNumber.2⟩ (lyx_is hy 3 3 rfl) (sx_part_6_0_1 hy hr hI16646 v16660 cz v16655 (by omega) (by omega) (by omega) (by omega) (by omega) (by omega)) (Nat.le_of_ble_eq_true rfl) ?_
        intro r I16669 J16670 Ra hq
        obtain ⟨⟨hI16669, ec, fiI16669, fjI16669, ⟨pI16669, sI16669_4_0, sI16669_6_1, sI16669_6_2⟩⟩, v16671, rfl, av16671, bv16671, cv16671⟩ := hq
        show WP _ _ _ _ (.int _ :: _) _ _ _ _
        rw [ec]
        clear ec Ra
        have fr16672 : fz 74 g [1, 4] I I16669 := fz_tr fr16648 (fz_mono fiI16669 (by decide))
        have fr16673 : fz 74 g [1] J J16670 := fz_tr fr16649 (fz_mono fjI16669 (by decide))
        have e16674 : I16669 (ad g 4) 0 = w16644 := by rw [sI16669_4_0]; exact e16652
        have e16675 : I16669 (ad g 6) 1 = w16619 := by rw [sI16669_6_1]; exact e16650
        have e16676 : I16669 (ad g 6) 2 = w16620 := by rw [sI16669_6_2]; exact e16651
        have e16677 : I16669 (ad g 1) 1 = L := hI16669.2
        have b16678 := BT_get hI16669.1 1 1 2 (0) (0) (900) (by decide) 1 (by decide) (by decide)
        rw [e16677] at b16678
        obtain ⟨w16679, ew16679⟩ : ∃ w : Int32, I16669 (ad g 4) 1 = w := ⟨_, rfl⟩
        have bw16679 := BT_get hI16669.1 4 0 5 (0) (0) (1000) (by decide) 1 (by decide) (by decide)
        rw [ew16679] at bw16679
        rw [ew16679] at cv16671
        refine WP_istore (ls' := [(0, _), (1, _), (2, _), (3, _), (4, _), (5, _), (6, _), (7, _)]) dX3_faultInParts_102 (by decide) rfl ?_
        refine WP_iload dX3_faultInParts_104 rfl ?_
        refine WQ_if_eq 112 dX3_faultInParts_106 rfl (fun c16679 => ?_) (fun c16679 => ?_)
        · refine WP_aload_n dX3_faultInParts_112 rfl ?_
          refine WP_getr dX3_faultInParts_113 fX3_15 rfl (lyx_is hy 3 3 rfl) (rfx hr 3 2 1 (by decide)) ?_
          refine WP_callV0 (k := 5) dX3_faultInParts_116 ⟨⟨⟨by decide, by decide⟩, zX5_next⟩, lX3_40, by decide, rfl, vX5_next.1, vX5_next.2⟩ (lyx_is hy 1 5 rfl) (sx_nextf hy hr hI16669  ) (Nat.le_of_ble_eq_true rfl) ?_
          intro r I16681 J16682 Ra hq
          obtain ⟨⟨hI16681, ec, fiI16681, fjI16681⟩, rfl⟩ := hq
          rw [ec]
          clear ec Ra
          have fr16683 : fz 74 g [1, 4] I I16681 := fz_tr fr16672 (fz_mono fiI16681 (by decide))
          have fr16684 : fz 74 g [1] J J16682 := fz_tr fr16673 (fz_mono fjI16681 (by decide))
          have e16685 : I16681 (ad g 4) 0 = w16644 := by rw [fz_at fiI16681 4 (by decide) (by decide)]; exact e16674
          have e16686 : I16681 (ad g 6) 1 = w16619 := by rw [fz_at fiI16681 6 (by decide) (by decide)]; exact e16675
          have e16687 : I16681 (ad g 6) 2 = w16620 := by rw [fz_at fiI16681 6 (by decide) (by decide)]; exact e16676
          have e16688 : I16681 (ad g 4) 1 = w16679 := by rw [fz_at fiI16681 4 (by decide) (by decide)]; exact ew16679
          have e16689 : I16681 (ad g 1) 1 = L := hI16681.2
          have b16690 := BT_get hI16681.1 1 1 2 (0) (0) (900) (by decide) 1 (by decide) (by decide)
          rw [e16689] at b16690
          refine WP_iinc (ls' := [(0, _), (1, _), (2, _), (3, _), (4, _), (5, _), (6, _), (7, _)]) dX3_faultInParts_119 rfl (by decide) rfl ?_
          have hv16691 : (v16655 + Int32.ofInt (1)).toInt = v16655.toInt + (1) := ia_n rfl (by omega) (by omega)
          generalize v16655 + Int32.ofInt (1) = v16691 at hv16691 ⊢
          refine WP_goto 8 dX3_faultInParts_122 rfl ?_
          refine WP_iload dX3_faultInParts_8 rfl ?_
          refine WP_aload_n dX3_faultInParts_10 rfl ?_
          refine WS_call hz (i := 10) (by omega) dX3_faultInParts_11 ⟨⟨by decide, by decide⟩, zJ0_length_8abf5⟩ lX3_87 vJ0_length_8abf5 (As := []) (rest := [.int v16691]) (j_length hz (i := 10) (by omega)) rfl rfl (Nat.le_of_ble_eq_true rfl) ?_
          intro r Ia Ja Ra hq
          obtain ⟨⟨ea, eb, ec⟩, v16692, rfl, cv16692⟩ := hq
          show WP _ _ _ _ (.int _ :: _) _ _ _ _
          rw [ea, eb, ec]
          clear ea eb ec Ia Ja Ra
          have hv16692 : v16692.toInt = 2 := cv16692.trans rfl
          refine WQ_icmp_ge 125 dX3_faultInParts_14 rfl (fun c16692 => ?_) (fun c16692 => False.elim (by omega))
          refine WP_aload_n dX3_faultInParts_125 rfl ?_
          refine WP_getr dX3_faultInParts_126 fX3_15 rfl (lyx_is hy 3 3 rfl) (rfx hr 3 2 1 (by decide)) ?_
          refine WQ_geti dX3_faultInParts_129 fX3_43 rfl (lyx_is hy 1 5 rfl) (BT_get hI16681.1 1 2 3 (0) (0) (4) (by decide) 2 (by decide) (by decide)) (fun v16694 ev16694 av16694 bv16694 => ?_)
          refine WQ_iconst (3) (3) dX3_faultInParts_132 rfl rfl (fun v16695 hv16695 => ?_)
          refine WQ_icmp_ne 140 dX3_faultInParts_133 rfl (fun c16695 => ?_) (fun c16695 => ?_)
          · refine WQ_iconst (1) (1) dX3_faultInParts_140 rfl rfl (fun v16697 hv16697 => ?_)
            exact WP_iret dX3_faultInParts_141 rfl ⟨⟨hI16681, rfl, fr16683, fr16684, ⟨trivial, (by rw [e16686, ew16619] <;> exact (eq32 _ _).mpr (by omega)), (by rw [e16687, ew16620] <;> exact (eq32 _ _).mpr (by omega))⟩⟩, _, rfl, by omega, by omega, by (try rw [e16685]; try rw [e16688]); omega⟩
          · refine WQ_iconst (0) (0) dX3_faultInParts_136 rfl rfl (fun v16698 hv16698 => ?_)
            refine WP_goto 141 dX3_faultInParts_137 rfl ?_
            exact WP_iret dX3_faultInParts_141 rfl ⟨⟨hI16681, rfl, fr16683, fr16684, ⟨trivial, (by rw [e16686, ew16619] <;> exact (eq32 _ _).mpr (by omega)), (by rw [e16687, ew16620] <;> exact (eq32 _ _).mpr (by omega))⟩⟩, _, rfl, by omega, by omega, by (try rw [e16685]; try rw [e16688]); omega⟩
        · refine WP_iload dX3_faultInParts_109 rfl ?_
          exact WP_iret dX3_faultInParts_111 rfl ⟨⟨hI16669, rfl, fr16672, fr16673, ⟨trivial, (by rw [e16675, ew16619] <;> exact (eq32 _ _).mpr (by omega)), (by rw [e16676, ew16620] <;> exact (eq32 _ _).mpr (by omega))⟩⟩, _, rfl, by omega, by omega, by (try rw [e16674]; try rw [ew16679]); omega⟩
      · refine WQ_iconst (1) (1) dX3_faultInParts_72 rfl rfl (fun v16699 hv16699 => ?_)
        obtain ⟨w16700, ew16700⟩ : ∃ w : Int32, I16646 (ad g 4) 1 = w := ⟨_, rfl⟩
        have bw16700 := BT_get hI16646.1 4 0 5 (0) (0) (1000) (by decide) 1 (by decide) (by decide)
        rw [ew16700] at bw16700
        exact WP_iret dX3_faultInParts_73 rfl ⟨⟨hI16646, rfl, fr16648, fr16649, ⟨trivial, (by rw [e16650, ew16619] <;> exact (eq32 _ _).mpr (by omega)), (by rw [e16651, ew16620] <;> exact (eq32 _ _).mpr (by omega))⟩⟩, _, rfl, by omega, by omega, by (try rw [e16652]; try rw [ew16700]); omega⟩
    · refine WP_iload dX3_faultInParts_109 rfl ?_
      obtain ⟨w16701, ew16701⟩ : ∃ w : Int32, I16635 (ad g 4) 1 = w := ⟨_, rfl⟩
      have bw16701 := BT_get hI16635.1 4 0 5 (0) (0) (1000) (by decide) 1 (by decide) (by decide)
      rw [ew16701] at bw16701
      exact WP_iret dX3_faultInParts_111 rfl ⟨⟨hI16635, rfl, fr16638, fr16639, ⟨trivial, (by rw [e16640, ew16619] <;> exact (eq32 _ _).mpr (by omega)), (by rw [e16641, ew16620] <;> exact (eq32 _ _).mpr (by omega))⟩⟩, _, rfl, by omega, by omega, by (try rw [ew16644]; try rw [ew16701]); omega⟩
  · refine WQ_iconst (1) (1) dX3_faultInParts_72 rfl rfl (fun v16702 hv16702 => ?_)
    obtain ⟨w16703, ew16703⟩ : ∃ w : Int32, I (ad g 4) 0 = w := ⟨_, rfl⟩
    have bw16703 := BT_get hI.1 4 0 5 (0) (0) (1000) (by decide) 0 (by decide) (by decide)
    rw [ew16703] at bw16703
    obtain ⟨w16704, ew16704⟩ : ∃ w : Int32, I (ad g 4) 1 = w := ⟨_, rfl⟩
    have bw16704 := BT_get hI.1 4 0 5 (0) (0) (1000) (by decide) 1 (by decide) (by decide)
    rw [ew16704] at bw16704
    exact WP_iret dX3_faultInParts_73 rfl ⟨⟨hI, rfl, fr0, frj0, ⟨trivial, rfl, rfl⟩⟩, _, rfl, by omega, by omega, by (try rw [ew16703]; try rw [ew16704]); omega⟩
set_option maxHeartbeats 4000000 in
set_option maxRecDepth 100000 in
theorem sx_parts_6_1 {g : GG} {n : Int} {L : Int32} (hy : LyX g) {aK aV : Nat → Nat} {fo : Option Nat} (hz : HZ g aK aV fo)  {I : pI} {J : pJ} {R : pR} (hr : RfX g R) (hI : XI g n L I) (cz : Int32) (cz_lo : 1 ≤ cz.toInt) (cz_hi : cz.toInt ≤ 1) (hb : (I (ad g 6) 1).toInt ≤ 3) : SP g mX3_faultInParts [.ref (ad g 3), .int cz, .ref (ad g 6)] I J R (fun r I' J' R' => (XI g n L I' ∧ R' = R ∧ fz 74 g [1, 4] I I' ∧ fz 74 g [1, 20] J J' ∧ True ∧ I' (ad g 6) 1 = I (ad g 6) 1 ∧ I' (ad g 6) 2 = I (ad g 6) 2) ∧ ∃ v : Int32, r = some (.int v) ∧ 0 ≤ v.toInt ∧ v.toInt ≤ 5 ∧ (v.toInt = 0 → (I' (ad g 4) 1).toInt ≤ 99 ∧ (I' (ad g 4) 2).toInt ≤ 1000 ∧ (I' (ad g 4) 3).toInt ≤ 60)) := by
  refine SP_of ⟨by decide, rfl⟩ (Nat.le_of_ble_eq_true rfl) ?_
  have e16705 : I (ad g 1) 1 = L := hI.2
  have b16706 := BT_get hI.1 1 1 2 (0) (0) (900) (by decide) 1 (by decide) (by decide)
  rw [e16705] at b16706
  have fr0 : fz 74 g [1, 4] I I := fz_rf
  have frj0 : fz 74 g [1, 20] J J := fz_rf
  obtain ⟨w16707, ew16707⟩ : ∃ w : Int32, I (ad g 6) 1 = w := ⟨_, rfl⟩
  have bw16707 := BT_get hI.1 6 1 2 (0) (0) (4) (by decide) 1 (by decide) (by decide)
  rw [ew16707] at bw16707
  obtain ⟨w16708, ew16708⟩ : ∃ w : Int32, I (ad g 6) 2 = w := ⟨_, rfl⟩
  have bw16708 := BT_get hI.1 6 2 3 (0) (0) (3) (by decide) 2 (by decide) (by decide)
  rw [ew16708] at bw16708
  rw [ew16707] at hb
  refine WP_iload_n dX3_faultInParts_0 rfl ?_
  refine WP_callS1 dX3_faultInParts_1 ⟨⟨⟨by decide, by decide⟩, zX3_shapeOf⟩, lX3_84, tX3_shapeOf⟩ (sx_shapeOf hy hz hr hI cz (by omega) (by omega)) (Nat.le_of_ble_eq_true rfl) ?_
  intro r Ia Ja Ra hq
  obtain ⟨⟨ea, eb, ec⟩, rfl⟩ := hq
  show WP _ _ _ _ (.ref _ :: _) _ _ _ _
  rw [show 10 + cz.toInt.toNat = 11 by omega]
  rw [ea, eb, ec]
  clear ea eb ec Ia Ja Ra
  refine WP_astore_n (ls' := [(0, _), (1, _), (2, _), (3, _)]) dX3_faultInParts_4 (by decide) rfl ?_
  refine WQ_iconst (0) (0) dX3_faultInParts_5 rfl rfl (fun v16709 hv16709 => ?_)
  refine WP_istore (ls' := [(0, _), (1, _), (2, _), (3, _), (4, _)]) dX3_faultInParts_6 (by decide) rfl ?_
  refine WP_iload dX3_faultInParts_8 rfl ?_
  refine WP_aload_n dX3_faultInParts_10 rfl ?_
  refine WS_call hz (i := 11) (by omega) dX3_faultInParts_11 ⟨⟨by decide, by decide⟩, zJ0_length_8abf5⟩ lX3_87 vJ0_length_8abf5 (As := []) (rest := [.int v16709]) (j_length hz (i := 11) (by omega)) rfl rfl (Nat.le_of_ble_eq_true rfl) ?_
  intro r Ia Ja Ra hq
  obtain ⟨⟨ea, eb, ec⟩, v16710, rfl, cv16710⟩ := hq
  show WP _ _ _ _ (.int _ :: _) _ _ _ _
  rw [ea, eb, ec]
  clear ea eb ec Ia Ja Ra
  have hv16710 : v16710.toInt = 4 := cv16710.trans rfl
  refine WQ_icmp_ge 125 dX3_faultInParts_14 rfl (fun c16710 => False.elim (by omega)) (fun c16710 => ?_)
  refine WP_iload dX3_faultInParts_17 rfl ?_
  refine WQ_iconst (5) (5) dX3_faultInParts_19 rfl rfl (fun v16712 hv16712 => ?_)
  refine WQ_icmp_ge 125 dX3_faultInParts_20 rfl (fun c16712 => False.elim (by omega)) (fun c16712 => ?_)
  refine WP_aload_n dX3_faultInParts_23 rfl ?_
  refine WP_iload dX3_faultInParts_24 rfl ?_
  refine WS_call hz (i := 11) (by omega) dX3_faultInParts_26 ⟨⟨by decide, by decide⟩, zJ0_charAt_5068e⟩ lX3_92 vJ0_charAt_5068e (As := [.int v16709]) (rest := []) (j_charAt hz (i := 11) (k := v16709) (by omega) (by omega) (by have z9 : ((liN.getD 11 0 : Nat) : Int) = 4 := rfl; omega)) rfl rfl (Nat.le_of_ble_eq_true rfl) ?_
  intro r Ia Ja Ra hq
  obtain ⟨⟨ea, eb, ec⟩, v16714, rfl, cv16714⟩ := hq
  show WP _ _ _ _ (.int _ :: _) _ _ _ _
  rw [ea, eb, ec]
  clear ea eb ec Ia Ja Ra
  have hv16714 : v16714.toInt = 110 := cv16714.trans (by rw [show v16709.toInt.toNat = 0 by omega]; rfl)
  refine WP_istore (ls' := [(0, _), (1, _), (2, _), (3, _), (4, _), (5, _)]) dX3_faultInParts_29 (by decide) rfl ?_
  refine WP_iload dX3_faultInParts_31 rfl ?_
  refine WQ_bipush (97) (97) dX3_faultInParts_33 rfl rfl (fun v16715 hv16715 => ?_)
  refine WQ_icmp_lt 49 dX3_faultInParts_35 rfl (fun c16715 => False.elim (by omega)) (fun c16715 => ?_)
  refine WP_iload dX3_faultInParts_38 rfl ?_
  refine WQ_bipush (122) (122) dX3_faultInParts_40 rfl rfl (fun v16717 hv16717 => ?_)
  refine WQ_icmp_gt 49 dX3_faultInParts_42 rfl (fun c16717 => False.elim (by omega)) (fun c16717 => ?_)
  refine WQ_iconst (1) (1) dX3_faultInParts_45 rfl rfl (fun v16719 hv16719 => ?_)
  refine WP_goto 50 dX3_faultInParts_46 rfl ?_
  refine WP_istore (ls' := [(0, _), (1, _), (2, _), (3, _), (4, _), (5, _), (6, _)]) dX3_faultInParts_50 (by decide) rfl ?_
  refine WP_aload_n dX3_faultInParts_52 rfl ?_
  refine WP_getr dX3_faultInParts_53 fX3_15 rfl (lyx_is hy 3 3 rfl) (rfx hr 3 2 1 (by decide)) ?_
  refine WQ_geti dX3_faultInParts_56 fX3_43 rfl (lyx_is hy 1 5 rfl) (BT_get hI.1 1 2 3 (0) (0) (4) (by decide) 2 (by decide) (by decide)) (fun v16720 ev16720 av16720 bv16720 => ?_)
  refine WP_iload dX3_faultInParts_59 rfl ?_
  refine WQ_if_eq 68 dX3_faultInParts_61 rfl (fun c16720 => False.elim (by omega)) (fun c16720 => ?_)
  refine WQ_iconst (1) (1) dX3_faultInParts_64 rfl rfl (fun v16722 hv16722 => ?_)
  refine WP_goto 69 dX3_faultInParts_65 rfl ?_
  refine WQ_icmp_eq 74 dX3_faultInParts_69 rfl (fun c16722 => ?_) (fun c16722 => ?_)
  · refine WP_iload dX3_faultInParts_74 rfl ?_
    refine WQ_if_eq 92 dX3_faultInParts_76 rfl (fun c16723 => False.elim (by omega)) (fun c16723 => ?_)
    refine WP_aload_n dX3_faultInParts_79 rfl ?_
    refine WP_iload dX3_faultInParts_80 rfl ?_
    refine WP_iload_n dX3_faultInParts_82 rfl ?_
    refine WP_iload dX3_faultInParts_83 rfl ?_
    refine WP_aload_n dX3_faultInParts_85 rfl ?_
    refine WP_callV4 (k := 3) dX3_faultInParts_86 ⟨⟨⟨by decide, by decide⟩, zX3_faultOfName⟩, lX3_96, by decide, rfl, vX3_faultOfName.1, vX3_faultOfName.2⟩ (lyx_is hy 3 3 rfl) (sx_part_6_1_0 hy hr hI v16714 cz v16709 (by omega) (by omega) (by omega) (by omega) (by omega) (by omega) (by rw [ew16707]; omega)) (Nat.le_of_ble_eq_true rfl) ?_
    intro r I16725 J16726 Ra hq
    obtain ⟨⟨hI16725, ec, fiI16725, fjI16725, ⟨pI16725, sI16725_6_1, sI16725_6_2⟩⟩, v16727, rfl, av16727, bv16727⟩ := hq
    show WP _ _ _ _ (.int _ :: _) _ _ _ _
    rw [ec]
    clear ec Ra
    have fr16728 : fz 74 g [1, 4] I I16725 := fz_tr fr0 (fz_mono fiI16725 (by decide))
    have fr16729 : fz 74 g [1, 20] J J16726 := fz_tr frj0 (fz_mono fjI16725 (by decide))
    have e16730 : I16725 (ad g 6) 1 = w16707 := by rw [sI16725_6_1]; exact ew16707
    have e16731 : I16725 (ad g 6) 2 = w16708 := by rw [sI16725_6_2]; exact ew16708
    have e16732 : I16725 (ad g 1) 1 = L := hI16725.2
    have b16733 := BT_get hI16725.1 1 1 2 (0) (0) (900) (by decide) 1 (by decide) (by decide)
    rw [e16732] at b16733
    refine WP_goto 102 dX3_faultInParts_89 rfl ?_
    refine WP_istore (ls' := [(0, _), (1, _), (2, _), (3, _), (4, _), (5, _), (6, _), (7, _)]) dX3_faultInParts_102 (by decide) rfl ?_
    refine WP_iload dX3_faultInParts_104 rfl ?_
    refine WQ_if_eq 112 dX3_faultInParts_106 rfl (fun c16733 => ?_) (fun c16733 => ?_)
    · refine WP_aload_n dX3_faultInParts_112 rfl ?_
      refine WP_getr dX3_faultInParts_113 fX3_15 rfl (lyx_is hy 3 3 rfl) (rfx hr 3 2 1 (by decide)) ?_
      refine WP_callV0 (k := 5) dX3_faultInParts_116 ⟨⟨⟨by decide, by decide⟩, zX5_next⟩, lX3_40, by decide, rfl, vX5_next.1, vX5_next.2⟩ (lyx_is hy 1 5 rfl) (sx_nextf hy hr hI16725  ) (Nat.le_of_ble_eq_true rfl) ?_
      intro r I16735 J16736 Ra hq
      obtain ⟨⟨hI16735, ec, fiI16735, fjI16735⟩, rfl⟩ := hq
      rw [ec]
      clear ec Ra
      have fr16737 : fz 74 g [1, 4] I I16735 := fz_tr fr16728 (fz_mono fiI16735 (by decide))
      have fr16738 : fz 74 g [1, 20] J J16736 := fz_tr fr16729 (fz_mono fjI16735 (by decide))
      have e16739 : I16735 (ad g 6) 1 = w16707 := by rw [fz_at fiI16735 6 (by decide) (by decide)]; exact e16730
      have e16740 : I16735 (ad g 6) 2 = w16708 := by rw [fz_at fiI16735 6 (by decide) (by decide)]; exact e16731
      have e16741 : I16735 (ad g 1) 1 = L := hI16735.2
      have b16742 := BT_get hI16735.1 1 1 2 (0) (0) (900) (by decide) 1 (by decide) (by decide)
      rw [e16741] at b16742
      refine WP_iinc (ls' := [(0, _), (1, _), (2, _), (3, _), (4, _), (5, _), (6, _), (7, _)]) dX3_faultInParts_119 rfl (by decide) rfl ?_
      have hv16743 : (v16709 + Int32.ofInt (1)).toInt = v16709.toInt + (1) := ia_n rfl (by omega) (by omega)
      generalize v16709 + Int32.ofInt (1) = v16743 at hv16743 ⊢
      refine WP_goto 8 dX3_faultInParts_122 rfl ?_
      refine WP_iload dX3_faultInParts_8 rfl ?_
      refine WP_aload_n dX3_faultInParts_10 rfl ?_
      refine WS_call hz (i := 11) (by omega) dX3_faultInParts_11 ⟨⟨by decide, by decide⟩, zJ0_length_8abf5⟩ lX3_87 vJ0_length_8abf5 (As := []) (rest := [.int v16743]) (j_length hz (i := 11) (by omega)) rfl rfl (Nat.le_of_ble_eq_true rfl) ?_
      intro r Ia Ja Ra hq
      obtain ⟨⟨ea, eb, ec⟩, v16744, rfl, cv16744⟩ := hq
      show WP _ _ _ _ (.int _ :: _) _ _ _ _
      rw [ea, eb, ec]
      clear ea eb ec Ia Ja Ra
      have hv16744 : v16744.toInt = 4 := cv16744.trans rfl
      refine WQ_icmp_ge 125 dX3_faultInParts_14 rfl (fun c16744 => False.elim (by omega)) (fun c16744 => ?_)
      refine WP_iload dX3_faultInParts_17 rfl ?_
      refine WQ_iconst (5) (5) dX3_faultInParts_19 rfl rfl (fun v16746 hv16746 => ?_)
      refine WQ_icmp_ge 125 dX3_faultInParts_20 rfl (fun c16746 => False.elim (by omega)) (fun c16746 => ?_)
      refine WP_aload_n dX3_faultInParts_23 rfl ?_
      refine WP_iload dX3_faultInParts_24 rfl ?_
      refine WS_call hz (i := 11) (by omega) dX3_faultInParts_26 ⟨⟨by decide, by decide⟩, zJ0_charAt_5068e⟩ lX3_92 vJ0_charAt_5068e (As := [.int v16743]) (rest := []) (j_charAt hz (i := 11) (k := v16743) (by omega) (by omega) (by have z9 : ((liN.getD 11 0 : Nat) : Int) = 4 := rfl; omega)) rfl rfl (Nat.le_of_ble_eq_true rfl) ?_
      intro r Ia Ja Ra hq
      obtain ⟨⟨ea, eb, ec⟩, v16748, rfl, cv16748⟩ := hq
      show WP _ _ _ _ (.int _ :: _) _ _ _ _
      rw [ea, eb, ec]
      clear ea eb ec Ia Ja Ra
      have hv16748 : v16748.toInt = 80 := cv16748.trans (by rw [show v16743.toInt.toNat = 1 by omega]; rfl)
      refine WP_istore (ls' := [(0, _), (1, _), (2, _), (3, _), (4, _), (5, _), (6, _), (7, _)]) dX3_faultInParts_29 (by decide) rfl ?_
      refine WP_iload dX3_faultInParts_31 rfl ?_
      refine WQ_bipush (97) (97) dX3_faultInParts_33 rfl rfl (fun v16749 hv16749 => ?_)
      refine WQ_icmp_lt 49 dX3_faultInParts_35 rfl (fun c16749 => ?_) (fun c16749 => False.elim (by omega))
      refine WQ_iconst (0) (0) dX3_faultInParts_49 rfl rfl (fun v16751 hv16751 => ?_)
      refine WP_istore (ls' := [(0, _), (1, _), (2, _), (3, _), (4, _), (5, _), (6, _), (7, _)]) dX3_faultInParts_50 (by decide) rfl ?_
      refine WP_aload_n dX3_faultInParts_52 rfl ?_
      refine WP_getr dX3_faultInParts_53 fX3_15 rfl (lyx_is hy 3 3 rfl) (rfx hr 3 2 1 (by decide)) ?_
      refine WQ_geti dX3_faultInParts_56 fX3_43 rfl (lyx_is hy 1 5 rfl) (BT_get hI16735.1 1 2 3 (0) (0) (4) (by decide) 2 (by decide) (by decide)) (fun v16752 ev16752 av16752 bv16752 => ?_)
      refine WP_iload dX3_faultInParts_59 rfl ?_
      refine WQ_if_eq 68 dX3_faultInParts_61 rfl (fun c16752 => ?_) (fun c16752 => False.elim (by omega))
      refine WQ_iconst (2) (2) dX3_faultInParts_68 rfl rfl (fun v16754 hv16754 => ?_)
      refine WQ_icmp_eq 74 dX3_faultInParts_69 rfl (fun c16754 => ?_) (fun c16754 => ?_)
      · refine WP_iload dX3_faultInParts_74 rfl ?_
        refine WQ_if_eq 92 dX3_faultInParts_76 rfl (fun c16755 => ?_) (fun c16755 => False.elim (by omega))
        refine WP_aload_n dX3_faultInParts_92 rfl ?_
        refine WP_iload dX3_faultInParts_93 rfl ?_
        refine WP_iload_n dX3_faultInParts_95 rfl ?_
        refine WP_iload dX3_faultInParts_96 rfl ?_
        refine WP_aload_n dX3_faultInParts_98 rfl ?_
        refine WP_callV4 (k := 3) dX3_faultInParts_99 ⟨⟨⟨by decide, by decide⟩, zX3_faultOfNumber⟩, lX3_100, by decide, rfl, vX3_faultOfNumber.1, vX3_faultOfNumber.2⟩ (lyx_is hy 3 3 rfl) (sx_part_6_1_1 hy hr hI16735 v16748 cz v16743 (by omega) (by omega) (by omega) (by omega) (by omega) (by omega)) (Nat.le_of_ble_eq_true rfl) ?_
        intro r I16757 J16758 Ra hq
        obtain ⟨⟨hI16757, ec, fiI16757, fjI16757, ⟨pI16757, sI16757_4_0, sI16757_6_1, sI16757_6_2⟩⟩, v16759, rfl, av16759, bv16759, cv16759⟩ := hq
        show WP _ _ _ _ (.int _ :: _) _ _ _ _
        rw [ec]
        clear ec Ra
        have fr16760 : fz 74 g [1, 4] I I16757 := fz_tr fr16737 (fz_mono fiI16757 (by decide))
        have fr16761 : fz 74 g [1, 20] J J16758 := fz_tr fr16738 (fz_mono fjI16757 (by decide))
        have e16762 : I16757 (ad g 6) 1 = w16707 := by rw [sI16757_6_1]; exact e16739
        have e16763 : I16757 (ad g 6) 2 = w16708 := by rw [sI16757_6_2]; exact e16740
        have e16764 : I16757 (ad g 1) 1 = L := hI16757.2
        have b16765 := BT_get hI16757.1 1 1 2 (0) (0) (900) (by decide) 1 (by decide) (by decide)
        rw [e16764] at b16765
        obtain ⟨w16766, ew16766⟩ : ∃ w : Int32, I16757 (ad g 4) 1 = w := ⟨_, rfl⟩
        have bw16766 := BT_get hI16757.1 4 0 5 (0) (0) (1000) (by decide) 1 (by decide) (by decide)
        rw [ew16766] at bw16766
        rw [ew16766] at cv16759
        refine WP_istore (ls' := [(0, _), (1, _), (2, _), (3, _), (4, _), (5, _), (6, _), (7, _)]) dX3_faultInParts_102 (by decide) rfl ?_
        refine WP_iload dX3_faultInParts_104 rfl ?_
        refine WQ_if_eq 112 dX3_faultInParts_106 rfl (fun c16766 => ?_) (fun c16766 => ?_)
        · refine WP_aload_n dX3_faultInParts_112 rfl ?_
          refine WP_getr dX3_faultInParts_113 fX3_15 rfl (lyx_is hy 3 3 rfl) (rfx hr 3 2 1 (by decide)) ?_
          refine WP_callV0 (k := 5) dX3_faultInParts_116 ⟨⟨⟨by decide, by decide⟩, zX5_next⟩, lX3_40, by decide, rfl, vX5_next.1, vX5_next.2⟩ (lyx_is hy 1 5 rfl) (sx_nextf hy hr hI16757  ) (Nat.le_of_ble_eq_true rfl) ?_
          intro r I16768 J16769 Ra hq
          obtain ⟨⟨hI16768, ec, fiI16768, fjI16768⟩, rfl⟩ := hq
          rw [ec]
          clear ec Ra
          have fr16770 : fz 74 g [1, 4] I I16768 := fz_tr fr16760 (fz_mono fiI16768 (by decide))
          have fr16771 : fz 74 g [1, 20] J J16769 := fz_tr fr16761 (fz_mono fjI16768 (by decide))
          have e16772 : I16768 (ad g 6) 1 = w16707 := by rw [fz_at fiI16768 6 (by decide) (by decide)]; exact e16762
          have e16773 : I16768 (ad g 6) 2 = w16708 := by rw [fz_at fiI16768 6 (by decide) (by decide)]; exact e16763
          have e16774 : I16768 (ad g 4) 1 = w16766 := by rw [fz_at fiI16768 4 (by decide) (by decide)]; exact ew16766
          have e16775 : I16768 (ad g 1) 1 = L := hI16768.2
          have b16776 := BT_get hI16768.1 1 1 2 (0) (0) (900) (by decide) 1 (by decide) (by decide)
          rw [e16775] at b16776
          refine WP_iinc (ls' := [(0, _), (1, _), (2, _), (3, _), (4, _), (5, _), (6, _), (7, _)]) dX3_faultInParts_119 rfl (by decide) rfl ?_
          have hv16777 : (v16743 + Int32.ofInt (1)).toInt = v16743.toInt + (1) := ia_n rfl (by omega) (by omega)
          generalize v16743 + Int32.ofInt (1) = v16777 at hv16777 ⊢
          refine WP_goto 8 dX3_faultInParts_122 rfl ?_
          refine WP_iload dX3_faultInParts_8 rfl ?_
          refine WP_aload_n dX3_faultInParts_10 rfl ?_
          refine WS_call hz (i := 11) (by omega) dX3_faultInParts_11 ⟨⟨by decide, by decide⟩, zJ0_length_8abf5⟩ lX3_87 vJ0_length_8abf5 (As := []) (rest := [.int v16777]) (j_length hz (i := 11) (by omega)) rfl rfl (Nat.le_of_ble_eq_true rfl) ?_
          intro r Ia Ja Ra hq
          obtain ⟨⟨ea, eb, ec⟩, v16778, rfl, cv16778⟩ := hq
          show WP _ _ _ _ (.int _ :: _) _ _ _ _
          rw [ea, eb, ec]
          clear ea eb ec Ia Ja Ra
          have hv16778 : v16778.toInt = 4 := cv16778.trans rfl
          refine WQ_icmp_ge 125 dX3_faultInParts_14 rfl (fun c16778 => False.elim (by omega)) (fun c16778 => ?_)
          refine WP_iload dX3_faultInParts_17 rfl ?_
          refine WQ_iconst (5) (5) dX3_faultInParts_19 rfl rfl (fun v16780 hv16780 => ?_)
          refine WQ_icmp_ge 125 dX3_faultInParts_20 rfl (fun c16780 => False.elim (by omega)) (fun c16780 => ?_)
          refine WP_aload_n dX3_faultInParts_23 rfl ?_
          refine WP_iload dX3_faultInParts_24 rfl ?_
          refine WS_call hz (i := 11) (by omega) dX3_faultInParts_26 ⟨⟨by decide, by decide⟩, zJ0_charAt_5068e⟩ lX3_92 vJ0_charAt_5068e (As := [.int v16777]) (rest := []) (j_charAt hz (i := 11) (k := v16777) (by omega) (by omega) (by have z9 : ((liN.getD 11 0 : Nat) : Int) = 4 := rfl; omega)) rfl rfl (Nat.le_of_ble_eq_true rfl) ?_
          intro r Ia Ja Ra hq
          obtain ⟨⟨ea, eb, ec⟩, v16782, rfl, cv16782⟩ := hq
          show WP _ _ _ _ (.int _ :: _) _ _ _ _
          rw [ea, eb, ec]
          clear ea eb ec Ia Ja Ra
          have hv16782 : v16782.toInt = 72 := cv16782.trans (by rw [show v16777.toInt.toNat = 2 by omega]; rfl)
          refine WP_istore (ls' := [(0, _), (1, _), (2, _), (3, _), (4, _), (5, _), (6, _), (7, _)]) dX3_faultInParts_29 (by decide) rfl ?_
          refine WP_iload dX3_faultInParts_31 rfl ?_
          refine WQ_bipush (97) (97) dX3_faultInParts_33 rfl rfl (fun v16783 hv16783 => ?_)
          refine WQ_icmp_lt 49 dX3_faultInParts_35 rfl (fun c16783 => ?_) (fun c16783 => False.elim (by omega))
          refine WQ_iconst (0) (0) dX3_faultInParts_49 rfl rfl (fun v16785 hv16785 => ?_)
          refine WP_istore (ls' := [(0, _), (1, _), (2, _), (3, _), (4, _), (5, _), (6, _), (7, _)]) dX3_faultInParts_50 (by decide) rfl ?_
          refine WP_aload_n dX3_faultInParts_52 rfl ?_
          refine WP_getr dX3_faultInParts_53 fX3_15 rfl (lyx_is hy 3 3 rfl) (rfx hr 3 2 1 (by decide)) ?_
          refine WQ_geti dX3_faultInParts_56 fX3_43 rfl (lyx_is hy 1 5 rfl) (BT_get hI16768.1 1 2 3 (0) (0) (4) (by decide) 2 (by decide) (by decide)) (fun v16786 ev16786 av16786 bv16786 => ?_)
          refine WP_iload dX3_faultInParts_59 rfl ?_
          refine WQ_if_eq 68 dX3_faultInParts_61 rfl (fun c16786 => ?_) (fun c16786 => False.elim (by omega))
          refine WQ_iconst (2) (2) dX3_faultInParts_68 rfl rfl (fun v16788 hv16788 => ?_)
          refine WQ_icmp_eq 74 dX3_faultInParts_69 rfl (fun c16788 => ?_) (fun c16788 => ?_)
          · refine WP_iload dX3_faultInParts_74 rfl ?_
            refine WQ_if_eq 92 dX3_faultInParts_76 rfl (fun c16789 => ?_) (fun c16789 => False.elim (by omega))
            refine WP_aload_n dX3_faultInParts_92 rfl ?_
            refine WP_iload dX3_faultInParts_93 rfl ?_
            refine WP_iload_n dX3_faultInParts_95 rfl ?_
            refine WP_iload dX3_faultInParts_96 rfl ?_
            refine WP_aload_n dX3_faultInParts_98 rfl ?_
            refine WP_callV4 (k := 3) dX3_faultInParts_99 ⟨⟨⟨by decide, by decide⟩, zX3_faultOfNumber⟩, lX3_100, by decide, rfl, vX3_faultOfNumber.1, vX3_faultOfNumber.2⟩ (lyx_is hy 3 3 rfl) (sx_part_6_1_2 hy hr hI16768 v16782 cz v16777 (by omega) (by omega) (by omega) (by omega) (by omega) (by omega)) (Nat.le_of_ble_eq_true rfl) ?_
            intro r I16791 J16792 Ra hq
            obtain ⟨⟨hI16791, ec, fiI16791, fjI16791, ⟨pI16791, sI16791_4_0, sI16791_4_1, sI16791_6_1, sI16791_6_2⟩⟩, v16793, rfl, av16793, bv16793, cv16793⟩ := hq
            show WP _ _ _ _ (.int _ :: _) _ _ _ _
            rw [ec]
            clear ec Ra
            have fr16794 : fz 74 g [1, 4] I I16791 := fz_tr fr16770 (fz_mono fiI16791 (by decide))
            have fr16795 : fz 74 g [1, 20] J J16792 := fz_tr fr16771 (fz_mono fjI16791 (by decide))
            have e16796 : I16791 (ad g 4) 1 = w16766 := by rw [sI16791_4_1]; exact e16774
            have e16797 : I16791 (ad g 6) 1 = w16707 := by rw [sI16791_6_1]; exact e16772
            have e16798 : I16791 (ad g 6) 2 = w16708 := by rw [sI16791_6_2]; exact e16773
            have e16799 : I16791 (ad g 1) 1 = L := hI16791.2
            have b16800 := BT_get hI16791.1 1 1 2 (0) (0) (900) (by decide) 1 (by decide) (by decide)
            rw [e16799] at b16800
            obtain ⟨w16801, ew16801⟩ : ∃ w : Int32, I16791 (ad g 4) 2 = w := ⟨_, rfl⟩
            have bw16801 := BT_get hI16791.1 4 0 5 (0) (0) (1000) (by decide) 2 (by decide) (by decide)
            rw [ew16801] at bw16801
            rw [ew16801] at cv16793
            refine WP_istore (ls' := [(0, _), (1, _), (2, _), (3, _), (4, _), (5, _), (6, _), (7, _)]) dX3_faultInParts_102 (by decide) rfl ?_
            refine WP_iload dX3_faultInParts_104 rfl ?_
            refine WQ_if_eq 112 dX3_faultInParts_106 rfl (fun c16801 => ?_) (fun c16801 => ?_)
            · refine WP_aload_n dX3_faultInParts_112 rfl ?_
              refine WP_getr dX3_faultInParts_113 fX3_15 rfl (lyx_is hy 3 3 rfl) (rfx hr 3 2 1 (by decide)) ?_
              refine WP_callV0 (k := 5) dX3_faultInParts_116 ⟨⟨⟨by decide, by decide⟩, zX5_next⟩, lX3_40, by decide, rfl, vX5_next.1, vX5_next.2⟩ (lyx_is hy 1 5 rfl) (sx_nextf hy hr hI16791  ) (Nat.le_of_ble_eq_true rfl) ?_
              intro r I16803 J16804 Ra hq
              obtain ⟨⟨hI16803, ec, fiI16803, fjI16803⟩, rfl⟩ := hq
              rw [ec]
              clear ec Ra
              have fr16805 : fz 74 g [1, 4] I I16803 := fz_tr fr16794 (fz_mono fiI16803 (by decide))
              have fr16806 : fz 74 g [1, 20] J J16804 := fz_tr fr16795 (fz_mono fjI16803 (by decide))
              have e16807 : I16803 (ad g 4) 1 = w16766 := by rw [fz_at fiI16803 4 (by decide) (by decide)]; exact e16796
              have e16808 : I16803 (ad g 6) 1 = w16707 := by rw [fz_at fiI16803 6 (by decide) (by decide)]; exact e16797
              have e16809 : I16803 (ad g 6) 2 = w16708 := by rw [fz_at fiI16803 6 (by decide) (by decide)]; exact e16798
              have e16810 : I16803 (ad g 4) 2 = w16801 := by rw [fz_at fiI16803 4 (by decide) (by decide)]; exact ew16801
              have e16811 : I16803 (ad g 1) 1 = L := hI16803.2
              have b16812 := BT_get hI16803.1 1 1 2 (0) (0) (900) (by decide) 1 (by decide) (by decide)
              rw [e16811] at b16812
              refine WP_iinc (ls' := [(0, _), (1, _), (2, _), (3, _), (4, _), (5, _), (6, _), (7, _)]) dX3_faultInParts_119 rfl (by decide) rfl ?_
              have hv16813 : (v16777 + Int32.ofInt (1)).toInt = v16777.toInt + (1) := ia_n rfl (by omega) (by omega)
              generalize v16777 + Int32.ofInt (1) = v16813 at hv16813 ⊢
              refine WP_goto 8 dX3_faultInParts_122 rfl ?_
              refine WP_iload dX3_faultInParts_8 rfl ?_
              refine WP_aload_n dX3_faultInParts_10 rfl ?_
              refine WS_call hz (i := 11) (by omega) dX3_faultInParts_11 ⟨⟨by decide, by decide⟩, zJ0_length_8abf5⟩ lX3_87 vJ0_length_8abf5 (As := []) (rest := [.int v16813]) (j_length hz (i := 11) (by omega)) rfl rfl (Nat.le_of_ble_eq_true rfl) ?_
              intro r Ia Ja Ra hq
              obtain ⟨⟨ea, eb, ec⟩, v16814, rfl, cv16814⟩ := hq
              show WP _ _ _ _ (.int _ :: _) _ _ _ _
              rw [ea, eb, ec]
              clear ea eb ec Ia Ja Ra
              have hv16814 : v16814.toInt = 4 := cv16814.trans rfl
              refine WQ_icmp_ge 125 dX3_faultInParts_14 rfl (fun c16814 => False.elim (by omega)) (fun c16814 => ?_)
              refine WP_iload dX3_faultInParts_17 rfl ?_
              refine WQ_iconst (5) (5) dX3_faultInParts_19 rfl rfl (fun v16816 hv16816 => ?_)
              refine WQ_icmp_ge 125 dX3_faultInParts_20 rfl (fun c16816 => False.elim (by omega)) (fun c16816 => ?_)
              refine WP_aload_n dX3_faultInParts_23 rfl ?_
              refine WP_iload dX3_faultInParts_24 rfl ?_
              refine WS_call hz (i := 11) (by omega) dX3_faultInParts_26 ⟨⟨by decide, by decide⟩, zJ0_charAt_5068e⟩ lX3_92 vJ0_charAt_5068e (As := [.int v16813]) (rest := []) (j_charAt hz (i := 11) (k := v16813) (by omega) (by omega) (by have z9 : ((liN.getD 11 0 : Nat) : Int) = 4 := rfl; omega)) rfl rfl (Nat.le_of_ble_eq_true rfl) ?_
              intro r Ia Ja Ra hq
              obtain ⟨⟨ea, eb, ec⟩, v16818, rfl, cv16818⟩ := hq
              show WP _ _ _ _ (.int _ :: _) _ _ _ _
              rw [ea, eb, ec]
              clear ea eb ec Ia Ja Ra
              have hv16818 : v16818.toInt = 67 := cv16818.trans (by rw [show v16813.toInt.toNat = 3 by omega]; rfl)
              refine WP_istore (ls' := [(0, _), (1, _), (2, _), (3, _), (4, _), (5, _), (6, _), (7, _)]) dX3_faultInParts_29 (by decide) rfl ?_
              refine WP_iload dX3_faultInParts_31 rfl ?_
              refine WQ_bipush (97) (97) dX3_faultInParts_33 rfl rfl (fun v16819 hv16819 => ?_)
              refine WQ_icmp_lt 49 dX3_faultInParts_35 rfl (fun c16819 => ?_) (fun c16819 => False.elim (by omega))
              refine WQ_iconst (0) (0) dX3_faultInParts_49 rfl rfl (fun v16821 hv16821 => ?_)
              refine WP_istore (ls' := [(0, _), (1, _), (2, _), (3, _), (4, _), (5, _), (6, _), (7, _)]) dX3_faultInParts_50 (by decide) rfl ?_
              refine WP_aload_n dX3_faultInParts_52 rfl ?_
              refine WP_getr dX3_faultInParts_53 fX3_15 rfl (lyx_is hy 3 3 rfl) (rfx hr 3 2 1 (by decide)) ?_
              refine WQ_geti dX3_faultInParts_56 fX3_43 rfl (lyx_is hy 1 5 rfl) (BT_get hI16803.1 1 2 3 (0) (0) (4) (by decide) 2 (by decide) (by decide)) (fun v16822 ev16822 av16822 bv16822 => ?_)
              refine WP_iload dX3_faultInParts_59 rfl ?_
              refine WQ_if_eq 68 dX3_faultInParts_61 rfl (fun c16822 => ?_) (fun c16822 => False.elim (by omega))
              refine WQ_iconst (2) (2) dX3_faultInParts_68 rfl rfl (fun v16824 hv16824 => ?_)
              refine WQ_icmp_eq 74 dX3_faultInParts_69 rfl (fun c16824 => ?_) (fun c16824 => ?_)
              · refine WP_iload dX3_faultInParts_74 rfl ?_
                refine WQ_if_eq 92 dX3_faultInParts_76 rfl (fun c16825 => ?_) (fun c16825 => False.elim (by omega))
                refine WP_aload_n dX3_faultInParts_92 rfl ?_
                refine WP_iload dX3_faultInParts_93 rfl ?_
                refine WP_iload_n dX3_faultInParts_95 rfl ?_
                refine WP_iload dX3_faultInParts_96 rfl ?_
                refine WP_aload_n dX3_faultInParts_98 rfl ?_
                refine WP_callV4 (k := 3) dX3_faultInParts_99 ⟨⟨⟨by decide, by decide⟩, zX3_faultOfNumber⟩, lX3_100, by decide, rfl, vX3_faultOfNumber.1, vX3_faultOfNumber.2⟩ (lyx_is hy 3 3 rfl) (sx_part_6_1_3 hy hr hI16803 v16818 cz v16813 (by omega) (by omega) (by omega) (by omega) (by omega) (by omega)) (Nat.le_of_ble_eq_true rfl) ?_
                intro r I16827 J16828 Ra hq
                obtain ⟨⟨hI16827, ec, fiI16827, fjI16827, ⟨pI16827, sI16827_4_0, sI16827_4_1, sI16827_4_2, sI16827_6_1, sI16827_6_2⟩⟩, v16829, rfl, av16829, bv16829, cv16829⟩ := hq
                show WP _ _ _ _ (.int _ :: _) _ _ _ _
                rw [ec]
                clear ec Ra
                have fr16830 : fz 74 g [1, 4] I I16827 := fz_tr fr16805 (fz_mono fiI16827 (by decide))
                have fr16831 : fz 74 g [1, 20] J J16828 := fz_tr fr16806 (fz_mono fjI16827 (by decide))
                have e16832 : I16827 (ad g 4) 1 = w16766 := by rw [sI16827_4_1]; exact e16807
                have e16833 : I16827 (ad g 4) 2 = w16801 := by rw [sI16827_4_2]; exact e16810
                have e16834 : I16827 (ad g 6) 1 = w16707 := by rw [sI16827_6_1]; exact e16808
                have e16835 : I16827 (ad g 6) 2 = w16708 := by rw [sI16827_6_2]; exact e16809
                have e16836 : I16827 (ad g 1) 1 = L := hI16827.2
                have b16837 := BT_get hI16827.1 1 1 2 (0) (0) (900) (by decide) 1 (by decide) (by decide)
                rw [e16836] at b16837
                obtain ⟨w16838, ew16838⟩ : ∃ w : Int32, I16827 (ad g 4) 3 = w := ⟨_, rfl⟩
                have bw16838 := BT_get hI16827.1 4 0 5 (0) (0) (1000) (by decide) 3 (by decide) (by decide)
                rw [ew16838] at bw16838
                rw [ew16838] at cv16829
                refine WP_istore (ls' := [(0, _), (1, _), (2, _), (3, _), (4, _), (5, _), (6, _), (7, _)]) dX3_faultInParts_102 (by decide) rfl ?_
                refine WP_iload dX3_faultInParts_104 rfl ?_
                refine WQ_if_eq 112 dX3_faultInParts_106 rfl (fun c16838 => ?_) (fun c16838 => ?_)
                · refine WP_aload_n dX3_faultInParts_112 rfl ?_
                  refine WP_getr dX3_faultInParts_113 fX3_15 rfl (lyx_is hy 3 3 rfl) (rfx hr 3 2 1 (by decide)) ?_
                  refine WP_callV0 (k := 5) dX3_faultInParts_116 ⟨⟨⟨by decide, by decide⟩, zX5_next⟩, lX3_40, by decide, rfl, vX5_next.1, vX5_next.2⟩ (lyx_is hy 1 5 rfl) (sx_nextf hy hr hI16827  ) (Nat.le_of_ble_eq_true rfl) ?_
                  intro r I16840 J16841 Ra hq
                  obtain ⟨⟨hI16840, ec, fiI16840, fjI16840⟩, rfl⟩ := hq
                  rw [ec]
                  clear ec Ra
                  have fr16842 : fz 74 g [1, 4] I I16840 := fz_tr fr16830 (fz_mono fiI16840 (by decide))
                  have fr16843 : fz 74 g [1, 20] J J16841 := fz_tr fr16831 (fz_mono fjI16840 (by decide))
                  have e16844 : I16840 (ad g 4) 1 = w16766 := by rw [fz_at fiI16840 4 (by decide) (by decide)]; exact e16832
                  have e16845 : I16840 (ad g 4) 2 = w16801 := by rw [fz_at fiI16840 4 (by decide) (by decide)]; exact e16833
                  have e16846 : I16840 (ad g 6) 1 = w16707 := by rw [fz_at fiI16840 6 (by decide) (by decide)]; exact e16834
                  have e16847 : I16840 (ad g 6) 2 = w16708 := by rw [fz_at fiI16840 6 (by decide) (by decide)]; exact e16835
                  have e16848 : I16840 (ad g 4) 3 = w16838 := by rw [fz_at fiI16840 4 (by decide) (by decide)]; exact ew16838
                  have e16849 : I16840 (ad g 1) 1 = L := hI16840.2
                  have b16850 := BT_get hI16840.1 1 1 2 (0) (0) (900) (by decide) 1 (by decide) (by decide)
                  rw [e16849] at b16850
                  refine WP_iinc (ls' := [(0, _), (1, _), (2, _), (3, _), (4, _), (5, _), (6, _), (7, _)]) dX3_faultInParts_119 rfl (by decide) rfl ?_
                  have hv16851 : (v16813 + Int32.ofInt (1)).toInt = v16813.toInt + (1) := ia_n rfl (by omega) (by omega)
                  generalize v16813 + Int32.ofInt (1) = v16851 at hv16851 ⊢
                  refine WP_goto 8 dX3_faultInParts_122 rfl ?_
                  refine WP_iload dX3_faultInParts_8 rfl ?_
                  refine WP_aload_n dX3_faultInParts_10 rfl ?_
                  refine WS_call hz (i := 11) (by omega) dX3_faultInParts_11 ⟨⟨by decide, by decide⟩, zJ0_length_8abf5⟩ lX3_87 vJ0_length_8abf5 (As := []) (rest := [.int v16851]) (j_length hz (i := 11) (by omega)) rfl rfl (Nat.le_of_ble_eq_true rfl) ?_
                  intro r Ia Ja Ra hq
                  obtain ⟨⟨ea, eb, ec⟩, v16852, rfl, cv16852⟩ := hq
                  show WP _ _ _ _ (.int _ :: _) _ _ _ _
                  rw [ea, eb, ec]
                  clear ea eb ec Ia Ja Ra
                  have hv16852 : v16852.toInt = 4 := cv16852.trans rfl
                  refine WQ_icmp_ge 125 dX3_faultInParts_14 rfl (fun c16852 => ?_) (fun c16852 => False.elim (by omega))
                  refine WP_aload_n dX3_faultInParts_125 rfl ?_
                  refine WP_getr dX3_faultInParts_126 fX3_15 rfl (lyx_is hy 3 3 rfl) (rfx hr 3 2 1 (by decide)) ?_
                  refine WQ_geti dX3_faultInParts_129 fX3_43 rfl (lyx_is hy 1 5 rfl) (BT_get hI16840.1 1 2 3 (0) (0) (4) (by decide) 2 (by decide) (by decide)) (fun v16854 ev16854 av16854 bv16854 => ?_)
                  refine WQ_iconst (3) (3) dX3_faultInParts_132 rfl rfl (fun v16855 hv16855 => ?_)
                  refine WQ_icmp_ne 140 dX3_faultInParts_133 rfl (fun c16855 => ?_) (fun c16855 => ?_)
                  · refine WQ_iconst (1) (1) dX3_faultInParts_140 rfl rfl (fun v16857 hv16857 => ?_)
                    exact WP_iret dX3_faultInParts_141 rfl ⟨⟨hI16840, rfl, fr16842, fr16843, ⟨trivial, (by rw [e16846, ew16707] <;> exact (eq32 _ _).mpr (by omega)), (by rw [e16847, ew16708] <;> exact (eq32 _ _).mpr (by omega))⟩⟩, _, rfl, by omega, by omega, by (try rw [e16844]; try rw [e16845]; try rw [e16848]); omega⟩
                  · refine WQ_iconst (0) (0) dX3_faultInParts_136 rfl rfl (fun v16858 hv16858 => ?_)
                    refine WP_goto 141 dX3_faultInParts_137 rfl ?_
                    exact WP_iret dX3_faultInParts_141 rfl ⟨⟨hI16840, rfl, fr16842, fr16843, ⟨trivial, (by rw [e16846, ew16707] <;> exact (eq32 _ _).mpr (by omega)), (by rw [e16847, ew16708] <;> exact (eq32 _ _).mpr (by omega))⟩⟩, _, rfl, by omega, by omega, by (try rw [e16844]; try rw [e16845]; try rw [e16848]); omega⟩
                · refine WP_iload dX3_faultInParts_109 rfl ?_
                  exact WP_iret dX3_faultInParts_111 rfl ⟨⟨hI16827, rfl, fr16830, fr16831, ⟨trivial, (by rw [e16834, ew16707] <;> exact (eq32 _ _).mpr (by omega)), (by rw [e16835, ew16708] <;> exact (eq32 _ _).mpr (by omega))⟩⟩, _, rfl, by omega, by omega, by (try rw [e16832]; try rw [e16833]; try rw [ew16838]); omega⟩
              · refine WQ_iconst (1) (1) dX3_faultInParts_72 rfl rfl (fun v16859 hv16859 => ?_)
                obtain ⟨w16860, ew16860⟩ : ∃ w : Int32, I16803 (ad g 4) 3 = w := ⟨_, rfl⟩
                have bw16860 := BT_get hI16803.1 4 0 5 (0) (0) (1000) (by decide) 3 (by decide) (by decide)
                rw [ew16860] at bw16860
                exact WP_iret dX3_faultInParts_73 rfl ⟨⟨hI16803, rfl, fr16805, fr16806, ⟨trivial, (by rw [e16808, ew16707] <;> exact (eq32 _ _).mpr (by omega)), (by rw [e16809, ew16708] <;> exact (eq32 _ _).mpr (by omega))⟩⟩, _, rfl, by omega, by omega, by (try rw [e16807]; try rw [e16810]; try rw [ew16860]); omega⟩
            · refine WP_iload dX3_faultInParts_109 rfl ?_
              obtain ⟨w16861, ew16861⟩ : ∃ w : Int32, I16791 (ad g 4) 3 = w := ⟨_, rfl⟩
              have bw16861 := BT_get hI16791.1 4 0 5 (0) (0) (1000) (by decide) 3 (by decide) (by decide)
              rw [ew16861] at bw16861
              exact WP_iret dX3_faultInParts_111 rfl ⟨⟨hI16791, rfl, fr16794, fr16795, ⟨trivial, (by rw [e16797, ew16707] <;> exact (eq32 _ _).mpr (by omega)), (by rw [e16798, ew16708] <;> exact (eq32 _ _).mpr (by omega))⟩⟩, _, rfl, by omega, by omega, by (try rw [e16796]; try rw [ew16801]; try rw [ew16861]); omega⟩
          · refine WQ_iconst (1) (1) dX3_faultInParts_72 rfl rfl (fun v16862 hv16862 => ?_)
            obtain ⟨w16863, ew16863⟩ : ∃ w : Int32, I16768 (ad g 4) 2 = w := ⟨_, rfl⟩
            have bw16863 := BT_get hI16768.1 4 0 5 (0) (0) (1000) (by decide) 2 (by decide) (by decide)
            rw [ew16863] at bw16863
            obtain ⟨w16864, ew16864⟩ : ∃ w : Int32, I16768 (ad g 4) 3 = w := ⟨_, rfl⟩
            have bw16864 := BT_get hI16768.1 4 0 5 (0) (0) (1000) (by decide) 3 (by decide) (by decide)
            rw [ew16864] at bw16864
            exact WP_iret dX3_faultInParts_73 rfl ⟨⟨hI16768, rfl, fr16770, fr16771, ⟨trivial, (by rw [e16772, ew16707] <;> exact (eq32 _ _).mpr (by omega)), (by rw [e16773, ew16708] <;> exact (eq32 _ _).mpr (by omega))⟩⟩, _, rfl, by omega, by omega, by (try rw [e16774]; try rw [ew16863]; try rw [ew16864]); omega⟩
        · refine WP_iload dX3_faultInParts_109 rfl ?_
          obtain ⟨w16865, ew16865⟩ : ∃ w : Int32, I16757 (ad g 4) 2 = w := ⟨_, rfl⟩
          have bw16865 := BT_get hI16757.1 4 0 5 (0) (0) (1000) (by decide) 2 (by decide) (by decide)
          rw [ew16865] at bw16865
          obtain ⟨w16866, ew16866⟩ : ∃ w : Int32, I16757 (ad g 4) 3 = w := ⟨_, rfl⟩
          have bw16866 := BT_get hI16757.1 4 0 5 (0) (0) (1000) (by decide) 3 (by decide) (by decide)
          rw [ew16866] at bw16866
          exact WP_iret dX3_faultInParts_111 rfl ⟨⟨hI16757, rfl, fr16760, fr16761, ⟨trivial, (by rw [e16762, ew16707] <;> exact (eq32 _ _).mpr (by omega)), (by rw [e16763, ew16708] <;> exact (eq32 _ _).mpr (by omega))⟩⟩, _, rfl, by omega, by omega, by (try rw [ew16766]; try rw [ew16865]; try rw [ew16866]); omega⟩
      · refine WQ_iconst (1) (1) dX3_faultInParts_72 rfl rfl (fun v16867 hv16867 => ?_)
        obtain ⟨w16868, ew16868⟩ : ∃ w : Int32, I16735 (ad g 4) 1 = w := ⟨_, rfl⟩
        have bw16868 := BT_get hI16735.1 4 0 5 (0) (0) (1000) (by decide) 1 (by decide) (by decide)
        rw [ew16868] at bw16868
        obtain ⟨w16869, ew16869⟩ : ∃ w : Int32, I16735 (ad g 4) 2 = w := ⟨_, rfl⟩
        have bw16869 := BT_get hI16735.1 4 0 5 (0) (0) (1000) (by decide) 2 (by decide) (by decide)
        rw [ew16869] at bw16869
        obtain ⟨w16870, ew16870⟩ : ∃ w : Int32, I16735 (ad g 4) 3 = w := ⟨_, rfl⟩
        have bw16870 := BT_get hI16735.1 4 0 5 (0) (0) (1000) (by decide) 3 (by decide) (by decide)
        rw [ew16870] at bw16870
        exact WP_iret dX3_faultInParts_73 rfl ⟨⟨hI16735, rfl, fr16737, fr16738, ⟨trivial, (by rw [e16739, ew16707] <;> exact (eq32 _ _).mpr (by omega)), (by rw [e16740, ew16708] <;> exact (eq32 _ _).mpr (by omega))⟩⟩, _, rfl, by omega, by omega, by (try rw [ew16868]; try rw [ew16869]; try rw [ew16870]); omega⟩
    · refine WP_iload dX3_faultInParts_109 rfl ?_
      obtain ⟨w16871, ew16871⟩ : ∃ w : Int32, I16725 (ad g 4) 1 = w := ⟨_, rfl⟩
      have bw16871 := BT_get hI16725.1 4 0 5 (0) (0) (1000) (by decide) 1 (by decide) (by decide)
      rw [ew16871] at bw16871
      obtain ⟨w16872, ew16872⟩ : ∃ w : Int32, I16725 (ad g 4) 2 = w := ⟨_, rfl⟩
      have bw16872 := BT_get hI16725.1 4 0 5 (0) (0) (1000) (by decide) 2 (by decide) (by decide)
      rw [ew16872] at bw16872
      obtain ⟨w16873, ew16873⟩ : ∃ w : Int32, I16725 (ad g 4) 3 = w := ⟨_, rfl⟩
      have bw16873 := BT_get hI16725.1 4 0 5 (0) (0) (1000) (by decide) 3 (by decide) (by decide)
      rw [ew16873] at bw16873
      exact WP_iret dX3_faultInParts_111 rfl ⟨⟨hI16725, rfl, fr16728, fr16729, ⟨trivial, (by rw [e16730, ew16707] <;> exact (eq32 _ _).mpr (by omega)), (by rw [e16731, ew16708] <;> exact (eq32 _ _).mpr (by omega))⟩⟩, _, rfl, by omega, by omega, by (try rw [ew16871]; try rw [ew16872]; try rw [ew16873]); omega⟩
  · refine WQ_iconst (1) (1) dX3_faultInParts_72 rfl rfl (fun v16874 hv16874 => ?_)
    obtain ⟨w16875, ew16875⟩ : ∃ w : Int32, I (ad g 4) 1 = w := ⟨_, rfl⟩
    have bw16875 := BT_get hI.1 4 0 5 (0) (0) (1000) (by decide) 1 (by decide) (by decide)
    rw [ew16875] at bw16875
    obtain ⟨w16876, ew16876⟩ : ∃ w : Int32, I (ad g 4) 2 = w := ⟨_, rfl⟩
    have bw16876 := BT_get hI.1 4 0 5 (0) (0) (1000) (by decide) 2 (by decide) (by decide)
    rw [ew16876] at bw16876
    obtain ⟨w16877, ew16877⟩ : ∃ w : Int32, I (ad g 4) 3 = w := ⟨_, rfl⟩
    have bw16877 := BT_get hI.1 4 0 5 (0) (0) (1000) (by decide) 3 (by decide) (by decide)
    rw [ew16877] at bw16877
    exact WP_iret dX3_faultInParts_73 rfl ⟨⟨hI, rfl, fr0, frj0, ⟨trivial, rfl, rfl⟩⟩, _, rfl, by omega, by omega, by (try rw [ew16875]; try rw [ew16876]; try rw [ew16877]); omega⟩
set_option maxHeartbeats 4000000 in
set_option maxRecDepth 100000 in
theorem sx_parts_6_2 {g : GG} {n : Int} {L : Int32} (hy : LyX g) {aK aV : Nat → Nat} {fo : Option Nat} (hz : HZ g aK aV fo)  {I : pI} {J : pJ} {R : pR} (hr : RfX g R) (hI : XI g n L I) (cz : Int32) (cz_lo : 2 ≤ cz.toInt) (cz_hi : cz.toInt ≤ 2) (hb : (I (ad g 6) 2).toInt ≤ 2) : SP g mX3_faultInParts [.ref (ad g 3), .int cz, .ref (ad g 6)] I J R (fun r I' J' R' => (XI g n L I' ∧ R' = R ∧ fz 74 g [1, 4] I I' ∧ fz 74 g [1, 20] J J' ∧ True ∧ I' (ad g 6) 1 = I (ad g 6) 1 ∧ I' (ad g 6) 2 = I (ad g 6) 2) ∧ ∃ v : Int32, r = some (.int v) ∧ 0 ≤ v.toInt ∧ v.toInt ≤ 5 ∧ (v.toInt = 0 → (I' (ad g 4) 1).toInt ≤ 1000 ∧ (I' (ad g 4) 2).toInt ≤ 9)) := by
  refine SP_of ⟨by decide, rfl⟩ (Nat.le_of_ble_eq_true rfl) ?_
  have e16878 : I (ad g 1) 1 = L := hI.2
  have b16879 := BT_get hI.1 1 1 2 (0) (0) (900) (by decide) 1 (by decide) (by decide)
  rw [e16878] at b16879
  have fr0 : fz 74 g [1, 4] I I := fz_rf
  have frj0 : fz 74 g [1, 20] J J := fz_rf
  obtain ⟨w16880, ew16880⟩ : ∃ w : Int32, I (ad g 6) 1 = w := ⟨_, rfl⟩
  have bw16880 := BT_get hI.1 6 1 2 (0) (0) (4) (by decide) 1 (by decide) (by decide)
  rw [ew16880] at bw16880
  obtain ⟨w16881, ew16881⟩ : ∃ w : Int32, I (ad g 6) 2 = w := ⟨_, rfl⟩
  have bw16881 := BT_get hI.1 6 2 3 (0) (0) (3) (by decide) 2 (by decide) (by decide)
  rw [ew16881] at bw16881
  rw [ew16881] at hb
  refine WP_iload_n dX3_faultInParts_0 rfl ?_
  refine WP_callS1 dX3_faultInParts_1 ⟨⟨⟨by decide, by decide⟩, zX3_shapeOf⟩, lX3_84, tX3_shapeOf⟩ (sx_shapeOf hy hz hr hI cz (by omega) (by omega)) (Nat.le_of_ble_eq_true rfl) ?_
  intro r Ia Ja Ra hq
  obtain ⟨⟨ea, eb, ec⟩, rfl⟩ := hq
  show WP _ _ _ _ (.ref _ :: _) _ _ _ _
  rw [show 10 + cz.toInt.toNat = 12 by omega]
  rw [ea, eb, ec]
  clear ea eb ec Ia Ja Ra
  refine WP_astore_n (ls' := [(0, _), (1, _), (2, _), (3, _)]) dX3_faultInParts_4 (by decide) rfl ?_
  refine WQ_iconst (0) (0) dX3_faultInParts_5 rfl rfl (fun v16882 hv16882 => ?_)
  refine WP_istore (ls' := [(0, _), (1, _), (2, _), (3, _), (4, _)]) dX3_faultInParts_6 (by decide) rfl ?_
  refine WP_iload dX3_faultInParts_8 rfl ?_
  refine WP_aload_n dX3_faultInParts_10 rfl ?_
  refine WS_call hz (i := 12) (by omega) dX3_faultInParts_11 ⟨⟨by decide, by decide⟩, zJ0_length_8abf5⟩ lX3_87 vJ0_length_8abf5 (As := []) (rest := [.int v16882]) (j_length hz (i := 12) (by omega)) rfl rfl (Nat.le_of_ble_eq_true rfl) ?_
  intro r Ia Ja Ra hq
  obtain ⟨⟨ea, eb, ec⟩, v16883, rfl, cv16883⟩ := hq
  show WP _ _ _ _ (.int _ :: _) _ _ _ _
  rw [ea, eb, ec]
  clear ea eb ec Ia Ja Ra
  have hv16883 : v16883.toInt = 3 := cv16883.trans rfl
  refine WQ_icmp_ge 125 dX3_faultInParts_14 rfl (fun c16883 => False.elim (by omega)) (fun c16883 => ?_)
  refine WP_iload dX3_faultInParts_17 rfl ?_
  refine WQ_iconst (5) (5) dX3_faultInParts_19 rfl rfl (fun v16885 hv16885 => ?_)
  refine WQ_icmp_ge 125 dX3_faultInParts_20 rfl (fun c16885 => False.elim (by omega)) (fun c16885 => ?_)
  refine WP_aload_n dX3_faultInParts_23 rfl ?_
  refine WP_iload dX3_faultInParts_24 rfl ?_
  refine WS_call hz (i := 12) (by omega) dX3_faultInParts_26 ⟨⟨by decide, by decide⟩, zJ0_charAt_5068e⟩ lX3_92 vJ0_charAt_5068e (As := [.int v16882]) (rest := []) (j_charAt hz (i := 12) (k := v16882) (by omega) (by omega) (by have z9 : ((liN.getD 12 0 : Nat) : Int) = 3 := rfl; omega)) rfl rfl (Nat.le_of_ble_eq_true rfl) ?_
  intro r Ia Ja Ra hq
  obtain ⟨⟨ea, eb, ec⟩, v16887, rfl, cv16887⟩ := hq
  show WP _ _ _ _ (.int _ :: _) _ _ _ _
  rw [ea, eb, ec]
  clear ea eb ec Ia Ja Ra
  have hv16887 : v16887.toInt = 109 := cv16887.trans (by rw [show v16882.toInt.toNat = 0 by omega]; rfl)
  refine WP_istore (ls' := [(0, _), (1, _), (2, _), (3, _), (4, _), (5, _)]) dX3_faultInParts_29 (by decide) rfl ?_
  refine WP_iload dX3_faultInParts_31 rfl ?_
  refine WQ_bipush (97) (97) dX3_faultInParts_33 rfl rfl (fun v16888 hv16888 => ?_)
  refine WQ_icmp_lt 49 dX3_faultInParts_35 rfl (fun c16888 => False.elim (by omega)) (fun c16888 => ?_)
  refine WP_iload dX3_faultInParts_38 rfl ?_
  refine WQ_bipush (122) (122) dX3_faultInParts_40 rfl rfl (fun v16890 hv16890 => ?_)
  refine WQ_icmp_gt 49 dX3_faultInParts_42 rfl (fun c16890 => False.elim (by omega)) (fun c16890 => ?_)
  refine WQ_iconst (1) (1) dX3_faultInParts_45 rfl rfl (fun v16892 hv16892 => ?_)
  refine WP_goto 50 dX3_faultInParts_46 rfl ?_
  refine WP_istore (ls' := [(0, _), (1, _), (2, _), (3, _), (4, _), (5, _), (6, _)]) dX3_faultInParts_50 (by decide) rfl ?_
  refine WP_aload_n dX3_faultInParts_52 rfl ?_
  refine WP_getr dX3_faultInParts_53 fX3_15 rfl (lyx_is hy 3 3 rfl) (rfx hr 3 2 1 (by decide)) ?_
  refine WQ_geti dX3_faultInParts_56 fX3_43 rfl (lyx_is hy 1 5 rfl) (BT_get hI.1 1 2 3 (0) (0) (4) (by decide) 2 (by decide) (by decide)) (fun v16893 ev16893 av16893 bv16893 => ?_)
  refine WP_iload dX3_faultInParts_59 rfl ?_
  refine WQ_if_eq 68 dX3_faultInParts_61 rfl (fun c16893 => False.elim (by omega)) (fun c16893 => ?_)
  refine WQ_iconst (1) (1) dX3_faultInParts_64 rfl rfl (fun v16895 hv16895 => ?_)
  refine WP_goto 69 dX3_faultInParts_65 rfl ?_
  refine WQ_icmp_eq 74 dX3_faultInParts_69 rfl (fun c16895 => ?_) (fun c16895 => ?_)
  · refine WP_iload dX3_faultInParts_74 rfl ?_
    refine WQ_if_eq 92 dX3_faultInParts_76 rfl (fun c16896 => False.elim (by omega)) (fun c16896 => ?_)
    refine WP_aload_n dX3_faultInParts_79 rfl ?_
    refine WP_iload dX3_faultInParts_80 rfl ?_
    refine WP_iload_n dX3_faultInParts_82 rfl ?_
    refine WP_iload dX3_faultInParts_83 rfl ?_
    refine WP_aload_n dX3_faultInParts_85 rfl ?_
    refine WP_callV4 (k := 3) dX3_faultInParts_86 ⟨⟨⟨by decide, by decide⟩, zX3_faultOfName⟩, lX3_96, by decide, rfl, vX3_faultOfName.1, vX3_faultOfName.2⟩ (lyx_is hy 3 3 rfl) (sx_part_6_2_0 hy hr hI v16887 cz v16882 (by omega) (by omega) (by omega) (by omega) (by omega) (by omega) (by rw [ew16881]; omega)) (Nat.le_of_ble_eq_true rfl) ?_
    intro r I16898 J16899 Ra hq
    obtain ⟨⟨hI16898, ec, fiI16898, fjI16898, ⟨pI16898, sI16898_6_1, sI16898_6_2⟩⟩, v16900, rfl, av16900, bv16900⟩ := hq
    show WP _ _ _ _ (.int _ :: _) _ _ _ _
    rw [ec]
    clear ec Ra
    have fr16901 : fz 74 g [1, 4] I I16898 := fz_tr fr0 (fz_mono fiI16898 (by decide))
    have fr16902 : fz 74 g [1, 20] J J16899 := fz_tr frj0 (fz_mono fjI16898 (by decide))
    have e16903 : I16898 (ad g 6) 1 = w16880 := by rw [sI16898_6_1]; exact ew16880
    have e16904 : I16898 (ad g 6) 2 = w16881 := by rw [sI16898_6_2]; exact ew16881
    have e16905 : I16898 (ad g 1) 1 = L := hI16898.2
    have b16906 := BT_get hI16898.1 1 1 2 (0) (0) (900) (by decide) 1 (by decide) (by decide)
    rw [e16905] at b16906
    refine WP_goto 102 dX3_faultInParts_89 rfl ?_
    refine WP_istore (ls' := [(0, _), (1, _), (2, _), (3, _), (4, _), (5, _), (6, _), (7, _)]) dX3_faultInParts_102 (by decide) rfl ?_
    refine WP_iload dX3_faultInParts_104 rfl ?_
    refine WQ_if_eq 112 dX3_faultInParts_106 rfl (fun c16906 => ?_) (fun c16906 => ?_)
    · refine WP_aload_n dX3_faultInParts_112 rfl ?_
      refine WP_getr dX3_faultInParts_113 fX3_15 rfl (lyx_is hy 3 3 rfl) (rfx hr 3 2 1 (by decide)) ?_
      refine WP_callV0 (k := 5) dX3_faultInParts_116 ⟨⟨⟨by decide, by decide⟩, zX5_next⟩, lX3_40, by decide, rfl, vX5_next.1, vX5_next.2⟩ (lyx_is hy 1 5 rfl) (sx_nextf hy hr hI16898  ) (Nat.le_of_ble_eq_true rfl) ?_
      intro r I16908 J16909 Ra hq
      obtain ⟨⟨hI16908, ec, fiI16908, fjI16908⟩, rfl⟩ := hq
      rw [ec]
      clear ec Ra
      have fr16910 : fz 74 g [1, 4] I I16908 := fz_tr fr16901 (fz_mono fiI16908 (by decide))
      have fr16911 : fz 74 g [1, 20] J J16909 := fz_tr fr16902 (fz_mono fjI16908 (by decide))
      have e16912 : I16908 (ad g 6) 1 = w16880 := by rw [fz_at fiI16908 6 (by decide) (by decide)]; exact e16903
      have e16913 : I16908 (ad g 6) 2 = w16881 := by rw [fz_at fiI16908 6 (by decide) (by decide)]; exact e16904
      have e16914 : I16908 (ad g 1) 1 = L := hI16908.2
      have b16915 := BT_get hI16908.1 1 1 2 (0) (0) (900) (by decide) 1 (by decide) (by decide)
      rw [e16914] at b16915
      refine WP_iinc (ls' := [(0, _), (1, _), (2, _), (3, _), (4, _), (5, _), (6, _), (7, _)]) dX3_faultInParts_119 rfl (by decide) rfl ?_
      have hv16916 : (v16882 + Int32.ofInt (1)).toInt = v16882.toInt + (1) := ia_n rfl (by omega) (by omega)
      generalize v16882 + Int32.ofInt (1) = v16916 at hv16916 ⊢
      refine WP_goto 8 dX3_faultInParts_122 rfl ?_
      refine WP_iload dX3_faultInParts_8 rfl ?_
      refine WP_aload_n dX3_faultInParts_10 rfl ?_
      refine WS_call hz (i := 12) (by omega) dX3_faultInParts_11 ⟨⟨by decide, by decide⟩, zJ0_length_8abf5⟩ lX3_87 vJ0_length_8abf5 (As := []) (rest := [.int v16916]) (j_length hz (i := 12) (by omega)) rfl rfl (Nat.le_of_ble_eq_true rfl) ?_
      intro r Ia Ja Ra hq
      obtain ⟨⟨ea, eb, ec⟩, v16917, rfl, cv16917⟩ := hq
      show WP _ _ _ _ (.int _ :: _) _ _ _ _
      rw [ea, eb, ec]
      clear ea eb ec Ia Ja Ra
      have hv16917 : v16917.toInt = 3 := cv16917.trans rfl
      refine WQ_icmp_ge 125 dX3_faultInParts_14 rfl (fun c16917 => False.elim (by omega)) (fun c16917 => ?_)
      refine WP_iload dX3_faultInParts_17 rfl ?_
      refine WQ_iconst (5) (5) dX3_faultInParts_19 rfl rfl (fun v16919 hv16919 => ?_)
      refine WQ_icmp_ge 125 dX3_faultInParts_20 rfl (fun c16919 => False.elim (by omega)) (fun c16919 => ?_)
      refine WP_aload_n dX3_faultInParts_23 rfl ?_
      refine WP_iload dX3_faultInParts_24 rfl ?_
      refine WS_call hz (i := 12) (by omega) dX3_faultInParts_26 ⟨⟨by decide, by decide⟩, zJ0_charAt_5068e⟩ lX3_92 vJ0_charAt_5068e (As := [.int v16916]) (rest := []) (j_charAt hz (i := 12) (k := v16916) (by omega) (by omega) (by have z9 : ((liN.getD 12 0 : Nat) : Int) = 3 := rfl; omega)) rfl rfl (Nat.le_of_ble_eq_true rfl) ?_
      intro r Ia Ja Ra hq
      obtain ⟨⟨ea, eb, ec⟩, v16921, rfl, cv16921⟩ := hq
      show WP _ _ _ _ (.int _ :: _) _ _ _ _
      rw [ea, eb, ec]
      clear ea eb ec Ia Ja Ra
      have hv16921 : v16921.toInt = 72 := cv16921.trans (by rw [show v16916.toInt.toNat = 1 by omega]; rfl)
      refine WP_istore (ls' := [(0, _), (1, _), (2, _), (3, _), (4, _), (5, _), (6, _), (7, _)]) dX3_faultInParts_29 (by decide) rfl ?_
      refine WP_iload dX3_faultInParts_31 rfl ?_
      refine WQ_bipush (97) (97) dX3_faultInParts_33 rfl rfl (fun v16922 hv16922 => ?_)
      refine WQ_icmp_lt 49 dX3_faultInParts_35 rfl (fun c16922 => ?_) (fun c16922 => False.elim (by omega))
      refine WQ_iconst (0) (0) dX3_faultInParts_49 rfl rfl (fun v16924 hv16924 => ?_)
      refine WP_istore (ls' := [(0, _), (1, _), (2, _), (3, _), (4, _), (5, _), (6, _), (7, _)]) dX3_faultInParts_50 (by decide) rfl ?_
      refine WP_aload_n dX3_faultInParts_52 rfl ?_
      refine WP_getr dX3_faultInParts_53 fX3_15 rfl (lyx_is hy 3 3 rfl) (rfx hr 3 2 1 (by decide)) ?_
      refine WQ_geti dX3_faultInParts_56 fX3_43 rfl (lyx_is hy 1 5 rfl) (BT_get hI16908.1 1 2 3 (0) (0) (4) (by decide) 2 (by decide) (by decide)) (fun v16925 ev16925 av16925 bv16925 => ?_)
      refine WP_iload dX3_faultInParts_59 rfl ?_
      refine WQ_if_eq 68 dX3_faultInParts_61 rfl (fun c16925 => ?_) (fun c16925 => False.elim (by omega))
      refine WQ_iconst (2) (2) dX3_faultInParts_68 rfl rfl (fun v16927 hv16927 => ?_)
      refine WQ_icmp_eq 74 dX3_faultInParts_69 rfl (fun c16927 => ?_) (fun c16927 => ?_)
      · refine WP_iload dX3_faultInParts_74 rfl ?_
        refine WQ_if_eq 92 dX3_faultInParts_76 rfl (fun c16928 => ?_) (fun c16928 => False.elim (by omega))
        refine WP_aload_n dX3_faultInParts_92 rfl ?_
        refine WP_iload dX3_faultInParts_93 rfl ?_
        refine WP_iload_n dX3_faultInParts_95 rfl ?_
        refine WP_iload dX3_faultInParts_96 rfl ?_
        refine WP_aload_n dX3_faultInParts_98 rfl ?_
        refine WP_callV4 (k := 3) dX3_faultInParts_99 ⟨⟨⟨by decide, by decide⟩, zX3_faultOfNumber⟩, lX3_100, by decide, rfl, vX3_faultOfNumber.1, vX3_faultOfNumber.2⟩ (lyx_is hy 3 3 rfl) (sx_part_6_2_1 hy hr hI16908 v16921 cz v16916 (by omega) (by omega) (by omega) (by omega) (by omega) (by omega)) (Nat.le_of_ble_eq_true rfl) ?_
        intro r I16930 J16931 Ra hq
        obtain ⟨⟨hI16930, ec, fiI16930, fjI16930, ⟨pI16930, sI16930_4_0, sI16930_6_1, sI16930_6_2⟩⟩, v16932, rfl, av16932, bv16932, cv16932⟩ := hq
        show WP _ _ _ _ (.int _ :: _) _ _ _ _
        rw [ec]
        clear ec Ra
        have fr16933 : fz 74 g [1, 4] I I16930 := fz_tr fr16910 (fz_mono fiI16930 (by decide))
        have fr16934 : fz 74 g [1, 20] J J16931 := fz_tr fr16911 (fz_mono fjI16930 (by decide))
        have e16935 : I16930 (ad g 6) 1 = w16880 := by rw [sI16930_6_1]; exact e16912
        have e16936 : I16930 (ad g 6) 2 = w16881 := by rw [sI16930_6_2]; exact e16913
        have e16937 : I16930 (ad g 1) 1 = L := hI16930.2
        have b16938 := BT_get hI16930.1 1 1 2 (0) (0) (900) (by decide) 1 (by decide) (by decide)
        rw [e16937] at b16938
        obtain ⟨w16939, ew16939⟩ : ∃ w : Int32, I16930 (ad g 4) 1 = w := ⟨_, rfl⟩
        have bw16939 := BT_get hI16930.1 4 0 5 (0) (0) (1000) (by decide) 1 (by decide) (by decide)
        rw [ew16939] at bw16939
        rw [ew16939] at cv16932
        refine WP_istore (ls' := [(0, _), (1, _), (2, _), (3, _), (4, _), (5, _), (6, _), (7, _)]) dX3_faultInParts_102 (by decide) rfl ?_
        refine WP_iload dX3_faultInParts_104 rfl ?_
        refine WQ_if_eq 112 dX3_faultInParts_106 rfl (fun c16939 => ?_) (fun c16939 => ?_)
        · refine WP_aload_n dX3_faultInParts_112 rfl ?_
          refine WP_getr dX3_faultInParts_113 fX3_15 rfl (lyx_is hy 3 3 rfl) (rfx hr 3 2 1 (by decide)) ?_
          refine WP_callV0 (k := 5) dX3_faultInParts_116 ⟨⟨⟨by decide, by decide⟩, zX5_next⟩, lX3_40, by decide, rfl, vX5_next.1, vX5_next.2⟩ (lyx_is hy 1 5 rfl) (sx_nextf hy hr hI16930  ) (Nat.le_of_ble_eq_true rfl) ?_
          intro r I16941 J16942 Ra hq
          obtain ⟨⟨hI16941, ec, fiI16941, fjI16941⟩, rfl⟩ := hq
          rw [ec]
          clear ec Ra
          have fr16943 : fz 74 g [1, 4] I I16941 := fz_tr fr16933 (fz_mono fiI16941 (by decide))
          have fr16944 : fz 74 g [1, 20] J J16942 := fz_tr fr16934 (fz_mono fjI16941 (by decide))
          have e16945 : I16941 (ad g 6) 1 = w16880 := by rw [fz_at fiI16941 6 (by decide) (by decide)]; exact e16935
          have e16946 : I16941 (ad g 6) 2 = w16881 := by rw [fz_at fiI16941 6 (by decide) (by decide)]; exact e16936
          have e16947 : I16941 (ad g 4) 1 = w16939 := by rw [fz_at fiI16941 4 (by decide) (by decide)]; exact ew16939
          have e16948 : I16941 (ad g 1) 1 = L := hI16941.2
          have b16949 := BT_get hI16941.1 1 1 2 (0) (0) (900) (by decide) 1 (by decide) (by decide)
          rw [e16948] at b16949
          refine WP_iinc (ls' := [(0, _), (1, _), (2, _), (3, _), (4, _), (5, _), (6, _), (7, _)]) dX3_faultInParts_119 rfl (by decide) rfl ?_
          have hv16950 : (v16916 + Int32.ofInt (1)).toInt = v16916.toInt + (1) := ia_n rfl (by omega) (by omega)
          generalize v16916 + Int32.ofInt (1) = v16950 at hv16950 ⊢
          refine WP_goto 8 dX3_faultInParts_122 rfl ?_
          refine WP_iload dX3_faultInParts_8 rfl ?_
          refine WP_aload_n dX3_faultInParts_10 rfl ?_
          refine WS_call hz (i := 12) (by omega) dX3_faultInParts_11 ⟨⟨by decide, by decide⟩, zJ0_length_8abf5⟩ lX3_87 vJ0_length_8abf5 (As := []) (rest := [.int v16950]) (j_length hz (i := 12) (by omega)) rfl rfl (Nat.le_of_ble_eq_true rfl) ?_
          intro r Ia Ja Ra hq
          obtain ⟨⟨ea, eb, ec⟩, v16951, rfl, cv16951⟩ := hq
          show WP _ _ _ _ (.int _ :: _) _ _ _ _
          rw [ea, eb, ec]
          clear ea eb ec Ia Ja Ra
          have hv16951 : v16951.toInt = 3 := cv16951.trans rfl
          refine WQ_icmp_ge 125 dX3_faultInParts_14 rfl (fun c16951 => False.elim (by omega)) (fun c16951 => ?_)
          refine WP_iload dX3_faultInParts_17 rfl ?_
          refine WQ_iconst (5) (5) dX3_faultInParts_19 rfl rfl (fun v16953 hv16953 => ?_)
          refine WQ_icmp_ge 125 dX3_faultInParts_20 rfl (fun c16953 => False.elim (by omega)) (fun c16953 => ?_)
          refine WP_aload_n dX3_faultInParts_23 rfl ?_
          refine WP_iload dX3_faultInParts_24 rfl ?_
          refine WS_call hz (i := 12) (by omega) dX3_faultInParts_26 ⟨⟨by decide, by decide⟩, zJ0_charAt_5068e⟩ lX3_92 vJ0_charAt_5068e (As := [.int v16950]) (rest := []) (j_charAt hz (i := 12) (k := v16950) (by omega) (by omega) (by have z9 : ((liN.getD 12 0 : Nat) : Int) = 3 := rfl; omega)) rfl rfl (Nat.le_of_ble_eq_true rfl) ?_
          intro r Ia Ja Ra hq
          obtain ⟨⟨ea, eb, ec⟩, v16955, rfl, cv16955⟩ := hq
          show WP _ _ _ _ (.int _ :: _) _ _ _ _
          rw [ea, eb, ec]
          clear ea eb ec Ia Ja Ra
          have hv16955 : v16955.toInt = 71 := cv16955.trans (by rw [show v16950.toInt.toNat = 2 by omega]; rfl)
          refine WP_istore (ls' := [(0, _), (1, _), (2, _), (3, _), (4, _), (5, _), (6, _), (7, _)]) dX3_faultInParts_29 (by decide) rfl ?_
          refine WP_iload dX3_faultInParts_31 rfl ?_
          refine WQ_bipush (97) (97) dX3_faultInParts_33 rfl rfl (fun v16956 hv16956 => ?_)
          refine WQ_icmp_lt 49 dX3_faultInParts_35 rfl (fun c16956 => ?_) (fun c16956 => False.elim (by omega))
          refine WQ_iconst (0) (0) dX3_faultInParts_49 rfl rfl (fun v16958 hv16958 => ?_)
          refine WP_istore (ls' := [(0, _), (1, _), (2, _), (3, _), (4, _), (5, _), (6, _), (7, _)]) dX3_faultInParts_50 (by decide) rfl ?_
          refine WP_aload_n dX3_faultInParts_52 rfl ?_
          refine WP_getr dX3_faultInParts_53 fX3_15 rfl (lyx_is hy 3 3 rfl) (rfx hr 3 2 1 (by decide)) ?_
          refine WQ_geti dX3_faultInParts_56 fX3_43 rfl (lyx_is hy 1 5 rfl) (BT_get hI16941.1 1 2 3 (0) (0) (4) (by decide) 2 (by decide) (by decide)) (fun v16959 ev16959 av16959 bv16959 => ?_)
          refine WP_iload dX3_faultInParts_59 rfl ?_
          refine WQ_if_eq 68 dX3_faultInParts_61 rfl (fun c16959 => ?_) (fun c16959 => False.elim (by omega))
          refine WQ_iconst (2) (2) dX3_faultInParts_68 rfl rfl (fun v16961 hv16961 => ?_)
          refine WQ_icmp_eq 74 dX3_faultInParts_69 rfl (fun c16961 => ?_) (fun c16961 => ?_)
          · refine WP_iload dX3_faultInParts_74 rfl ?_
            refine WQ_if_eq 92 dX3_faultInParts_76 rfl (fun c16962 => ?_) (fun c16962 => False.elim (by omega))
            refine WP_aload_n dX3_faultInParts_92 rfl ?_
            refine WP_iload dX3_faultInParts_93 rfl ?_
            refine WP_iload_n dX3_faultInParts_95 rfl ?_
            refine WP_iload dX3_faultInParts_96 rfl ?_
            refine WP_aload_n dX3_faultInParts_98 rfl ?_
            refine WP_callV4 (k := 3) dX3_faultInParts_99 ⟨⟨⟨by decide, by decide⟩, zX3_faultOfNumber⟩, lX3_100, by decide, rfl, vX3_faultOfNumber.1, vX3_faultOfNumber.2⟩ (lyx_is hy 3 3 rfl) (sx_part_6_2_2 hy hr hI16941 v16955 cz v16950 (by omega) (by omega) (by omega) (by omega) (by omega) (by omega)) (Nat.le_of_ble_eq_true rfl) ?_
            intro r I16964 J16965 Ra hq
            obtain ⟨⟨hI16964, ec, fiI16964, fjI16964, ⟨pI16964, sI16964_4_0, sI16964_4_1, sI16964_6_1, sI16964_6_2⟩⟩, v16966, rfl, av16966, bv16966, cv16966⟩ := hq
            show WP _ _ _ _ (.int _ :: _) _ _ _ _
            rw [ec]
            clear ec Ra
            have fr16967 : fz 74 g [1, 4] I I16964 := fz_tr fr16943 (fz_mono fiI16964 (by decide))
            have fr16968 : fz 74 g [1, 20] J J16965 := fz_tr fr16944 (fz_mono fjI16964 (by decide))
            have e16969 : I16964 (ad g 4) 1 = w16939 := by rw [sI16964_4_1]; exact e16947
            have e16970 : I16964 (ad g 6) 1 = w16880 := by rw [sI16964_6_1]; exact e16945
            have e16971 : I16964 (ad g 6) 2 = w16881 := by rw [sI16964_6_2]; exact e16946
            have e16972 : I16964 (ad g 1) 1 = L := hI16964.2
            have b16973 := BT_get hI16964.1 1 1 2 (0) (0) (900) (by decide) 1 (by decide) (by decide)
            rw [e16972] at b16973
            obtain ⟨w16974, ew16974⟩ : ∃ w : Int32, I16964 (ad g 4) 2 = w := ⟨_, rfl⟩
            have bw16974 := BT_get hI16964.1 4 0 5 (0) (0) (1000) (by decide) 2 (by decide) (by decide)
            rw [ew16974] at bw16974
            rw [ew16974] at cv16966
            refine WP_istore (ls' := [(0, _), (1, _), (2, _), (3, _), (4, _), (5, _), (6, _), (7, _)]) dX3_faultInParts_102 (by decide) rfl ?_
            refine WP_iload dX3_faultInParts_104 rfl ?_
            refine WQ_if_eq 112 dX3_faultInParts_106 rfl (fun c16974 => ?_) (fun c16974 => ?_)
            · refine WP_aload_n dX3_faultInParts_112 rfl ?_
              refine WP_getr dX3_faultInParts_113 fX3_15 rfl (lyx_is hy 3 3 rfl) (rfx hr 3 2 1 (by decide)) ?_
              refine WP_callV0 (k := 5) dX3_faultInParts_116 ⟨⟨⟨by decide, by decide⟩, zX5_next⟩, lX3_40, by decide, rfl, vX5_next.1, vX5_next.2⟩ (lyx_is hy 1 5 rfl) (sx_nextf hy hr hI16964  ) (Nat.le_of_ble_eq_true rfl) ?_
              intro r I16976 J16977 Ra hq
              obtain ⟨⟨hI16976, ec, fiI16976, fjI16976⟩, rfl⟩ := hq
              rw [ec]
              clear ec Ra
              have fr16978 : fz 74 g [1, 4] I I16976 := fz_tr fr16967 (fz_mono fiI16976 (by decide))
              have fr16979 : fz 74 g [1, 20] J J16977 := fz_tr fr16968 (fz_mono fjI16976 (by decide))
              have e16980 : I16976 (ad g 4) 1 = w16939 := by rw [fz_at fiI16976 4 (by decide) (by decide)]; exact e16969
              have e16981 : I16976 (ad g 6) 1 = w16880 := by rw [fz_at fiI16976 6 (by decide) (by decide)]; exact e16970
              have e16982 : I16976 (ad g 6) 2 = w16881 := by rw [fz_at fiI16976 6 (by decide) (by decide)]; exact e16971
              have e16983 : I16976 (ad g 4) 2 = w16974 := by rw [fz_at fiI16976 4 (by decide) (by decide)]; exact ew16974
              have e16984 : I16976 (ad g 1) 1 = L := hI16976.2
              have b16985 := BT_get hI16976.1 1 1 2 (0) (0) (900) (by decide) 1 (by decide) (by decide)
              rw [e16984] at b16985
              refine WP_iinc (ls' := [(0, _), (1, _), (2, _), (3, _), (4, _), (5, _), (6, _), (7, _)]) dX3_faultInParts_119 rfl (by decide) rfl ?_
              have hv16986 : (v16950 + Int32.ofInt (1)).toInt = v16950.toInt + (1) := ia_n rfl (by omega) (by omega)
              generalize v16950 + Int32.ofInt (1) = v16986 at hv16986 ⊢
              refine WP_goto 8 dX3_faultInParts_122 rfl ?_
              refine WP_iload dX3_faultInParts_8 rfl ?_
              refine WP_aload_n dX3_faultInParts_10 rfl ?_
              refine WS_call hz (i := 12) (by omega) dX3_faultInParts_11 ⟨⟨by decide, by decide⟩, zJ0_length_8abf5⟩ lX3_87 vJ0_length_8abf5 (As := []) (rest := [.int v16986]) (j_length hz (i := 12) (by omega)) rfl rfl (Nat.le_of_ble_eq_true rfl) ?_
              intro r Ia Ja Ra hq
              obtain ⟨⟨ea, eb, ec⟩, v16987, rfl, cv16987⟩ := hq
              show WP _ _ _ _ (.int _ :: _) _ _ _ _
              rw [ea, eb, ec]
              clear ea eb ec Ia Ja Ra
              have hv16987 : v16987.toInt = 3 := cv16987.trans rfl
              refine WQ_icmp_ge 125 dX3_faultInParts_14 rfl (fun c16987 => ?_) (fun c16987 => False.elim (by omega))
              refine WP_aload_n dX3_faultInParts_125 rfl ?_
              refine WP_getr dX3_faultInParts_126 fX3_15 rfl (lyx_is hy 3 3 rfl) (rfx hr 3 2 1 (by decide)) ?_
              refine WQ_geti dX3_faultInParts_129 fX3_43 rfl (lyx_is hy 1 5 rfl) (BT_get hI16976.1 1 2 3 (0) (0) (4) (by decide) 2 (by decide) (by decide)) (fun v16989 ev16989 av16989 bv16989 => ?_)
              refine WQ_iconst (3) (3) dX3_faultInParts_132 rfl rfl (fun v16990 hv16990 => ?_)
              refine WQ_icmp_ne 140 dX3_faultInParts_133 rfl (fun c16990 => ?_) (fun c16990 => ?_)
              · refine WQ_iconst (1) (1) dX3_faultInParts_140 rfl rfl (fun v16992 hv16992 => ?_)
                exact WP_iret dX3_faultInParts_141 rfl ⟨⟨hI16976, rfl, fr16978, fr16979, ⟨trivial, (by rw [e16981, ew16880] <;> exact (eq32 _ _).mpr (by omega)), (by rw [e16982, ew16881] <;> exact (eq32 _ _).mpr (by omega))⟩⟩, _, rfl, by omega, by omega, by (try rw [e16980]; try rw [e16983]); omega⟩
              · refine WQ_iconst (0) (0) dX3_faultInParts_136 rfl rfl (fun v16993 hv16993 => ?_)
                refine WP_goto 141 dX3_faultInParts_137 rfl ?_
                exact WP_iret dX3_faultInParts_141 rfl ⟨⟨hI16976, rfl, fr16978, fr16979, ⟨trivial, (by rw [e16981, ew16880] <;> exact (eq32 _ _).mpr (by omega)), (by rw [e16982, ew16881] <;> exact (eq32 _ _).mpr (by omega))⟩⟩, _, rfl, by omega, by omega, by (try rw [e16980]; try rw [e16983]); omega⟩
            · refine WP_iload dX3_faultInParts_109 rfl ?_
              exact WP_iret dX3_faultInParts_111 rfl ⟨⟨hI16964, rfl, fr16967, fr16968, ⟨trivial, (by rw [e16970, ew16880] <;> exact (eq32 _ _).mpr (by omega)), (by rw [e16971, ew16881] <;> exact (eq32 _ _).mpr (by omega))⟩⟩, _, rfl, by omega, by omega, by (try rw [e16969]; try rw [ew16974]); omega⟩
          · refine WQ_iconst (1) (1) dX3_faultInParts_72 rfl rfl (fun v16994 hv16994 => ?_)
            obtain ⟨w16995, ew16995⟩ : ∃ w : Int32, I16941 (ad g 4) 2 = w := ⟨_, rfl⟩
            have bw16995 := BT_get hI16941.1 4 0 5 (0) (0) (1000) (by decide) 2 (by decide) (by decide)
            rw [ew16995] at bw16995
            exact WP_iret dX3_faultInParts_73 rfl ⟨⟨hI16941, rfl, fr16943, fr16944, ⟨trivial, (by rw [e16945, ew16880] <;> exact (eq32 _ _).mpr (by omega)), (by rw [e16946, ew16881] <;> exact (eq32 _ _).mpr (by omega))⟩⟩, _, rfl, by omega, by omega, by (try rw [e16947]; try rw [ew16995]); omega⟩
        · refine WP_iload dX3_faultInParts_109 rfl ?_
          obtain ⟨w16996, ew16996⟩ : ∃ w : Int32, I16930 (ad g 4) 2 = w := ⟨_, rfl⟩
          have bw16996 := BT_get hI16930.1 4 0 5 (0) (0) (1000) (by decide) 2 (by decide) (by decide)
          rw [ew16996] at bw16996
          exact WP_iret dX3_faultInParts_111 rfl ⟨⟨hI16930, rfl, fr16933, fr16934, ⟨trivial, (by rw [e16935, ew16880] <;> exact (eq32 _ _).mpr (by omega)), (by rw [e16936, ew16881] <;> exact (eq32 _ _).mpr (by omega))⟩⟩, _, rfl, by omega, by omega, by (try rw [ew16939]; try rw [ew16996]); omega⟩
      · refine WQ_iconst (1) (1) dX3_faultInParts_72 rfl rfl (fun v16997 hv16997 => ?_)
        obtain ⟨w16998, ew16998⟩ : ∃ w : Int32, I16908 (ad g 4) 1 = w := ⟨_, rfl⟩
        have bw16998 := BT_get hI16908.1 4 0 5 (0) (0) (1000) (by decide) 1 (by decide) (by decide)
        rw [ew16998] at bw16998
        obtain ⟨w16999, ew16999⟩ : ∃ w : Int32, I16908 (ad g 4) 2 = w := ⟨_, rfl⟩
        have bw16999 := BT_get hI16908.1 4 0 5 (0) (0) (1000) (by decide) 2 (by decide) (by decide)
        rw [ew16999] at bw16999
        exact WP_iret dX3_faultInParts_73 rfl ⟨⟨hI16908, rfl, fr16910, fr16911, ⟨trivial, (by rw [e16912, ew16880] <;> exact (eq32 _ _).mpr (by omega)), (by rw [e16913, ew16881] <;> exact (eq32 _ _).mpr (by omega))⟩⟩, _, rfl, by omega, by omega, by (try rw [ew16998]; try rw [ew16999]); omega⟩
    · refine WP_iload dX3_faultInParts_109 rfl ?_
      obtain ⟨w17000, ew17000⟩ : ∃ w : Int32, I16898 (ad g 4) 1 = w := ⟨_, rfl⟩
      have bw17000 := BT_get hI16898.1 4 0 5 (0) (0) (1000) (by decide) 1 (by decide) (by decide)
      rw [ew17000] at bw17000
      obtain ⟨w17001, ew17001⟩ : ∃ w : Int32, I16898 (ad g 4) 2 = w := ⟨_, rfl⟩
      have bw17001 := BT_get hI16898.1 4 0 5 (0) (0) (1000) (by decide) 2 (by decide) (by decide)
      rw [ew17001] at bw17001
      exact WP_iret dX3_faultInParts_111 rfl ⟨⟨hI16898, rfl, fr16901, fr16902, ⟨trivial, (by rw [e16903, ew16880] <;> exact (eq32 _ _).mpr (by omega)), (by rw [e16904, ew16881] <;> exact (eq32 _ _).mpr (by omega))⟩⟩, _, rfl, by omega, by omega, by (try rw [ew17000]; try rw [ew17001]); omega⟩
  · refine WQ_iconst (1) (1) dX3_faultInParts_72 rfl rfl (fun v17002 hv17002 => ?_)
    obtain ⟨w17003, ew17003⟩ : ∃ w : Int32, I (ad g 4) 1 = w := ⟨_, rfl⟩
    have bw17003 := BT_get hI.1 4 0 5 (0) (0) (1000) (by decide) 1 (by decide) (by decide)
    rw [ew17003] at bw17003
    obtain ⟨w17004, ew17004⟩ : ∃ w : Int32, I (ad g 4) 2 = w := ⟨_, rfl⟩
    have bw17004 := BT_get hI.1 4 0 5 (0) (0) (1000) (by decide) 2 (by decide) (by decide)
    rw [ew17004] at bw17004
    exact WP_iret dX3_faultInParts_73 rfl ⟨⟨hI, rfl, fr0, frj0, ⟨trivial, rfl, rfl⟩⟩, _, rfl, by omega, by omega, by (try rw [ew17003]; try rw [ew17004]); omega⟩
set_option maxHeartbeats 4000000 in
set_option maxRecDepth 100000 in
theorem sx_parts_6_3 {g : GG} {n : Int} {L : Int32} (hy : LyX g) {aK aV : Nat → Nat} {fo : Option Nat} (hz : HZ g aK aV fo)  {I : pI} {J : pJ} {R : pR} (hr : RfX g R) (hI : XI g n L I) (cz : Int32) (cz_lo : 3 ≤ cz.toInt) (cz_hi : cz.toInt ≤ 3) : SP g mX3_faultInParts [.ref (ad g 3), .int cz, .ref (ad g 6)] I J R (fun r I' J' R' => (XI g n L I' ∧ R' = R ∧ fz 74 g [1, 4] I I' ∧ fz 74 g [1] J J' ∧ True ∧ I' (ad g 6) 1 = I (ad g 6) 1 ∧ I' (ad g 6) 2 = I (ad g 6) 2) ∧ ∃ v : Int32, r = some (.int v) ∧ 0 ≤ v.toInt ∧ v.toInt ≤ 5 ∧ (v.toInt = 0 → (I' (ad g 4) 0).toInt ≤ 3 ∧ (I' (ad g 4) 1).toInt ≤ 6 ∧ (I' (ad g 4) 2).toInt ≤ 20)) := by
  refine SP_of ⟨by decide, rfl⟩ (Nat.le_of_ble_eq_true rfl) ?_
  have e17005 : I (ad g 1) 1 = L := hI.2
  have b17006 := BT_get hI.1 1 1 2 (0) (0) (900) (by decide) 1 (by decide) (by decide)
  rw [e17005] at b17006
  have fr0 : fz 74 g [1, 4] I I := fz_rf
  have frj0 : fz 74 g [1] J J := fz_rf
  obtain ⟨w17007, ew17007⟩ : ∃ w : Int32, I (ad g 6) 1 = w := ⟨_, rfl⟩
  have bw17007 := BT_get hI.1 6 1 2 (0) (0) (4) (by decide) 1 (by decide) (by decide)
  rw [ew17007] at bw17007
  obtain ⟨w17008, ew17008⟩ : ∃ w : Int32, I (ad g 6) 2 = w := ⟨_, rfl⟩
  have bw17008 := BT_get hI.1 6 2 3 (0) (0) (3) (by decide) 2 (by decide) (by decide)
  rw [ew17008] at bw17008
  refine WP_iload_n dX3_faultInParts_0 rfl ?_
  refine WP_callS1 dX3_faultInParts_1 ⟨⟨⟨by decide, by decide⟩, zX3_shapeOf⟩, lX3_84, tX3_shapeOf⟩ (sx_shapeOf hy hz hr hI cz (by omega) (by omega)) (Nat.le_of_ble_eq_true rfl) ?_
  intro r Ia Ja Ra hq
  obtain ⟨⟨ea, eb, ec⟩, rfl⟩ := hq
  show WP _ _ _ _ (.ref _ :: _) _ _ _ _
  rw [show 10 + cz.toInt.toNat = 13 by omega]
  rw [ea, eb, ec]
  clear ea eb ec Ia Ja Ra
  refine WP_astore_n (ls' := [(0, _), (1, _), (2, _), (3, _)]) dX3_faultInParts_4 (by decide) rfl ?_
  refine WQ_iconst (0) (0) dX3_faultInParts_5 rfl rfl (fun v17009 hv17009 => ?_)
  refine WP_istore (ls' := [(0, _), (1, _), (2, _), (3, _), (4, _)]) dX3_faultInParts_6 (by decide) rfl ?_
  refine WP_iload dX3_faultInParts_8 rfl ?_
  refine WP_aload_n dX3_faultInParts_10 rfl ?_
  refine WS_call hz (i := 13) (by omega) dX3_faultInParts_11 ⟨⟨by decide, by decide⟩, zJ0_length_8abf5⟩ lX3_87 vJ0_length_8abf5 (As := []) (rest := [.int v17009]) (j_length hz (i := 13) (by omega)) rfl rfl (Nat.le_of_ble_eq_true rfl) ?_
  intro r Ia Ja Ra hq
  obtain ⟨⟨ea, eb, ec⟩, v17010, rfl, cv17010⟩ := hq
  show WP _ _ _ _ (.int _ :: _) _ _ _ _
  rw [ea, eb, ec]
  clear ea eb ec Ia Ja Ra
  have hv17010 : v17010.toInt = 3 := cv17010.trans rfl
  refine WQ_icmp_ge 125 dX3_faultInParts_14 rfl (fun c17010 => False.elim (by omega)) (fun c17010 => ?_)
  refine WP_iload dX3_faultInParts_17 rfl ?_
  refine WQ_iconst (5) (5) dX3_faultInParts_19 rfl rfl (fun v17012 hv17012 => ?_)
  refine WQ_icmp_ge 125 dX3_faultInParts_20 rfl (fun c17012 => False.elim (by omega)) (fun c17012 => ?_)
  refine WP_aload_n dX3_faultInParts_23 rfl ?_
  refine WP_iload dX3_faultInParts_24 rfl ?_
  refine WS_call hz (i := 13) (by omega) dX3_faultInParts_26 ⟨⟨by decide, by decide⟩, zJ0_charAt_5068e⟩ lX3_92 vJ0_charAt_5068e (As := [.int v17009]) (rest := []) (j_charAt hz (i := 13) (k := v17009) (by omega) (by omega) (by have z9 : ((liN.getD 13 0 : Nat) : Int) = 3 := rfl; omega)) rfl rfl (Nat.le_of_ble_eq_true rfl) ?_
  intro r Ia Ja Ra hq
  obtain ⟨⟨ea, eb, ec⟩, v17014, rfl, cv17014⟩ := hq
  show WP _ _ _ _ (.int _ :: _) _ _ _ _
  rw [ea, eb, ec]
  clear ea eb ec Ia Ja Ra
  have hv17014 : v17014.toInt = 115 := cv17014.trans (by rw [show v17009.toInt.toNat = 0 by omega]; rfl)
  refine WP_istore (ls' := [(0, _), (1, _), (2, _), (3, _), (4, _), (5, _)]) dX3_faultInParts_29 (by decide) rfl ?_
  refine WP_iload dX3_faultInParts_31 rfl ?_
  refine WQ_bipush (97) (97) dX3_faultInParts_33 rfl rfl (fun v17015 hv17015 => ?_)
  refine WQ_icmp_lt 49 dX3_faultInParts_35 rfl (fun c17015 => False.elim (by omega)) (fun c17015 => ?_)
  refine WP_iload dX3_faultInParts_38 rfl ?_
  refine WQ_bipush (122) (122) dX3_faultInParts_40 rfl rfl (fun v17017 hv17017 => ?_)
  refine WQ_icmp_gt 49 dX3_faultInParts_42 rfl (fun c17017 => False.elim (by omega)) (fun c17017 => ?_)
  refine WQ_iconst (1) (1) dX3_faultInParts_45 rfl rfl (fun v17019 hv17019 => ?_)
  refine WP_goto 50 dX3_faultInParts_46 rfl ?_
  refine WP_istore (ls' := [(0, _), (1, _), (2, _), (3, _), (4, _), (5, _), (6, _)]) dX3_faultInParts_50 (by decide) rfl ?_
  refine WP_aload_n dX3_faultInParts_52 rfl ?_
  refine WP_getr dX3_faultInParts_53 fX3_15 rfl (lyx_is hy 3 3 rfl) (rfx hr 3 2 1 (by decide)) ?_
  refine WQ_geti dX3_faultInParts_56 fX3_43 rfl (lyx_is hy 1 5 rfl) (BT_get hI.1 1 2 3 (0) (0) (4) (by decide) 2 (by decide) (by decide)) (fun v17020 ev17020 av17020 bv17020 => ?_)
  refine WP_iload dX3_faultInParts_59 rfl ?_
  refine WQ_if_eq 68 dX3_faultInParts_61 rfl (fun c17020 => False.elim (by omega)) (fun c17020 => ?_)
  refine WQ_iconst (1) (1) dX3_faultInParts_64 rfl rfl (fun v17022 hv17022 => ?_)
  refine WP_goto 69 dX3_faultInParts_65 rfl ?_
  refine WQ_icmp_eq 74 dX3_faultInParts_69 rfl (fun c17022 => ?_) (fun c17022 => ?_)
  · refine WP_iload dX3_faultInParts_74 rfl ?_
    refine WQ_if_eq 92 dX3_faultInParts_76 rfl (fun c17023 => False.elim (by omega)) (fun c17023 => ?_)
    refine WP_aload_n dX3_faultInParts_79 rfl ?_
    refine WP_iload dX3_faultInParts_80 rfl ?_
    refine WP_iload_n dX3_faultInParts_82 rfl ?_
    refine WP_iload dX3_faultInParts_83 rfl ?_
    refine WP_aload_n dX3_faultInParts_85 rfl ?_
    refine WP_callV4 (k := 3) dX3_faultInParts_86 ⟨⟨⟨by decide, by decide⟩, zX3_faultOfName⟩, lX3_96, by decide, rfl, vX3_faultOfName.1, vX3_faultOfName.2⟩ (lyx_is hy 3 3 rfl) (sx_part_6_3_0 hy hr hI v17014 cz v17009 (by omega) (by omega) (by omega) (by omega) (by omega) (by omega)) (Nat.le_of_ble_eq_true rfl) ?_
    intro r I17025 J17026 Ra hq
    obtain ⟨⟨hI17025, ec, fiI17025, fjI17025, ⟨pI17025, sI17025_6_1, sI17025_6_2⟩⟩, v17027, rfl, av17027, bv17027, cv17027⟩ := hq
    show WP _ _ _ _ (.int _ :: _) _ _ _ _
    rw [ec]
    clear ec Ra
    have fr17028 : fz 74 g [1, 4] I I17025 := fz_tr fr0 (fz_mono fiI17025 (by decide))
    have fr17029 : fz 74 g [1] J J17026 := fz_tr frj0 (fz_mono fjI17025 (by decide))
    have e17030 : I17025 (ad g 6) 1 = w17007 := by rw [sI17025_6_1]; exact ew17007
    have e17031 : I17025 (ad g 6) 2 = w17008 := by rw [sI17025_6_2]; exact ew17008
    have e17032 : I17025 (ad g 1) 1 = L := hI17025.2
    have b17033 := BT_get hI17025.1 1 1 2 (0) (0) (900) (by decide) 1 (by decide) (by decide)
    rw [e17032] at b17033
    obtain ⟨w17034, ew17034⟩ : ∃ w : Int32, I17025 (ad g 4) 0 = w := ⟨_, rfl⟩
    have bw17034 := BT_get hI17025.1 4 0 5 (0) (0) (1000) (by decide) 0 (by decide) (by decide)
    rw [ew17034] at bw17034
    rw [ew17034] at cv17027
    refine WP_goto 102 dX3_faultInParts_89 rfl ?_
    refine WP_istore (ls' := [(0, _), (1, _), (2, _), (3, _), (4, _), (5, _), (6, _), (7, _)]) dX3_faultInParts_102 (by decide) rfl ?_
    refine WP_iload dX3_faultInParts_104 rfl ?_
    refine WQ_if_eq 112 dX3_faultInParts_106 rfl (fun c17034 => ?_) (fun c17034 => ?_)
    · refine WP_aload_n dX3_faultInParts_112 rfl ?_
      refine WP_getr dX3_faultInParts_113 fX3_15 rfl (lyx_is hy 3 3 rfl) (rfx hr 3 2 1 (by decide)) ?_
      refine WP_callV0 (k := 5) dX3_faultInParts_116 ⟨⟨⟨by decide, by decide⟩, zX5_next⟩, lX3_40, by decide, rfl, vX5_next.1, vX5_next.2⟩ (lyx_is hy 1 5 rfl) (sx_nextf hy hr hI17025  ) (Nat.le_of_ble_eq_true rfl) ?_
      intro r I17036 J17037 Ra hq
      obtain ⟨⟨hI17036, ec, fiI17036, fjI17036⟩, rfl⟩ := hq
      rw [ec]
      clear ec Ra
      have fr17038 : fz 74 g [1, 4] I I17036 := fz_tr fr17028 (fz_mono fiI17036 (by decide))
      have fr17039 : fz 74 g [1] J J17037 := fz_tr fr17029 (fz_mono fjI17036 (by decide))
      have e17040 : I17036 (ad g 6) 1 = w17007 := by rw [fz_at fiI17036 6 (by decide) (by decide)]; exact e17030
      have e17041 : I17036 (ad g 6) 2 = w17008 := by rw [fz_at fiI17036 6 (by decide) (by decide)]; exact e17031
      have e17042 : I17036 (ad g 4) 0 = w17034 := by rw [fz_at fiI17036 4 (by decide) (by decide)]; exact ew17034
      have e17043 : I17036 (ad g 1) 1 = L := hI17036.2
      have b17044 := BT_get hI17036.1 1 1 2 (0) (0) (900) (by decide) 1 (by decide) (by decide)
      rw [e17043] at b17044
      refine WP_iinc (ls' := [(0, _), (1, _), (2, _), (3, _), (4, _), (5, _), (6, _), (7, _)]) dX3_faultInParts_119 rfl (by decide) rfl ?_
      have hv17045 : (v17009 + Int32.ofInt (1)).toInt = v17009.toInt + (1) := ia_n rfl (by omega) (by omega)
      generalize v17009 + Int32.ofInt (1) = v17045 at hv17045 ⊢
      refine WP_goto 8 dX3_faultInParts_122 rfl ?_
      refine WP_iload dX3_faultInParts_8 rfl ?_
      refine WP_aload_n dX3_faultInParts_10 rfl ?_
      refine WS_call hz (i := 13) (by omega) dX3_faultInParts_11 ⟨⟨by decide, by decide⟩, zJ0_length_8abf5⟩ lX3_87 vJ0_length_8abf5 (As := []) (rest := [.int v17045]) (j_length hz (i := 13) (by omega)) rfl rfl (Nat.le_of_ble_eq_true rfl) ?_
      intro r Ia Ja Ra hq
      obtain ⟨⟨ea, eb, ec⟩, v17046, rfl, cv17046⟩ := hq
      show WP _ _ _ _ (.int _ :: _) _ _ _ _
      rw [ea, eb, ec]
      clear ea eb ec Ia Ja Ra
      have hv17046 : v17046.toInt = 3 := cv17046.trans rfl
      refine WQ_icmp_ge 125 dX3_faultInParts_14 rfl (fun c17046 => False.elim (by omega)) (fun c17046 => ?_)
      refine WP_iload dX3_faultInParts_17 rfl ?_
      refine WQ_iconst (5) (5) dX3_faultInParts_19 rfl rfl (fun v17048 hv17048 => ?_)
      refine WQ_icmp_ge 125 dX3_faultInParts_20 rfl (fun c17048 => False.elim (by omega)) (fun c17048 => ?_)
      refine WP_aload_n dX3_faultInParts_23 rfl ?_
      refine WP_iload dX3_faultInParts_24 rfl ?_
      refine WS_call hz (i := 13) (by omega) dX3_faultInParts_26 ⟨⟨by decide, by decide⟩, zJ0_charAt_5068e⟩ lX3_92 vJ0_charAt_5068e (As := [.int v17045]) (rest := []) (j_charAt hz (i := 13) (k := v17045) (by omega) (by omega) (by have z9 : ((liN.getD 13 0 : Nat) : Int) = 3 := rfl; omega)) rfl rfl (Nat.le_of_ble_eq_true rfl) ?_
      intro r Ia Ja Ra hq
      obtain ⟨⟨ea, eb, ec⟩, v17050, rfl, cv17050⟩ := hq
      show WP _ _ _ _ (.int _ :: _) _ _ _ _
      rw [ea, eb, ec]
      clear ea eb ec Ia Ja Ra
      have hv17050 : v17050.toInt = 68 := cv17050.trans (by rw [show v17045.toInt.toNat = 1 by omega]; rfl)
      refine WP_istore (ls' := [(0, _), (1, _), (2, _), (3, _), (4, _), (5, _), (6, _), (7, _)]) dX3_faultInParts_29 (by decide) rfl ?_
      refine WP_iload dX3_faultInParts_31 rfl ?_
      refine WQ_bipush (97) (97) dX3_faultInParts_33 rfl rfl (fun v17051 hv17051 => ?_)
      refine WQ_icmp_lt 49 dX3_faultInParts_35 rfl (fun c17051 => ?_) (fun c17051 => False.elim (by omega))
      refine WQ_iconst (0) (0) dX3_faultInParts_49 rfl rfl (fun v17053 hv17053 => ?_)
      refine WP_istore (ls' := [(0, _), (1, _), (2, _), (3, _), (4, _), (5, _), (6, _), (7, _)]) dX3_faultInParts_50 (by decide) rfl ?_
      refine WP_aload_n dX3_faultInParts_52 rfl ?_
      refine WP_getr dX3_faultInParts_53 fX3_15 rfl (lyx_is hy 3 3 rfl) (rfx hr 3 2 1 (by decide)) ?_
      refine WQ_geti dX3_faultInParts_56 fX3_43 rfl (lyx_is hy 1 5 rfl) (BT_get hI17036.1 1 2 3 (0) (0) (4) (by decide) 2 (by decide) (by decide)) (fun v17054 ev17054 av17054 bv17054 => ?_)
      refine WP_iload dX3_faultInParts_59 rfl ?_
      refine WQ_if_eq 68 dX3_faultInParts_61 rfl (fun c17054 => ?_) (fun c17054 => False.elim (by omega))
      refine WQ_iconst (2) (2) dX3_faultInParts_68 rfl rfl (fun v17056 hv17056 => ?_)
      refine WQ_icmp_eq 74 dX3_faultInParts_69 rfl (fun c17056 => ?_) (fun c17056 => ?_)
      · refine WP_iload dX3_faultInParts_74 rfl ?_
        refine WQ_if_eq 92 dX3_faultInParts_76 rfl (fun c17057 => ?_) (fun c17057 => False.elim (by omega))
        refine WP_aload_n dX3_faultInParts_92 rfl ?_
        refine WP_iload dX3_faultInParts_93 rfl ?_
        refine WP_iload_n dX3_faultInParts_95 rfl ?_
        refine WP_iload dX3_faultInParts_96 rfl ?_
        refine WP_aload_n dX3_faultInParts_98 rfl ?_
        refine WP_callV4 (k := 3) dX3_faultInParts_99 ⟨⟨⟨by decide, by decide⟩, zX3_faultOfNumber⟩, lX3_100, by decide, rfl, vX3_faultOfNumber.1, vX3_faultOfNumber.2⟩ (lyx_is hy 3 3 rfl) (sx_part_6_3_1 hy hr hI17036 v17050 cz v17045 (by omega) (by omega) (by omega) (by omega) (by omega) (by omega) (by rw [e17042]; omega)) (Nat.le_of_ble_eq_true rfl) ?_
        intro r I17059 J17060 Ra hq
        obtain ⟨⟨hI17059, ec, fiI17059, fjI17059, ⟨pI17059, sI17059_4_0, sI17059_6_1, sI17059_6_2⟩⟩, v17061, rfl, av17061, bv17061, cv17061⟩ := hq
        show WP _ _ _ _ (.int _ :: _) _ _ _ _
        rw [ec]
        clear ec Ra
        have fr17062 : fz 74 g [1, 4] I I17059 := fz_tr fr17038 (fz_mono fiI17059 (by decide))
        have fr17063 : fz 74 g [1] J J17060 := fz_tr fr17039 (fz_mono fjI17059 (by decide))
        have e17064 : I17059 (ad g 4) 0 = w17034 := by rw [sI17059_4_0]; exact e17042
        have e17065 : I17059 (ad g 6) 1 = w17007 := by rw [sI17059_6_1]; exact e17040
        have e17066 : I17059 (ad g 6) 2 = w17008 := by rw [sI17059_6_2]; exact e17041
        have e17067 : I17059 (ad g 1) 1 = L := hI17059.2
        have b17068 := BT_get hI17059.1 1 1 2 (0) (0) (900) (by decide) 1 (by decide) (by decide)
        rw [e17067] at b17068
        obtain ⟨w17069, ew17069⟩ : ∃ w : Int32, I17059 (ad g 4) 1 = w := ⟨_, rfl⟩
        have bw17069 := BT_get hI17059.1 4 0 5 (0) (0) (1000) (by decide) 1 (by decide) (by decide)
        rw [ew17069] at bw17069
        rw [ew17069] at cv17061
        refine WP_istore (ls' := [(0, _), (1, _), (2, _), (3, _), (4, _), (5, _), (6, _), (7, _)]) dX3_faultInParts_102 (by decide) rfl ?_
        refine WP_iload dX3_faultInParts_104 rfl ?_
        refine WQ_if_eq 112 dX3_faultInParts_106 rfl (fun c17069 => ?_) (fun c17069 => ?_)
        · refine WP_aload_n dX3_faultInParts_112 rfl ?_
          refine WP_getr dX3_faultInParts_113 fX3_15 rfl (lyx_is hy 3 3 rfl) (rfx hr 3 2 1 (by decide)) ?_
          refine WP_callV0 (k := 5) dX3_faultInParts_116 ⟨⟨⟨by decide, by decide⟩, zX5_next⟩, lX3_40, by decide, rfl, vX5_next.1, vX5_next.2⟩ (lyx_is hy 1 5 rfl) (sx_nextf hy hr hI17059  ) (Nat.le_of_ble_eq_true rfl) ?_
          intro r I17071 J17072 Ra hq
          obtain ⟨⟨hI17071, ec, fiI17071, fjI17071⟩, rfl⟩ := hq
          rw [ec]
          clear ec Ra
          have fr17073 : fz 74 g [1, 4] I I17071 := fz_tr fr17062 (fz_mono fiI17071 (by decide))
          have fr17074 : fz 74 g [1] J J17072 := fz_tr fr17063 (fz_mono fjI17071 (by decide))
          have e17075 : I17071 (ad g 4) 0 = w17034 := by rw [fz_at fiI17071 4 (by decide) (by decide)]; exact e17064
          have e17076 : I17071 (ad g 6) 1 = w17007 := by rw [fz_at fiI17071 6 (by decide) (by decide)]; exact e17065
          have e17077 : I17071 (ad g 6) 2 = w17008 := by rw [fz_at fiI17071 6 (by decide) (by decide)]; exact e17066
          have e17078 : I17071 (ad g 4) 1 = w17069 := by rw [fz_at fiI17071 4 (by decide) (by decide)]; exact ew17069
          have e17079 : I17071 (ad g 1) 1 = L := hI17071.2
          have b17080 := BT_get hI17071.1 1 1 2 (0) (0) (900) (by decide) 1 (by decide) (by decide)
          rw [e17079] at b17080
          refine WP_iinc (ls' := [(0, _), (1, _), (2, _), (3, _), (4, _), (5, _), (6, _), (7, _)]) dX3_faultInParts_119 rfl (by decide) rfl ?_
          have hv17081 : (v17045 + Int32.ofInt (1)).toInt = v17045.toInt + (1) := ia_n rfl (by omega) (by omega)
          generalize v17045 + Int32.ofInt (1) = v17081 at hv17081 ⊢
          refine WP_goto 8 dX3_faultInParts_122 rfl ?_
          refine WP_iload dX3_faultInParts_8 rfl ?_
          refine WP_aload_n dX3_faultInParts_10 rfl ?_
          refine WS_call hz (i := 13) (by omega) dX3_faultInParts_11 ⟨⟨by decide, by decide⟩, zJ0_length_8abf5⟩ lX3_87 vJ0_length_8abf5 (As := []) (rest := [.int v17081]) (j_length hz (i := 13) (by omega)) rfl rfl (Nat.le_of_ble_eq_true rfl) ?_
          intro r Ia Ja Ra hq
          obtain ⟨⟨ea, eb, ec⟩, v17082, rfl, cv17082⟩ := hq
          show WP _ _ _ _ (.int _ :: _) _ _ _ _
          rw [ea, eb, ec]
          clear ea eb ec Ia Ja Ra
          have hv17082 : v17082.toInt = 3 := cv17082.trans rfl
          refine WQ_icmp_ge 125 dX3_faultInParts_14 rfl (fun c17082 => False.elim (by omega)) (fun c17082 => ?_)
          refine WP_iload dX3_faultInParts_17 rfl ?_
          refine WQ_iconst (5) (5) dX3_faultInParts_19 rfl rfl (fun v17084 hv17084 => ?_)
          refine WQ_icmp_ge 125 dX3_faultInParts_20 rfl (fun c17084 => False.elim (by omega)) (fun c17084 => ?_)
          refine WP_aload_n dX3_faultInParts_23 rfl ?_
          refine WP_iload dX3_faultInParts_24 rfl ?_
          refine WS_call hz (i := 13) (by omega) dX3_faultInParts_26 ⟨⟨by decide, by decide⟩, zJ0_charAt_5068e⟩ lX3_92 vJ0_charAt_5068e (As := [.int v17081]) (rest := []) (j_charAt hz (i := 13) (k := v17081) (by omega) (by omega) (by have z9 : ((liN.getD 13 0 : Nat) : Int) = 3 := rfl; omega)) rfl rfl (Nat.le_of_ble_eq_true rfl) ?_
          intro r Ia Ja Ra hq
          obtain ⟨⟨ea, eb, ec⟩, v17086, rfl, cv17086⟩ := hq
          show WP _ _ _ _ (.int _ :: _) _ _ _ _
          rw [ea, eb, ec]
          clear ea eb ec Ia Ja Ra
          have hv17086 : v17086.toInt = 69 := cv17086.trans (by rw [show v17081.toInt.toNat = 2 by omega]; rfl)
          refine WP_istore (ls' := [(0, _), (1, _), (2, _), (3, _), (4, _), (5, _), (6, _), (7, _)]) dX3_faultInParts_29 (by decide) rfl ?_
          refine WP_iload dX3_faultInParts_31 rfl ?_
          refine WQ_bipush (97) (97) dX3_faultInParts_33 rfl rfl (fun v17087 hv17087 => ?_)
          refine WQ_icmp_lt 49 dX3_faultInParts_35 rfl (fun c17087 => ?_) (fun c17087 => False.elim (by omega))
          refine WQ_iconst (0) (0) dX3_faultInParts_49 rfl rfl (fun v17089 hv17089 => ?_)
          refine WP_istore (ls' := [(0, _), (1, _), (2, _), (3, _), (4, _), (5, _), (6, _), (7, _)]) dX3_faultInParts_50 (by decide) rfl ?_
          refine WP_aload_n dX3_faultInParts_52 rfl ?_
          refine WP_getr dX3_faultInParts_53 fX3_15 rfl (lyx_is hy 3 3 rfl) (rfx hr 3 2 1 (by decide)) ?_
          refine WQ_geti dX3_faultInParts_56 fX3_43 rfl (lyx_is hy 1 5 rfl) (BT_get hI17071.1 1 2 3 (0) (0) (4) (by decide) 2 (by decide) (by decide)) (fun v17090 ev17090 av17090 bv17090 => ?_)
          refine WP_iload dX3_faultInParts_59 rfl ?_
          refine WQ_if_eq 68 dX3_faultInParts_61 rfl (fun c17090 => ?_) (fun c17090 => False.elim (by omega))
          refine WQ_iconst (2) (2) dX3_faultInParts_68 rfl rfl (fun v17092 hv17092 => ?_)
          refine WQ_icmp_eq 74 dX3_faultInParts_69 rfl (fun c17092 => ?_) (fun c17092 => ?_)
          · refine WP_iload dX3_faultInParts_74 rfl ?_
            refine WQ_if_eq 92 dX3_faultInParts_76 rfl (fun c17093 => ?_) (fun c17093 => False.elim (by omega))
            refine WP_aload_n dX3_faultInParts_92 rfl ?_
            refine WP_iload dX3_faultInParts_93 rfl ?_
            refine WP_iload_n dX3_faultInParts_95 rfl ?_
            refine WP_iload dX3_faultInParts_96 rfl ?_
            refine WP_aload_n dX3_faultInParts_98 rfl ?_
            refine WP_callV4 (k := 3) dX3_faultInParts_99 ⟨⟨⟨by decide, by decide⟩, zX3_faultOfNumber⟩, lX3_100, by decide, rfl, vX3_faultOfNumber.1, vX3_faultOfNumber.2⟩ (lyx_is hy 3 3 rfl) (sx_part_6_3_2 hy hr hI17071 v17086 cz v17081 (by omega) (by omega) (by omega) (by omega) (by omega) (by omega)) (Nat.le_of_ble_eq_true rfl) ?_
            intro r I17095 J17096 Ra hq
            obtain ⟨⟨hI17095, ec, fiI17095, fjI17095, ⟨pI17095, sI17095_4_0, sI17095_4_1, sI17095_6_1, sI17095_6_2⟩⟩, v17097, rfl, av17097, bv17097, cv17097⟩ := hq
            show WP _ _ _ _ (.int _ :: _) _ _ _ _
            rw [ec]
            clear ec Ra
            have fr17098 : fz 74 g [1, 4] I I17095 := fz_tr fr17073 (fz_mono fiI17095 (by decide))
            have fr17099 : fz 74 g [1] J J17096 := fz_tr fr17074 (fz_mono fjI17095 (by decide))
            have e17100 : I17095 (ad g 4) 0 = w17034 := by rw [sI17095_4_0]; exact e17075
            have e17101 : I17095 (ad g 4) 1 = w17069 := by rw [sI17095_4_1]; exact e17078
            have e17102 : I17095 (ad g 6) 1 = w17007 := by rw [sI17095_6_1]; exact e17076
            have e17103 : I17095 (ad g 6) 2 = w17008 := by rw [sI17095_6_2]; exact e17077
            have e17104 : I17095 (ad g 1) 1 = L := hI17095.2
            have b17105 := BT_get hI17095.1 1 1 2 (0) (0) (900) (by decide) 1 (by decide) (by decide)
            rw [e17104] at b17105
            obtain ⟨w17106, ew17106⟩ : ∃ w : Int32, I17095 (ad g 4) 2 = w := ⟨_, rfl⟩
            have bw17106 := BT_get hI17095.1 4 0 5 (0) (0) (1000) (by decide) 2 (by decide) (by decide)
            rw [ew17106] at bw17106
            rw [ew17106] at cv17097
            refine WP_istore (ls' := [(0, _), (1, _), (2, _), (3, _), (4, _), (5, _), (6, _), (7, _)]) dX3_faultInParts_102 (by decide) rfl ?_
            refine WP_iload dX3_faultInParts_104 rfl ?_
            refine WQ_if_eq 112 dX3_faultInParts_106 rfl (fun c17106 => ?_) (fun c17106 => ?_)
            · refine WP_aload_n dX3_faultInParts_112 rfl ?_
              refine WP_getr dX3_faultInParts_113 fX3_15 rfl (lyx_is hy 3 3 rfl) (rfx hr 3 2 1 (by decide)) ?_
              refine WP_callV0 (k := 5) dX3_faultInParts_116 ⟨⟨⟨by decide, by decide⟩, zX5_next⟩, lX3_40, by decide, rfl, vX5_next.1, vX5_next.2⟩ (lyx_is hy 1 5 rfl) (sx_nextf hy hr hI17095  ) (Nat.le_of_ble_eq_true rfl) ?_
              intro r I17108 J17109 Ra hq
              obtain ⟨⟨hI17108, ec, fiI17108, fjI17108⟩, rfl⟩ := hq
              rw [ec]
              clear ec Ra
              have fr17110 : fz 74 g [1, 4] I I17108 := fz_tr fr17098 (fz_mono fiI17108 (by decide))
              have fr17111 : fz 74 g [1] J J17109 := fz_tr fr17099 (fz_mono fjI17108 (by decide))
              have e17112 : I17108 (ad g 4) 0 = w17034 := by rw [fz_at fiI17108 4 (by decide) (by decide)]; exact e17100
              have e17113 : I17108 (ad g 4) 1 = w17069 := by rw [fz_at fiI17108 4 (by decide) (by decide)]; exact e17101
              have e17114 : I17108 (ad g 6) 1 = w17007 := by rw [fz_at fiI17108 6 (by decide) (by decide)]; exact e17102
              have e17115 : I17108 (ad g 6) 2 = w17008 := by rw [fz_at fiI17108 6 (by decide) (by decide)]; exact e17103
              have e17116 : I17108 (ad g 4) 2 = w17106 := by rw [fz_at fiI17108 4 (by decide) (by decide)]; exact ew17106
              have e17117 : I17108 (ad g 1) 1 = L := hI17108.2
              have b17118 := BT_get hI17108.1 1 1 2 (0) (0) (900) (by decide) 1 (by decide) (by decide)
              rw [e17117] at b17118
              refine WP_iinc (ls' := [(0, _), (1, _), (2, _), (3, _), (4, _), (5, _), (6, _), (7, _)]) dX3_faultInParts_119 rfl (by decide) rfl ?_
              have hv17119 : (v17081 + Int32.ofInt (1)).toInt = v17081.toInt + (1) := ia_n rfl (by omega) (by omega)
              generalize v17081 + Int32.ofInt (1) = v17119 at hv17119 ⊢
              refine WP_goto 8 dX3_faultInParts_122 rfl ?_
              refine WP_iload dX3_faultInParts_8 rfl ?_
              refine WP_aload_n dX3_faultInParts_10 rfl ?_
              refine WS_call hz (i := 13) (by omega) dX3_faultInParts_11 ⟨⟨by decide, by decide⟩, zJ0_length_8abf5⟩ lX3_87 vJ0_length_8abf5 (As := []) (rest := [.int v17119]) (j_length hz (i := 13) (by omega)) rfl rfl (Nat.le_of_ble_eq_true rfl) ?_
              intro r Ia Ja Ra hq
              obtain ⟨⟨ea, eb, ec⟩, v17120, rfl, cv17120⟩ := hq
              show WP _ _ _ _ (.int _ :: _) _ _ _ _
              rw [ea, eb, ec]
              clear ea eb ec Ia Ja Ra
              have hv17120 : v17120.toInt = 3 := cv17120.trans rfl
              refine WQ_icmp_ge 125 dX3_faultInParts_14 rfl (fun c17120 => ?_) (fun c17120 => False.elim (by omega))
              refine WP_aload_n dX3_faultInParts_125 rfl ?_
              refine WP_getr dX3_faultInParts_126 fX3_15 rfl (lyx_is hy 3 3 rfl) (rfx hr 3 2 1 (by decide)) ?_
              refine WQ_geti dX3_faultInParts_129 fX3_43 rfl (lyx_is hy 1 5 rfl) (BT_get hI17108.1 1 2 3 (0) (0) (4) (by decide) 2 (by decide) (by decide)) (fun v17122 ev17122 av17122 bv17122 => ?_)
              refine WQ_iconst (3) (3) dX3_faultInParts_132 rfl rfl (fun v17123 hv17123 => ?_)
              refine WQ_icmp_ne 140 dX3_faultInParts_133 rfl (fun c17123 => ?_) (fun c17123 => ?_)
              · refine WQ_iconst (1) (1) dX3_faultInParts_140 rfl rfl (fun v17125 hv17125 => ?_)
                exact WP_iret dX3_faultInParts_141 rfl ⟨⟨hI17108, rfl, fr17110, fr17111, ⟨trivial, (by rw [e17114, ew17007] <;> exact (eq32 _ _).mpr (by omega)), (by rw [e17115, ew17008] <;> exact (eq32 _ _).mpr (by omega))⟩⟩, _, rfl, by omega, by omega, by (try rw [e17112]; try rw [e17113]; try rw [e17116]); omega⟩
              · refine WQ_iconst (0) (0) dX3_faultInParts_136 rfl rfl (fun v17126 hv17126 => ?_)
                refine WP_goto 141 dX3_faultInParts_137 rfl ?_
                exact WP_iret dX3_faultInParts_141 rfl ⟨⟨hI17108, rfl, fr17110, fr17111, ⟨trivial, (by rw [e17114, ew17007] <;> exact (eq32 _ _).mpr (by omega)), (by rw [e17115, ew17008] <;> exact (eq32 _ _).mpr (by omega))⟩⟩, _, rfl, by omega, by omega, by (try rw [e17112]; try rw [e17113]; try rw [e17116]); omega⟩
            · refine WP_iload dX3_faultInParts_109 rfl ?_
              exact WP_iret dX3_faultInParts_111 rfl ⟨⟨hI17095, rfl, fr17098, fr17099, ⟨trivial, (by rw [e17102, ew17007] <;> exact (eq32 _ _).mpr (by omega)), (by rw [e17103, ew17008] <;> exact (eq32 _ _).mpr (by omega))⟩⟩, _, rfl, by omega, by omega, by (try rw [e17100]; try rw [e17101]; try rw [ew17106]); omega⟩
          · refine WQ_iconst (1) (1) dX3_faultInParts_72 rfl rfl (fun v17127 hv17127 => ?_)
            obtain ⟨w17128, ew17128⟩ : ∃ w : Int32, I17071 (ad g 4) 2 = w := ⟨_, rfl⟩
            have bw17128 := BT_get hI17071.1 4 0 5 (0) (0) (1000) (by decide) 2 (by decide) (by decide)
            rw [ew17128] at bw17128
            exact WP_iret dX3_faultInParts_73 rfl ⟨⟨hI17071, rfl, fr17073, fr17074, ⟨trivial, (by rw [e17076, ew17007] <;> exact (eq32 _ _).mpr (by omega)), (by rw [e17077, ew17008] <;> exact (eq32 _ _).mpr (by omega))⟩⟩, _, rfl, by omega, by omega, by (try rw [e17075]; try rw [e17078]; try rw [ew17128]); omega⟩
        · refine WP_iload dX3_faultInParts_109 rfl ?_
          obtain ⟨w17129, ew17129⟩ : ∃ w : Int32, I17059 (ad g 4) 2 = w := ⟨_, rfl⟩
          have bw17129 := BT_get hI17059.1 4 0 5 (0) (0) (1000) (by decide) 2 (by decide) (by decide)
          rw [ew17129] at bw17129
          exact WP_iret dX3_faultInParts_111 rfl ⟨⟨hI17059, rfl, fr17062, fr17063, ⟨trivial, (by rw [e17065, ew17007] <;> exact (eq32 _ _).mpr (by omega)), (by rw [e17066, ew17008] <;> exact (eq32 _ _).mpr (by omega))⟩⟩, _, rfl, by omega, by omega, by (try rw [e17064]; try rw [ew17069]; try rw [ew17129]); omega⟩
      · refine WQ_iconst (1) (1) dX3_faultInParts_72 rfl rfl (fun v17130 hv17130 => ?_)
        obtain ⟨w17131, ew17131⟩ : ∃ w : Int32, I17036 (ad g 4) 1 = w := ⟨_, rfl⟩
        have bw17131 := BT_get hI17036.1 4 0 5 (0) (0) (1000) (by decide) 1 (by decide) (by decide)
        rw [ew17131] at bw17131
        obtain ⟨w17132, ew17132⟩ : ∃ w : Int32, I17036 (ad g 4) 2 = w := ⟨_, rfl⟩
        have bw17132 := BT_get hI17036.1 4 0 5 (0) (0) (1000) (by decide) 2 (by decide) (by decide)
        rw [ew17132] at bw17132
        exact WP_iret dX3_faultInParts_73 rfl ⟨⟨hI17036, rfl, fr17038, fr17039, ⟨trivial, (by rw [e17040, ew17007] <;> exact (eq32 _ _).mpr (by omega)), (by rw [e17041, ew17008] <;> exact (eq32 _ _).mpr (by omega))⟩⟩, _, rfl, by omega, by omega, by (try rw [e17042]; try rw [ew17131]; try rw [ew17132]); omega⟩
    · refine WP_iload dX3_faultInParts_109 rfl ?_
      obtain ⟨w17133, ew17133⟩ : ∃ w : Int32, I17025 (ad g 4) 1 = w := ⟨_, rfl⟩
      have bw17133 := BT_get hI17025.1 4 0 5 (0) (0) (1000) (by decide) 1 (by decide) (by decide)
      rw [ew17133] at bw17133
      obtain ⟨w17134, ew17134⟩ : ∃ w : Int32, I17025 (ad g 4) 2 = w := ⟨_, rfl⟩
      have bw17134 := BT_get hI17025.1 4 0 5 (0) (0) (1000) (by decide) 2 (by decide) (by decide)
      rw [ew17134] at bw17134
      exact WP_iret dX3_faultInParts_111 rfl ⟨⟨hI17025, rfl, fr17028, fr17029, ⟨trivial, (by rw [e17030, ew17007] <;> exact (eq32 _ _).mpr (by omega)), (by rw [e17031, ew17008] <;> exact (eq32 _ _).mpr (by omega))⟩⟩, _, rfl, by omega, by omega, by (try rw [ew17034]; try rw [ew17133]; try rw [ew17134]); omega⟩
  · refine WQ_iconst (1) (1) dX3_faultInParts_72 rfl rfl (fun v17135 hv17135 => ?_)
    obtain ⟨w17136, ew17136⟩ : ∃ w : Int32, I (ad g 4) 0 = w := ⟨_, rfl⟩
    have bw17136 := BT_get hI.1 4 0 5 (0) (0) (1000) (by decide) 0 (by decide) (by decide)
    rw [ew17136] at bw17136
    obtain ⟨w17137, ew17137⟩ : ∃ w : Int32, I (ad g 4) 1 = w := ⟨_, rfl⟩
    have bw17137 := BT_get hI.1 4 0 5 (0) (0) (1000) (by decide) 1 (by decide) (by decide)
    rw [ew17137] at bw17137
    obtain ⟨w17138, ew17138⟩ : ∃ w : Int32, I (ad g 4) 2 = w := ⟨_, rfl⟩
    have bw17138 := BT_get hI.1 4 0 5 (0) (0) (1000) (by decide) 2 (by decide) (by decide)
    rw [ew17138] at bw17138
    exact WP_iret dX3_faultInParts_73 rfl ⟨⟨hI, rfl, fr0, frj0, ⟨trivial, rfl, rfl⟩⟩, _, rfl, by omega, by omega, by (try rw [ew17136]; try rw [ew17137]; try rw [ew17138]); omega⟩
set_option maxHeartbeats 4000000 in
set_option maxRecDepth 100000 in
theorem sx_parts_6_4 {g : GG} {n : Int} {L : Int32} (hy : LyX g) {aK aV : Nat → Nat} {fo : Option Nat} (hz : HZ g aK aV fo)  {I : pI} {J : pJ} {R : pR} (hr : RfX g R) (hI : XI g n L I) (cz : Int32) (cz_lo : 4 ≤ cz.toInt) (cz_hi : cz.toInt ≤ 4) : SP g mX3_faultInParts [.ref (ad g 3), .int cz, .ref (ad g 6)] I J R (fun r I' J' R' => (XI g n L I' ∧ R' = R ∧ fz 74 g [1, 4] I I' ∧ fz 74 g [1] J J' ∧ True ∧ I' (ad g 6) 1 = I (ad g 6) 1 ∧ I' (ad g 6) 2 = I (ad g 6) 2) ∧ ∃ v : Int32, r = some (.int v) ∧ 0 ≤ v.toInt ∧ v.toInt ≤ 5 ∧ (v.toInt = 0 → (I' (ad g 4) 0).toInt ≤ 2 ∧ (I' (ad g 4) 1).toInt ≤ 6 ∧ (I' (ad g 4) 2).toInt ≤ 20)) := by
  refine SP_of ⟨by decide, rfl⟩ (Nat.le_of_ble_eq_true rfl) ?_
  have e17139 : I (ad g 1) 1 = L := hI.2
  have b17140 := BT_get hI.1 1 1 2 (0) (0) (900) (by decide) 1 (by decide) (by decide)
  rw [e17139] at b17140
  have fr0 : fz 74 g [1, 4] I I := fz_rf
  have frj0 : fz 74 g [1] J J := fz_rf
  obtain ⟨w17141, ew17141⟩ : ∃ w : Int32, I (ad g 6) 1 = w := ⟨_, rfl⟩
  have bw17141 := BT_get hI.1 6 1 2 (0) (0) (4) (by decide) 1 (by decide) (by decide)
  rw [ew17141] at bw17141
  obtain ⟨w17142, ew17142⟩ : ∃ w : Int32, I (ad g 6) 2 = w := ⟨_, rfl⟩
  have bw17142 := BT_get hI.1 6 2 3 (0) (0) (3) (by decide) 2 (by decide) (by decide)
  rw [ew17142] at bw17142
  refine WP_iload_n dX3_faultInParts_0 rfl ?_
  refine WP_callS1 dX3_faultInParts_1 ⟨⟨⟨by decide, by decide⟩, zX3_shapeOf⟩, lX3_84, tX3_shapeOf⟩ (sx_shapeOf hy hz hr hI cz (by omega) (by omega)) (Nat.le_of_ble_eq_true rfl) ?_
  intro r Ia Ja Ra hq
  obtain ⟨⟨ea, eb, ec⟩, rfl⟩ := hq
  show WP _ _ _ _ (.ref _ :: _) _ _ _ _
  rw [show 10 + cz.toInt.toNat = 14 by omega]
  rw [ea, eb, ec]
  clear ea eb ec Ia Ja Ra
  refine WP_astore_n (ls' := [(0, _), (1, _), (2, _), (3, _)]) dX3_faultInParts_4 (by decide) rfl ?_
  refine WQ_iconst (0) (0) dX3_faultInParts_5 rfl rfl (fun v17143 hv17143 => ?_)
  refine WP_istore (ls' := [(0, _), (1, _), (2, _), (3, _), (4, _)]) dX3_faultInParts_6 (by decide) rfl ?_
  refine WP_iload dX3_faultInParts_8 rfl ?_
  refine WP_aload_n dX3_faultInParts_10 rfl ?_
  refine WS_call hz (i := 14) (by omega) dX3_faultInParts_11 ⟨⟨by decide, by decide⟩, zJ0_length_8abf5⟩ lX3_87 vJ0_length_8abf5 (As := []) (rest := [.int v17143]) (j_length hz (i := 14) (by omega)) rfl rfl (Nat.le_of_ble_eq_true rfl) ?_
  intro r Ia Ja Ra hq
  obtain ⟨⟨ea, eb, ec⟩, v17144, rfl, cv17144⟩ := hq
  show WP _ _ _ _ (.int _ :: _) _ _ _ _
  rw [ea, eb, ec]
  clear ea eb ec Ia Ja Ra
  have hv17144 : v17144.toInt = 3 := cv17144.trans rfl
  refine WQ_icmp_ge 125 dX3_faultInParts_14 rfl (fun c17144 => False.elim (by omega)) (fun c17144 => ?_)
  refine WP_iload dX3_faultInParts_17 rfl ?_
  refine WQ_iconst (5) (5) dX3_faultInParts_19 rfl rfl (fun v17146 hv17146 => ?_)
  refine WQ_icmp_ge 125 dX3_faultInParts_20 rfl (fun c17146 => False.elim (by omega)) (fun c17146 => ?_)
  refine WP_aload_n dX3_faultInParts_23 rfl ?_
  refine WP_iload dX3_faultInParts_24 rfl ?_
  refine WS_call hz (i := 14) (by omega) dX3_faultInParts_26 ⟨⟨by decide, by decide⟩, zJ0_charAt_5068e⟩ lX3_92 vJ0_charAt_5068e (As := [.int v17143]) (rest := []) (j_charAt hz (i := 14) (k := v17143) (by omega) (by omega) (by have z9 : ((liN.getD 14 0 : Nat) : Int) = 3 := rfl; omega)) rfl rfl (Nat.le_of_ble_eq_true rfl) ?_
  intro r Ia Ja Ra hq
  obtain ⟨⟨ea, eb, ec⟩, v17148, rfl, cv17148⟩ := hq
  show WP _ _ _ _ (.int _ :: _) _ _ _ _
  rw [ea, eb, ec]
  clear ea eb ec Ia Ja Ra
  have hv17148 : v17148.toInt = 116 := cv17148.trans (by rw [show v17143.toInt.toNat = 0 by omega]; rfl)
  refine WP_istore (ls' := [(0, _), (1, _), (2, _), (3, _), (4, _), (5, _)]) dX3_faultInParts_29 (by decide) rfl ?_
  refine WP_iload dX3_faultInParts_31 rfl ?_
  refine WQ_bipush (97) (97) dX3_faultInParts_33 rfl rfl (fun v17149 hv17149 => ?_)
  refine WQ_icmp_lt 49 dX3_faultInParts_35 rfl (fun c17149 => False.elim (by omega)) (fun c17149 => ?_)
  refine WP_iload dX3_faultInParts_38 rfl ?_
  refine WQ_bipush (122) (122) dX3_faultInParts_40 rfl rfl (fun v17151 hv17151 => ?_)
  refine WQ_icmp_gt 49 dX3_faultInParts_42 rfl (fun c17151 => False.elim (by omega)) (fun c17151 => ?_)
  refine WQ_iconst (1) (1) dX3_faultInParts_45 rfl rfl (fun v17153 hv17153 => ?_)
  refine WP_goto 50 dX3_faultInParts_46 rfl ?_
  refine WP_istore (ls' := [(0, _), (1, _), (2, _), (3, _), (4, _), (5, _), (6, _)]) dX3_faultInParts_50 (by decide) rfl ?_
  refine WP_aload_n dX3_faultInParts_52 rfl ?_
  refine WP_getr dX3_faultInParts_53 fX3_15 rfl (lyx_is hy 3 3 rfl) (rfx hr 3 2 1 (by decide)) ?_
  refine WQ_geti dX3_faultInParts_56 fX3_43 rfl (lyx_is hy 1 5 rfl) (BT_get hI.1 1 2 3 (0) (0) (4) (by decide) 2 (by decide) (by decide)) (fun v17154 ev17154 av17154 bv17154 => ?_)
  refine WP_iload dX3_faultInParts_59 rfl ?_
  refine WQ_if_eq 68 dX3_faultInParts_61 rfl (fun c17154 => False.elim (by omega)) (fun c17154 => ?_)
  refine WQ_iconst (1) (1) dX3_faultInParts_64 rfl rfl (fun v17156 hv17156 => ?_)
  refine WP_goto 69 dX3_faultInParts_65 rfl ?_
  refine WQ_icmp_eq 74 dX3_faultInParts_69 rfl (fun c17156 => ?_) (fun c17156 => ?_)
  · refine WP_iload dX3_faultInParts_74 rfl ?_
    refine WQ_if_eq 92 dX3_faultInParts_76 rfl (fun c17157 => False.elim (by omega)) (fun c17157 => ?_)
    refine WP_aload_n dX3_faultInParts_79 rfl ?_
    refine WP_iload dX3_faultInParts_80 rfl ?_
    refine WP_iload_n dX3_faultInParts_82 rfl ?_
    refine WP_iload dX3_faultInParts_83 rfl ?_
    refine WP_aload_n dX3_faultInParts_85 rfl ?_
    refine WP_callV4 (k := 3) dX3_faultInParts_86 ⟨⟨⟨by decide, by decide⟩, zX3_faultOfName⟩, lX3_96, by decide, rfl, vX3_faultOfName.1, vX3_faultOfName.2⟩ (lyx_is hy 3 3 rfl) (sx_part_6_4_0 hy hr hI v17148 cz v17143 (by omega) (by omega) (by omega) (by omega) (by omega) (by omega)) (Nat.le_of_ble_eq_true rfl) ?_
    intro r I17159 J17160 Ra hq
    obtain ⟨⟨hI17159, ec, fiI17159, fjI17159, ⟨pI17159, sI17159_6_1, sI17159_6_2⟩⟩, v17161, rfl, av17161, bv17161, cv17161⟩ := hq
    show WP _ _ _ _ (.int _ :: _) _ _ _ _
    rw [ec]
    clear ec Ra
    have fr17162 : fz 74 g [1, 4] I I17159 := fz_tr fr0 (fz_mono fiI17159 (by decide))
    have fr17163 : fz 74 g [1] J J17160 := fz_tr frj0 (fz_mono fjI17159 (by decide))
    have e17164 : I17159 (ad g 6) 1 = w17141 := by rw [sI17159_6_1]; exact ew17141
    have e17165 : I17159 (ad g 6) 2 = w17142 := by rw [sI17159_6_2]; exact ew17142
    have e17166 : I17159 (ad g 1) 1 = L := hI17159.2
    have b17167 := BT_get hI17159.1 1 1 2 (0) (0) (900) (by decide) 1 (by decide) (by decide)
    rw [e17166] at b17167
    obtain ⟨w17168, ew17168⟩ : ∃ w : Int32, I17159 (ad g 4) 0 = w := ⟨_, rfl⟩
    have bw17168 := BT_get hI17159.1 4 0 5 (0) (0) (1000) (by decide) 0 (by decide) (by decide)
    rw [ew17168] at bw17168
    rw [ew17168] at cv17161
    refine WP_goto 102 dX3_faultInParts_89 rfl ?_
    refine WP_istore (ls' := [(0, _), (1, _), (2, _), (3, _), (4, _), (5, _), (6, _), (7, _)]) dX3_faultInParts_102 (by decide) rfl ?_
    refine WP_iload dX3_faultInParts_104 rfl ?_
    refine WQ_if_eq 112 dX3_faultInParts_106 rfl (fun c17168 => ?_) (fun c17168 => ?_)
    · refine WP_aload_n dX3_faultInParts_112 rfl ?_
      refine WP_getr dX3_faultInParts_113 fX3_15 rfl (lyx_is hy 3 3 rfl) (rfx hr 3 2 1 (by decide)) ?_
      refine WP_callV0 (k := 5) dX3_faultInParts_116 ⟨⟨⟨by decide, by decide⟩, zX5_next⟩, lX3_40, by decide, rfl, vX5_next.1, vX5_next.2⟩ (lyx_is hy 1 5 rfl) (sx_nextf hy hr hI17159  ) (Nat.le_of_ble_eq_true rfl) ?_
      intro r I17170 J17171 Ra hq
      obtain ⟨⟨hI17170, ec, fiI17170, fjI17170⟩, rfl⟩ := hq
      rw [ec]
      clear ec Ra
      have fr17172 : fz 74 g [1, 4] I I17170 := fz_tr fr17162 (fz_mono fiI17170 (by decide))
      have fr17173 : fz 74 g [1] J J17171 := fz_tr fr17163 (fz_mono fjI17170 (by decide))
      have e17174 : I17170 (ad g 6) 1 = w17141 := by rw [fz_at fiI17170 6 (by decide) (by decide)]; exact e17164
      have e17175 : I17170 (ad g 6) 2 = w17142 := by rw [fz_at fiI17170 6 (by decide) (by decide)]; exact e17165
      have e17176 : I17170 (ad g 4) 0 = w17168 := by rw [fz_at fiI17170 4 (by decide) (by decide)]; exact ew17168
      have e17177 : I17170 (ad g 1) 1 = L := hI17170.2
      have b17178 := BT_get hI17170.1 1 1 2 (0) (0) (900) (by decide) 1 (by decide) (by decide)
      rw [e17177] at b17178
      refine WP_iinc (ls' := [(0, _), (1, _), (2, _), (3, _), (4, _), (5, _), (6, _), (7, _)]) dX3_faultInParts_119 rfl (by decide) rfl ?_
      have hv17179 : (v17143 + Int32.ofInt (1)).toInt = v17143.toInt + (1) := ia_n rfl (by omega) (by omega)
      generalize v17143 + Int32.ofInt (1) = v17179 at hv17179 ⊢
      refine WP_goto 8 dX3_faultInParts_122 rfl ?_
      refine WP_iload dX3_faultInParts_8 rfl ?_
      refine WP_aload_n dX3_faultInParts_10 rfl ?_
      refine WS_call hz (i := 14) (by omega) dX3_faultInParts_11 ⟨⟨by decide, by decide⟩, zJ0_length_8abf5⟩ lX3_87 vJ0_length_8abf5 (As := []) (rest := [.int v17179]) (j_length hz (i := 14) (by omega)) rfl rfl (Nat.le_of_ble_eq_true rfl) ?_
      intro r Ia Ja Ra hq
      obtain ⟨⟨ea, eb, ec⟩, v17180, rfl, cv17180⟩ := hq
      show WP _ _ _ _ (.int _ :: _) _ _ _ _
      rw [ea, eb, ec]
      clear ea eb ec Ia Ja Ra
      have hv17180 : v17180.toInt = 3 := cv17180.trans rfl
      refine WQ_icmp_ge 125 dX3_faultInParts_14 rfl (fun c17180 => False.elim (by omega)) (fun c17180 => ?_)
      refine WP_iload dX3_faultInParts_17 rfl ?_
      refine WQ_iconst (5) (5) dX3_faultInParts_19 rfl rfl (fun v17182 hv17182 => ?_)
      refine WQ_icmp_ge 125 dX3_faultInParts_20 rfl (fun c17182 => False.elim (by omega)) (fun c17182 => ?_)
      refine WP_aload_n dX3_faultInParts_23 rfl ?_
      refine WP_iload dX3_faultInParts_24 rfl ?_
      refine WS_call hz (i := 14) (by omega) dX3_faultInParts_26 ⟨⟨by decide, by decide⟩, zJ0_charAt_5068e⟩ lX3_92 vJ0_charAt_5068e (As := [.int v17179]) (rest := []) (j_charAt hz (i := 14) (k := v17179) (by omega) (by omega) (by have z9 : ((liN.getD 14 0 : Nat) : Int) = 3 := rfl; omega)) rfl rfl (Nat.le_of_ble_eq_true rfl) ?_
      intro r Ia Ja Ra hq
      obtain ⟨⟨ea, eb, ec⟩, v17184, rfl, cv17184⟩ := hq
      show WP _ _ _ _ (.int _ :: _) _ _ _ _
      rw [ea, eb, ec]
      clear ea eb ec Ia Ja Ra
      have hv17184 : v17184.toInt = 68 := cv17184.trans (by rw [show v17179.toInt.toNat = 1 by omega]; rfl)
      refine WP_istore (ls' := [(0, _), (1, _), (2, _), (3, _), (4, _), (5, _), (6, _), (7, _)]) dX3_faultInParts_29 (by decide) rfl ?_
      refine WP_iload dX3_faultInParts_31 rfl ?_
      refine WQ_bipush (97) (97) dX3_faultInParts_33 rfl rfl (fun v17185 hv17185 => ?_)
      refine WQ_icmp_lt 49 dX3_faultInParts_35 rfl (fun c17185 => ?_) (fun c17185 => False.elim (by omega))
      refine WQ_iconst (0) (0) dX3_faultInParts_49 rfl rfl (fun v17187 hv17187 => ?_)
      refine WP_istore (ls' := [(0, _), (1, _), (2, _), (3, _), (4, _), (5, _), (6, _), (7, _)]) dX3_faultInParts_50 (by decide) rfl ?_
      refine WP_aload_n dX3_faultInParts_52 rfl ?_
      refine WP_getr dX3_faultInParts_53 fX3_15 rfl (lyx_is hy 3 3 rfl) (rfx hr 3 2 1 (by decide)) ?_
      refine WQ_geti dX3_faultInParts_56 fX3_43 rfl (lyx_is hy 1 5 rfl) (BT_get hI17170.1 1 2 3 (0) (0) (4) (by decide) 2 (by decide) (by decide)) (fun v17188 ev17188 av17188 bv17188 => ?_)
      refine WP_iload dX3_faultInParts_59 rfl ?_
      refine WQ_if_eq 68 dX3_faultInParts_61 rfl (fun c17188 => ?_) (fun c17188 => False.elim (by omega))
      refine WQ_iconst (2) (2) dX3_faultInParts_68 rfl rfl (fun v17190 hv17190 => ?_)
      refine WQ_icmp_eq 74 dX3_faultInParts_69 rfl (fun c17190 => ?_) (fun c17190 => ?_)
      · refine WP_iload dX3_faultInParts_74 rfl ?_
        refine WQ_if_eq 92 dX3_faultInParts_76 rfl (fun c17191 => ?_) (fun c17191 => False.elim (by omega))
        refine WP_aload_n dX3_faultInParts_92 rfl ?_
        refine WP_iload dX3_faultInParts_93 rfl ?_
        refine WP_iload_n dX3_faultInParts_95 rfl ?_
        refine WP_iload dX3_faultInParts_96 rfl ?_
        refine WP_aload_n dX3_faultInParts_98 rfl ?_
        refine WP_callV4 (k := 3) dX3_faultInParts_99 ⟨⟨⟨by decide, by decide⟩, zX3_faultOfNumber⟩, lX3_100, by decide, rfl, vX3_faultOfNumber.1, vX3_faultOfNumber.2⟩ (lyx_is hy 3 3 rfl) (sx_part_6_4_1 hy hr hI17170 v17184 cz v17179 (by omega) (by omega) (by omega) (by omega) (by omega) (by omega) (by rw [e17176]; omega)) (Nat.le_of_ble_eq_true rfl) ?_
        intro r I17193 J17194 Ra hq
        obtain ⟨⟨hI17193, ec, fiI17193, fjI17193, ⟨pI17193, sI17193_4_0, sI17193_6_1, sI17193_6_2⟩⟩, v17195, rfl, av17195, bv17195, cv17195⟩ := hq
        show WP _ _ _ _ (.int _ :: _) _ _ _ _
        rw [ec]
        clear ec Ra
        have fr17196 : fz 74 g [1, 4] I I17193 := fz_tr fr17172 (fz_mono fiI17193 (by decide))
        have fr17197 : fz 74 g [1] J J17194 := fz_tr fr17173 (fz_mono fjI17193 (by decide))
        have e17198 : I17193 (ad g 4) 0 = w17168 := by rw [sI17193_4_0]; exact e17176
        have e17199 : I17193 (ad g 6) 1 = w17141 := by rw [sI17193_6_1]; exact e17174
        have e17200 : I17193 (ad g 6) 2 = w17142 := by rw [sI17193_6_2]; exact e17175
        have e17201 : I17193 (ad g 1) 1 = L := hI17193.2
        have b17202 := BT_get hI17193.1 1 1 2 (0) (0) (900) (by decide) 1 (by decide) (by decide)
        rw [e17201] at b17202
        obtain ⟨w17203, ew17203⟩ : ∃ w : Int32, I17193 (ad g 4) 1 = w := ⟨_, rfl⟩
        have bw17203 := BT_get hI17193.1 4 0 5 (0) (0) (1000) (by decide) 1 (by decide) (by decide)
        rw [ew17203] at bw17203
        rw [ew17203] at cv17195
        refine WP_istore (ls' := [(0, _), (1, _), (2, _), (3, _), (4, _), (5, _), (6, _), (7, _)]) dX3_faultInParts_102 (by decide) rfl ?_
        refine WP_iload dX3_faultInParts_104 rfl ?_
        refine WQ_if_eq 112 dX3_faultInParts_106 rfl (fun c17203 => ?_) (fun c17203 => ?_)
        · refine WP_aload_n dX3_faultInParts_112 rfl ?_
          refine WP_getr dX3_faultInParts_113 fX3_15 rfl (lyx_is hy 3 3 rfl) (rfx hr 3 2 1 (by decide)) ?_
          refine WP_callV0 (k := 5) dX3_faultInParts_116 ⟨⟨⟨by decide, by decide⟩, zX5_next⟩, lX3_40, by decide, rfl, vX5_next.1, vX5_next.2⟩ (lyx_is hy 1 5 rfl) (sx_nextf hy hr hI17193  ) (Nat.le_of_ble_eq_true rfl) ?_
          intro r I17205 J17206 Ra hq
          obtain ⟨⟨hI17205, ec, fiI17205, fjI17205⟩, rfl⟩ := hq
          rw [ec]
          clear ec Ra
          have fr17207 : fz 74 g [1, 4] I I17205 := fz_tr fr17196 (fz_mono fiI17205 (by decide))
          have fr17208 : fz 74 g [1] J J17206 := fz_tr fr17197 (fz_mono fjI17205 (by decide))
          have e17209 : I17205 (ad g 4) 0 = w17168 := by rw [fz_at fiI17205 4 (by decide) (by decide)]; exact e17198
          have e17210 : I17205 (ad g 6) 1 = w17141 := by rw [fz_at fiI17205 6 (by decide) (by decide)]; exact e17199
          have e17211 : I17205 (ad g 6) 2 = w17142 := by rw [fz_at fiI17205 6 (by decide) (by decide)]; exact e17200
          have e17212 : I17205 (ad g 4) 1 = w17203 := by rw [fz_at fiI17205 4 (by decide) (by decide)]; exact ew17203
          have e17213 : I17205 (ad g 1) 1 = L := hI17205.2
          have b17214 := BT_get hI17205.1 1 1 2 (0) (0) (900) (by decide) 1 (by decide) (by decide)
          rw [e17213] at b17214
          refine WP_iinc (ls' := [(0, _), (1, _), (2, _), (3, _), (4, _), (5, _), (6, _), (7, _)]) dX3_faultInParts_119 rfl (by decide) rfl ?_
          have hv17215 : (v17179 + Int32.ofInt (1)).toInt = v17179.toInt + (1) := ia_n rfl (by omega) (by omega)
          generalize v17179 + Int32.ofInt (1) = v17215 at hv17215 ⊢
          refine WP_goto 8 dX3_faultInParts_122 rfl ?_
          refine WP_iload dX3_faultInParts_8 rfl ?_
          refine WP_aload_n dX3_faultInParts_10 rfl ?_
          refine WS_call hz (i := 14) (by omega) dX3_faultInParts_11 ⟨⟨by decide, by decide⟩, zJ0_length_8abf5⟩ lX3_87 vJ0_length_8abf5 (As := []) (rest := [.int v17215]) (j_length hz (i := 14) (by omega)) rfl rfl (Nat.le_of_ble_eq_true rfl) ?_
          intro r Ia Ja Ra hq
          obtain ⟨⟨ea, eb, ec⟩, v17216, rfl, cv17216⟩ := hq
          show WP _ _ _ _ (.int _ :: _) _ _ _ _
          rw [ea, eb, ec]
          clear ea eb ec Ia Ja Ra
          have hv17216 : v17216.toInt = 3 := cv17216.trans rfl
          refine WQ_icmp_ge 125 dX3_faultInParts_14 rfl (fun c17216 => False.elim (by omega)) (fun c17216 => ?_)
          refine WP_iload dX3_faultInParts_17 rfl ?_
          refine WQ_iconst (5) (5) dX3_faultInParts_19 rfl rfl (fun v17218 hv17218 => ?_)
          refine WQ_icmp_ge 125 dX3_faultInParts_20 rfl (fun c17218 => False.elim (by omega)) (fun c17218 => ?_)
          refine WP_aload_n dX3_faultInParts_23 rfl ?_
          refine WP_iload dX3_faultInParts_24 rfl ?_
          refine WS_call hz (i := 14) (by omega) dX3_faultInParts_26 ⟨⟨by decide, by decide⟩, zJ0_charAt_5068e⟩ lX3_92 vJ0_charAt_5068e (As := [.int v17215]) (rest := []) (j_charAt hz (i := 14) (k := v17215) (by omega) (by omega) (by have z9 : ((liN.getD 14 0 : Nat) : Int) = 3 := rfl; omega)) rfl rfl (Nat.le_of_ble_eq_true rfl) ?_
          intro r Ia Ja Ra hq
          obtain ⟨⟨ea, eb, ec⟩, v17220, rfl, cv17220⟩ := hq
          show WP _ _ _ _ (.int _ :: _) _ _ _ _
          rw [ea, eb, ec]
          clear ea eb ec Ia Ja Ra
          have hv17220 : v17220.toInt = 69 := cv17220.trans (by rw [show v17215.toInt.toNat = 2 by omega]; rfl)
          refine WP_istore (ls' := [(0, _), (1, _), (2, _), (3, _), (4, _), (5, _), (6, _), (7, _)]) dX3_faultInParts_29 (by decide) rfl ?_
          refine WP_iload dX3_faultInParts_31 rfl ?_
          refine WQ_bipush (97) (97) dX3_faultInParts_33 rfl rfl (fun v17221 hv17221 => ?_)
          refine WQ_icmp_lt 49 dX3_faultInParts_35 rfl (fun c17221 => ?_) (fun c17221 => False.elim (by omega))
          refine WQ_iconst (0) (0) dX3_faultInParts_49 rfl rfl (fun v17223 hv17223 => ?_)
          refine WP_istore (ls' := [(0, _), (1, _), (2, _), (3, _), (4, _), (5, _), (6, _), (7, _)]) dX3_faultInParts_50 (by decide) rfl ?_
          refine WP_aload_n dX3_faultInParts_52 rfl ?_
          refine WP_getr dX3_faultInParts_53 fX3_15 rfl (lyx_is hy 3 3 rfl) (rfx hr 3 2 1 (by decide)) ?_
          refine WQ_geti dX3_faultInParts_56 fX3_43 rfl (lyx_is hy 1 5 rfl) (BT_get hI17205.1 1 2 3 (0) (0) (4) (by decide) 2 (by decide) (by decide)) (fun v17224 ev17224 av17224 bv17224 => ?_)
          refine WP_iload dX3_faultInParts_59 rfl ?_
          refine WQ_if_eq 68 dX3_faultInParts_61 rfl (fun c17224 => ?_) (fun c17224 => False.elim (by omega))
          refine WQ_iconst (2) (2) dX3_faultInParts_68 rfl rfl (fun v17226 hv17226 => ?_)
          refine WQ_icmp_eq 74 dX3_faultInParts_69 rfl (fun c17226 => ?_) (fun c17226 => ?_)
          · refine WP_iload dX3_faultInParts_74 rfl ?_
            refine WQ_if_eq 92 dX3_faultInParts_76 rfl (fun c17227 => ?_) (fun c17227 => False.elim (by omega))
            refine WP_aload_n dX3_faultInParts_92 rfl ?_
            refine WP_iload dX3_faultInParts_93 rfl ?_
            refine WP_iload_n dX3_faultInParts_95 rfl ?_
            refine WP_iload dX3_faultInParts_96 rfl ?_
            refine WP_aload_n dX3_faultInParts_98 rfl ?_
            refine WP_callV4 (k := 3) dX3_faultInParts_99 ⟨⟨⟨by decide, by decide⟩, zX3_faultOfNumber⟩, lX3_100, by decide, rfl, vX3_faultOfNumber.1, vX3_faultOfNumber.2⟩ (lyx_is hy 3 3 rfl) (sx_part_6_4_2 hy hr hI17205 v17220 cz v17215 (by omega) (by omega) (by omega) (by omega) (by omega) (by omega)) (Nat.le_of_ble_eq_true rfl) ?_
            intro r I17229 J17230 Ra hq
            obtain ⟨⟨hI17229, ec, fiI17229, fjI17229, ⟨pI17229, sI17229_4_0, sI17229_4_1, sI17229_6_1, sI17229_6_2⟩⟩, v17231, rfl, av17231, bv17231, cv17231⟩ := hq
            show WP _ _ _ _ (.int _ :: _) _ _ _ _
            rw [ec]
            clear ec Ra
            have fr17232 : fz 74 g [1, 4] I I17229 := fz_tr fr17207 (fz_mono fiI17229 (by decide))
            have fr17233 : fz 74 g [1] J J17230 := fz_tr fr17208 (fz_mono fjI17229 (by decide))
            have e17234 : I17229 (ad g 4) 0 = w17168 := by rw [sI17229_4_0]; exact e17209
            have e17235 : I17229 (ad g 4) 1 = w17203 := by rw [sI17229_4_1]; exact e17212
            have e17236 : I17229 (ad g 6) 1 = w17141 := by rw [sI17229_6_1]; exact e17210
            have e17237 : I17229 (ad g 6) 2 = w17142 := by rw [sI17229_6_2]; exact e17211
            have e17238 : I17229 (ad g 1) 1 = L := hI17229.2
            have b17239 := BT_get hI17229.1 1 1 2 (0) (0) (900) (by decide) 1 (by decide) (by decide)
            rw [e17238] at b17239
            obtain ⟨w17240, ew17240⟩ : ∃ w : Int32, I17229 (ad g 4) 2 = w := ⟨_, rfl⟩
            have bw17240 := BT_get hI17229.1 4 0 5 (0) (0) (1000) (by decide) 2 (by decide) (by decide)
            rw [ew17240] at bw17240
            rw [ew17240] at cv17231
            refine WP_istore (ls' := [(0, _), (1, _), (2, _), (3, _), (4, _), (5, _), (6, _), (7, _)]) dX3_faultInParts_102 (by decide) rfl ?_
            refine WP_iload dX3_faultInParts_104 rfl ?_
            refine WQ_if_eq 112 dX3_faultInParts_106 rfl (fun c17240 => ?_) (fun c17240 => ?_)
            · refine WP_aload_n dX3_faultInParts_112 rfl ?_
              refine WP_getr dX3_faultInParts_113 fX3_15 rfl (lyx_is hy 3 3 rfl) (rfx hr 3 2 1 (by decide)) ?_
              refine WP_callV0 (k := 5) dX3_faultInParts_116 ⟨⟨⟨by decide, by decide⟩, zX5_next⟩, lX3_40, by decide, rfl, vX5_next.1, vX5_next.2⟩ (lyx_is hy 1 5 rfl) (sx_nextf hy hr hI17229  ) (Nat.le_of_ble_eq_true rfl) ?_
              intro r I17242 J17243 Ra hq
              obtain ⟨⟨hI17242, ec, fiI17242, fjI17242⟩, rfl⟩ := hq
              rw [ec]
              clear ec Ra
              have fr17244 : fz 74 g [1, 4] I I17242 := fz_tr fr17232 (fz_mono fiI17242 (by decide))
              have fr17245 : fz 74 g [1] J J17243 := fz_tr fr17233 (fz_mono fjI17242 (by decide))
              have e17246 : I17242 (ad g 4) 0 = w17168 := by rw [fz_at fiI17242 4 (by decide) (by decide)]; exact e17234
              have e17247 : I17242 (ad g 4) 1 = w17203 := by rw [fz_at fiI17242 4 (by decide) (by decide)]; exact e17235
              have e17248 : I17242 (ad g 6) 1 = w17141 := by rw [fz_at fiI17242 6 (by decide) (by decide)]; exact e17236
              have e17249 : I17242 (ad g 6) 2 = w17142 := by rw [fz_at fiI17242 6 (by decide) (by decide)]; exact e17237
              have e17250 : I17242 (ad g 4) 2 = w17240 := by rw [fz_at fiI17242 4 (by decide) (by decide)]; exact ew17240
              have e17251 : I17242 (ad g 1) 1 = L := hI17242.2
              have b17252 := BT_get hI17242.1 1 1 2 (0) (0) (900) (by decide) 1 (by decide) (by decide)
              rw [e17251] at b17252
              refine WP_iinc (ls' := [(0, _), (1, _), (2, _), (3, _), (4, _), (5, _), (6, _), (7, _)]) dX3_faultInParts_119 rfl (by decide) rfl ?_
              have hv17253 : (v17215 + Int32.ofInt (1)).toInt = v17215.toInt + (1) := ia_n rfl (by omega) (by omega)
              generalize v17215 + Int32.ofInt (1) = v17253 at hv17253 ⊢
              refine WP_goto 8 dX3_faultInParts_122 rfl ?_
              refine WP_iload dX3_faultInParts_8 rfl ?_
              refine WP_aload_n dX3_faultInParts_10 rfl ?_
              refine WS_call hz (i := 14) (by omega) dX3_faultInParts_11 ⟨⟨by decide, by decide⟩, zJ0_length_8abf5⟩ lX3_87 vJ0_length_8abf5 (As := []) (rest := [.int v17253]) (j_length hz (i := 14) (by omega)) rfl rfl (Nat.le_of_ble_eq_true rfl) ?_
              intro r Ia Ja Ra hq
              obtain ⟨⟨ea, eb, ec⟩, v17254, rfl, cv17254⟩ := hq
              show WP _ _ _ _ (.int _ :: _) _ _ _ _
              rw [ea, eb, ec]
              clear ea eb ec Ia Ja Ra
              have hv17254 : v17254.toInt = 3 := cv17254.trans rfl
              refine WQ_icmp_ge 125 dX3_faultInParts_14 rfl (fun c17254 => ?_) (fun c17254 => False.elim (by omega))
              refine WP_aload_n dX3_faultInParts_125 rfl ?_
              refine WP_getr dX3_faultInParts_126 fX3_15 rfl (lyx_is hy 3 3 rfl) (rfx hr 3 2 1 (by decide)) ?_
              refine WQ_geti dX3_faultInParts_129 fX3_43 rfl (lyx_is hy 1 5 rfl) (BT_get hI17242.1 1 2 3 (0) (0) (4) (by decide) 2 (by decide) (by decide)) (fun v17256 ev17256 av17256 bv17256 => ?_)
              refine WQ_iconst (3) (3) dX3_faultInParts_132 rfl rfl (fun v17257 hv17257 => ?_)
              refine WQ_icmp_ne 140 dX3_faultInParts_133 rfl (fun c17257 => ?_) (fun c17257 => ?_)
              · refine WQ_iconst (1) (1) dX3_faultInParts_140 rfl rfl (fun v17259 hv17259 => ?_)
                exact WP_iret dX3_faultInParts_141 rfl ⟨⟨hI17242, rfl, fr17244, fr17245, ⟨trivial, (by rw [e17248, ew17141] <;> exact (eq32 _ _).mpr (by omega)), (by rw [e17249, ew17142] <;> exact (eq32 _ _).mpr (by omega))⟩⟩, _, rfl, by omega, by omega, by (try rw [e17246]; try rw [e17247]; try rw [e17250]); omega⟩
              · refine WQ_iconst (0) (0) dX3_faultInParts_136 rfl rfl (fun v17260 hv17260 => ?_)
                refine WP_goto 141 dX3_faultInParts_137 rfl ?_
                exact WP_iret dX3_faultInParts_141 rfl ⟨⟨hI17242, rfl, fr17244, fr17245, ⟨trivial, (by rw [e17248, ew17141] <;> exact (eq32 _ _).mpr (by omega)), (by rw [e17249, ew17142] <;> exact (eq32 _ _).mpr (by omega))⟩⟩, _, rfl, by omega, by omega, by (try rw [e17246]; try rw [e17247]; try rw [e17250]); omega⟩
            · refine WP_iload dX3_faultInParts_109 rfl ?_
              exact WP_iret dX3_faultInParts_111 rfl ⟨⟨hI17229, rfl, fr17232, fr17233, ⟨trivial, (by rw [e17236, ew17141] <;> exact (eq32 _ _).mpr (by omega)), (by rw [e17237, ew17142] <;> exact (eq32 _ _).mpr (by omega))⟩⟩, _, rfl, by omega, by omega, by (try rw [e17234]; try rw [e17235]; try rw [ew17240]); omega⟩
          · refine WQ_iconst (1) (1) dX3_faultInParts_72 rfl rfl (fun v17261 hv17261 => ?_)
            obtain ⟨w17262, ew17262⟩ : ∃ w : Int32, I17205 (ad g 4) 2 = w := ⟨_, rfl⟩
            have bw17262 := BT_get hI17205.1 4 0 5 (0) (0) (1000) (by decide) 2 (by decide) (by decide)
            rw [ew17262] at bw17262
            exact WP_iret dX3_faultInParts_73 rfl ⟨⟨hI17205, rfl, fr17207, fr17208, ⟨trivial, (by rw [e17210, ew17141] <;> exact (eq32 _ _).mpr (by omega)), (by rw [e17211, ew17142] <;> exact (eq32 _ _).mpr (by omega))⟩⟩, _, rfl, by omega, by omega, by (try rw [e17209]; try rw [e17212]; try rw [ew17262]); omega⟩
        · refine WP_iload dX3_faultInParts_109 rfl ?_
          obtain ⟨w17263, ew17263⟩ : ∃ w : Int32, I17193 (ad g 4) 2 = w := ⟨_, rfl⟩
          have bw17263 := BT_get hI17193.1 4 0 5 (0) (0) (1000) (by decide) 2 (by decide) (by decide)
          rw [ew17263] at bw17263
          exact WP_iret dX3_faultInParts_111 rfl ⟨⟨hI17193, rfl, fr17196, fr17197, ⟨trivial, (by rw [e17199, ew17141] <;> exact (eq32 _ _).mpr (by omega)), (by rw [e17200, ew17142] <;> exact (eq32 _ _).mpr (by omega))⟩⟩, _, rfl, by omega, by omega, by (try rw [e17198]; try rw [ew17203]; try rw [ew17263]); omega⟩
      · refine WQ_iconst (1) (1) dX3_faultInParts_72 rfl rfl (fun v17264 hv17264 => ?_)
        obtain ⟨w17265, ew17265⟩ : ∃ w : Int32, I17170 (ad g 4) 1 = w := ⟨_, rfl⟩
        have bw17265 := BT_get hI17170.1 4 0 5 (0) (0) (1000) (by decide) 1 (by decide) (by decide)
        rw [ew17265] at bw17265
        obtain ⟨w17266, ew17266⟩ : ∃ w : Int32, I17170 (ad g 4) 2 = w := ⟨_, rfl⟩
        have bw17266 := BT_get hI17170.1 4 0 5 (0) (0) (1000) (by decide) 2 (by decide) (by decide)
        rw [ew17266] at bw17266
        exact WP_iret dX3_faultInParts_73 rfl ⟨⟨hI17170, rfl, fr17172, fr17173, ⟨trivial, (by rw [e17174, ew17141] <;> exact (eq32 _ _).mpr (by omega)), (by rw [e17175, ew17142] <;> exact (eq32 _ _).mpr (by omega))⟩⟩, _, rfl, by omega, by omega, by (try rw [e17176]; try rw [ew17265]; try rw [ew17266]); omega⟩
    · refine WP_iload dX3_faultInParts_109 rfl ?_
      obtain ⟨w17267, ew17267⟩ : ∃ w : Int32, I17159 (ad g 4) 1 = w := ⟨_, rfl⟩
      have bw17267 := BT_get hI17159.1 4 0 5 (0) (0) (1000) (by decide) 1 (by decide) (by decide)
      rw [ew17267] at bw17267
      obtain ⟨w17268, ew17268⟩ : ∃ w : Int32, I17159 (ad g 4) 2 = w := ⟨_, rfl⟩
      have bw17268 := BT_get hI17159.1 4 0 5 (0) (0) (1000) (by decide) 2 (by decide) (by decide)
      rw [ew17268] at bw17268
      exact WP_iret dX3_faultInParts_111 rfl ⟨⟨hI17159, rfl, fr17162, fr17163, ⟨trivial, (by rw [e17164, ew17141] <;> exact (eq32 _ _).mpr (by omega)), (by rw [e17165, ew17142] <;> exact (eq32 _ _).mpr (by omega))⟩⟩, _, rfl, by omega, by omega, by (try rw [ew17168]; try rw [ew17267]; try rw [ew17268]); omega⟩
  · refine WQ_iconst (1) (1) dX3_faultInParts_72 rfl rfl (fun v17269 hv17269 => ?_)
    obtain ⟨w17270, ew17270⟩ : ∃ w : Int32, I (ad g 4) 0 = w := ⟨_, rfl⟩
    have bw17270 := BT_get hI.1 4 0 5 (0) (0) (1000) (by decide) 0 (by decide) (by decide)
    rw [ew17270] at bw17270
    obtain ⟨w17271, ew17271⟩ : ∃ w : Int32, I (ad g 4) 1 = w := ⟨_, rfl⟩
    have bw17271 := BT_get hI.1 4 0 5 (0) (0) (1000) (by decide) 1 (by decide) (by decide)
    rw [ew17271] at bw17271
    obtain ⟨w17272, ew17272⟩ : ∃ w : Int32, I (ad g 4) 2 = w := ⟨_, rfl⟩
    have bw17272 := BT_get hI.1 4 0 5 (0) (0) (1000) (by decide) 2 (by decide) (by decide)
    rw [ew17272] at bw17272
    exact WP_iret dX3_faultInParts_73 rfl ⟨⟨hI, rfl, fr0, frj0, ⟨trivial, rfl, rfl⟩⟩, _, rfl, by omega, by omega, by (try rw [ew17270]; try rw [ew17271]; try rw [ew17272]); omega⟩
set_option maxHeartbeats 4000000 in
set_option maxRecDepth 100000 in
theorem sx_parts_6_5 {g : GG} {n : Int} {L : Int32} (hy : LyX g) {aK aV : Nat → Nat} {fo : Option Nat} (hz : HZ g aK aV fo)  {I : pI} {J : pJ} {R : pR} (hr : RfX g R) (hI : XI g n L I) (cz : Int32) (cz_lo : 5 ≤ cz.toInt) (cz_hi : cz.toInt ≤ 5) : SP g mX3_faultInParts [.ref (ad g 3), .int cz, .ref (ad g 6)] I J R (fun r I' J' R' => (XI g n L I' ∧ R' = R ∧ fz 74 g [1, 4] I I' ∧ fz 74 g [1] J J' ∧ True ∧ I' (ad g 6) 1 = I (ad g 6) 1 ∧ I' (ad g 6) 2 = I (ad g 6) 2) ∧ ∃ v : Int32, r = some (.int v) ∧ 0 ≤ v.toInt ∧ v.toInt ≤ 5 ∧ (v.toInt = 0 → (I' (ad g 4) 0).toInt ≤ 2 ∧ (I' (ad g 4) 1).toInt ≤ 6 ∧ (I' (ad g 4) 2).toInt ≤ 999)) := by
  refine SP_of ⟨by decide, rfl⟩ (Nat.le_of_ble_eq_true rfl) ?_
  have e17273 : I (ad g 1) 1 = L := hI.2
  have b17274 := BT_get hI.1 1 1 2 (0) (0) (900) (by decide) 1 (by decide) (by decide)
  rw [e17273] at b17274
  have fr0 : fz 74 g [1, 4] I I := fz_rf
  have frj0 : fz 74 g [1] J J := fz_rf
  obtain ⟨w17275, ew17275⟩ : ∃ w : Int32, I (ad g 6) 1 = w := ⟨_, rfl⟩
  have bw17275 := BT_get hI.1 6 1 2 (0) (0) (4) (by decide) 1 (by decide) (by decide)
  rw [ew17275] at bw17275
  obtain ⟨w17276, ew17276⟩ : ∃ w : Int32, I (ad g 6) 2 = w := ⟨_, rfl⟩
  have bw17276 := BT_get hI.1 6 2 3 (0) (0) (3) (by decide) 2 (by decide) (by decide)
  rw [ew17276] at bw17276
  refine WP_iload_n dX3_faultInParts_0 rfl ?_
  refine WP_callS1 dX3_faultInParts_1 ⟨⟨⟨by decide, by decide⟩, zX3_shapeOf⟩, lX3_84, tX3_shapeOf⟩ (sx_shapeOf hy hz hr hI cz (by omega) (by omega)) (Nat.le_of_ble_eq_true rfl) ?_
  intro r Ia Ja Ra hq
  obtain ⟨⟨ea, eb, ec⟩, rfl⟩ := hq
  show WP _ _ _ _ (.ref _ :: _) _ _ _ _
  rw [show 10 + cz.toInt.toNat = 15 by omega]
  rw [ea, eb, ec]
  clear ea eb ec Ia Ja Ra
  refine WP_astore_n (ls' := [(0, _), (1, _), (2, _), (3, _)]) dX3_faultInParts_4 (by decide) rfl ?_
  refine WQ_iconst (0) (0) dX3_faultInParts_5 rfl rfl (fun v17277 hv17277 => ?_)
  refine WP_istore (ls' := [(0, _), (1, _), (2, _), (3, _), (4, _)]) dX3_faultInParts_6 (by decide) rfl ?_
  refine WP_iload dX3_faultInParts_8 rfl ?_
  refine WP_aload_n dX3_faultInParts_10 rfl ?_
  refine WS_call hz (i := 15) (by omega) dX3_faultInParts_11 ⟨⟨by decide, by decide⟩, zJ0_length_8abf5⟩ lX3_87 vJ0_length_8abf5 (As := []) (rest := [.int v17277]) (j_length hz (i := 15) (by omega)) rfl rfl (Nat.le_of_ble_eq_true rfl) ?_
  intro r Ia Ja Ra hq
  obtain ⟨⟨ea, eb, ec⟩, v17278, rfl, cv17278⟩ := hq
  show WP _ _ _ _ (.int _ :: _) _ _ _ _
  rw [ea, eb, ec]
  clear ea eb ec Ia Ja Ra
  have hv17278 : v17278.toInt = 3 := cv17278.trans rfl
  refine WQ_icmp_ge 125 dX3_faultInParts_14 rfl (fun c17278 => False.elim (by omega)) (fun c17278 => ?_)
  refine WP_iload dX3_faultInParts_17 rfl ?_
  refine WQ_iconst (5) (5) dX3_faultInParts_19 rfl rfl (fun v17280 hv17280 => ?_)
  refine WQ_icmp_ge 125 dX3_faultInParts_20 rfl (fun c17280 => False.elim (by omega)) (fun c17280 => ?_)
  refine WP_aload_n dX3_faultInParts_23 rfl ?_
  refine WP_iload dX3_faultInParts_24 rfl ?_
  refine WS_call hz (i := 15) (by omega) dX3_faultInParts_26 ⟨⟨by decide, by decide⟩, zJ0_charAt_5068e⟩ lX3_92 vJ0_charAt_5068e (As := [.int v17277]) (rest := []) (j_charAt hz (i := 15) (k := v17277) (by omega) (by omega) (by have z9 : ((liN.getD 15 0 : Nat) : Int) = 3 := rfl; omega)) rfl rfl (Nat.le_of_ble_eq_true rfl) ?_
  intro r Ia Ja Ra hq
  obtain ⟨⟨ea, eb, ec⟩, v17282, rfl, cv17282⟩ := hq
  show WP _ _ _ _ (.int _ :: _) _ _ _ _
  rw [ea, eb, ec]
  clear ea eb ec Ia Ja Ra
  have hv17282 : v17282.toInt = 116 := cv17282.trans (by rw [show v17277.toInt.toNat = 0 by omega]; rfl)
  refine WP_istore (ls' := [(0, _), (1, _), (2, _), (3, _), (4, _), (5, _)]) dX3_faultInParts_29 (by decide) rfl ?_
  refine WP_iload dX3_faultInParts_31 rfl ?_
  refine WQ_bipush (97) (97) dX3_faultInParts_33 rfl rfl (fun v17283 hv17283 => ?_)
  refine WQ_icmp_lt 49 dX3_faultInParts_35 rfl (fun c17283 => False.elim (by omega)) (fun c17283 => ?_)
  refine WP_iload dX3_faultInParts_38 rfl ?_
  refine WQ_bipush (122) (122) dX3_faultInParts_40 rfl rfl (fun v17285 hv17285 => ?_)
  refine WQ_icmp_gt 49 dX3_faultInParts_42 rfl (fun c17285 => False.elim (by omega)) (fun c17285 => ?_)
  refine WQ_iconst (1) (1) dX3_faultInParts_45 rfl rfl (fun v17287 hv17287 => ?_)
  refine WP_goto 50 dX3_faultInParts_46 rfl ?_
  refine WP_istore (ls' := [(0, _), (1, _), (2, _), (3, _), (4, _), (5, _), (6, _)]) dX3_faultInParts_50 (by decide) rfl ?_
  refine WP_aload_n dX3_faultInParts_52 rfl ?_
  refine WP_getr dX3_faultInParts_53 fX3_15 rfl (lyx_is hy 3 3 rfl) (rfx hr 3 2 1 (by decide)) ?_
  refine WQ_geti dX3_faultInParts_56 fX3_43 rfl (lyx_is hy 1 5 rfl) (BT_get hI.1 1 2 3 (0) (0) (4) (by decide) 2 (by decide) (by decide)) (fun v17288 ev17288 av17288 bv17288 => ?_)
  refine WP_iload dX3_faultInParts_59 rfl ?_
  refine WQ_if_eq 68 dX3_faultInParts_61 rfl (fun c17288 => False.elim (by omega)) (fun c17288 => ?_)
  refine WQ_iconst (1) (1) dX3_faultInParts_64 rfl rfl (fun v17290 hv17290 => ?_)
  refine WP_goto 69 dX3_faultInParts_65 rfl ?_
  refine WQ_icmp_eq 74 dX3_faultInParts_69 rfl (fun c17290 => ?_) (fun c17290 => ?_)
  · refine WP_iload dX3_faultInParts_74 rfl ?_
    refine WQ_if_eq 92 dX3_faultInParts_76 rfl (fun c17291 => False.elim (by omega)) (fun c17291 => ?_)
    refine WP_aload_n dX3_faultInParts_79 rfl ?_
    refine WP_iload dX3_faultInParts_80 rfl ?_
    refine WP_iload_n dX3_faultInParts_82 rfl ?_
    refine WP_iload dX3_faultInParts_83 rfl ?_
    refine WP_aload_n dX3_faultInParts_85 rfl ?_
    refine WP_callV4 (k := 3) dX3_faultInParts_86 ⟨⟨⟨by decide, by decide⟩, zX3_faultOfName⟩, lX3_96, by decide, rfl, vX3_faultOfName.1, vX3_faultOfName.2⟩ (lyx_is hy 3 3 rfl) (sx_part_6_5_0 hy hr hI v17282 cz v17277 (by omega) (by omega) (by omega) (by omega) (by omega) (by omega)) (Nat.le_of_ble_eq_true rfl) ?_
    intro r I17293 J17294 Ra hq
    obtain ⟨⟨hI17293, ec, fiI17293, fjI17293, ⟨pI17293, sI17293_6_1, sI17293_6_2⟩⟩, v17295, rfl, av17295, bv17295, cv17295⟩ := hq
    show WP _ _ _ _ (.int _ :: _) _ _ _ _
    rw [ec]
    clear ec Ra
    have fr17296 : fz 74 g [1, 4] I I17293 := fz_tr fr0 (fz_mono fiI17293 (by decide))
    have fr17297 : fz 74 g [1] J J17294 := fz_tr frj0 (fz_mono fjI17293 (by decide))
    have e17298 : I17293 (ad g 6) 1 = w17275 := by rw [sI17293_6_1]; exact ew17275
    have e17299 : I17293 (ad g 6) 2 = w17276 := by rw [sI17293_6_2]; exact ew17276
    have e17300 : I17293 (ad g 1) 1 = L := hI17293.2
    have b17301 := BT_get hI17293.1 1 1 2 (0) (0) (900) (by decide) 1 (by decide) (by decide)
    rw [e17300] at b17301
    obtain ⟨w17302, ew17302⟩ : ∃ w : Int32, I17293 (ad g 4) 0 = w := ⟨_, rfl⟩
    have bw17302 := BT_get hI17293.1 4 0 5 (0) (0) (1000) (by decide) 0 (by decide) (by decide)
    rw [ew17302] at bw17302
    rw [ew17302] at cv17295
    refine WP_goto 102 dX3_faultInParts_89 rfl ?_
    refine WP_istore (ls' := [(0, _), (1, _), (2, _), (3, _), (4, _), (5, _), (6, _), (7, _)]) dX3_faultInParts_102 (by decide) rfl ?_
    refine WP_iload dX3_faultInParts_104 rfl ?_
    refine WQ_if_eq 112 dX3_faultInParts_106 rfl (fun c17302 => ?_) (fun c17302 => ?_)
    · refine WP_aload_n dX3_faultInParts_112 rfl ?_
      refine WP_getr dX3_faultInParts_113 fX3_15 rfl (lyx_is hy 3 3 rfl) (rfx hr 3 2 1 (by decide)) ?_
      refine WP_callV0 (k := 5) dX3_faultInParts_116 ⟨⟨⟨by decide, by decide⟩, zX5_next⟩, lX3_40, by decide, rfl, vX5_next.1, vX5_next.2⟩ (lyx_is hy 1 5 rfl) (sx_nextf hy hr hI17293  ) (Nat.le_of_ble_eq_true rfl) ?_
      intro r I17304 J17305 Ra hq
      obtain ⟨⟨hI17304, ec, fiI17304, fjI17304⟩, rfl⟩ := hq
      rw [ec]
      clear ec Ra
      have fr17306 : fz 74 g [1, 4] I I17304 := fz_tr fr17296 (fz_mono fiI17304 (by decide))
      have fr17307 : fz 74 g [1] J J17305 := fz_tr fr17297 (fz_mono fjI17304 (by decide))
      have e17308 : I17304 (ad g 6) 1 = w17275 := by rw [fz_at fiI17304 6 (by decide) (by decide)]; exact e17298
      have e17309 : I17304 (ad g 6) 2 = w17276 := by rw [fz_at fiI17304 6 (by decide) (by decide)]; exact e17299
      have e17310 : I17304 (ad g 4) 0 = w17302 := by rw [fz_at fiI17304 4 (by decide) (by decide)]; exact ew17302
      have e17311 : I17304 (ad g 1) 1 = L := hI17304.2
      have b17312 := BT_get hI17304.1 1 1 2 (0) (0) (900) (by decide) 1 (by decide) (by decide)
      rw [e17311] at b17312
      refine WP_iinc (ls' := [(0, _), (1, _), (2, _), (3, _), (4, _), (5, _), (6, _), (7, _)]) dX3_faultInParts_119 rfl (by decide) rfl ?_
      have hv17313 : (v17277 + Int32.ofInt (1)).toInt = v17277.toInt + (1) := ia_n rfl (by omega) (by omega)
      generalize v17277 + Int32.ofInt (1) = v17313 at hv17313 ⊢
      refine WP_goto 8 dX3_faultInParts_122 rfl ?_
      refine WP_iload dX3_faultInParts_8 rfl ?_
      refine WP_aload_n dX3_faultInParts_10 rfl ?_
      refine WS_call hz (i := 15) (by omega) dX3_faultInParts_11 ⟨⟨by decide, by decide⟩, zJ0_length_8abf5⟩ lX3_87 vJ0_length_8abf5 (As := []) (rest := [.int v17313]) (j_length hz (i := 15) (by omega)) rfl rfl (Nat.le_of_ble_eq_true rfl) ?_
      intro r Ia Ja Ra hq
      obtain ⟨⟨ea, eb, ec⟩, v17314, rfl, cv17314⟩ := hq
      show WP _ _ _ _ (.int _ :: _) _ _ _ _
      rw [ea, eb, ec]
      clear ea eb ec Ia Ja Ra
      have hv17314 : v17314.toInt = 3 := cv17314.trans rfl
      refine WQ_icmp_ge 125 dX3_faultInParts_14 rfl (fun c17314 => False.elim (by omega)) (fun c17314 => ?_)
      refine WP_iload dX3_faultInParts_17 rfl ?_
      refine WQ_iconst (5) (5) dX3_faultInParts_19 rfl rfl (fun v17316 hv17316 => ?_)
      refine WQ_icmp_ge 125 dX3_faultInParts_20 rfl (fun c17316 => False.elim (by omega)) (fun c17316 => ?_)
      refine WP_aload_n dX3_faultInParts_23 rfl ?_
      refine WP_iload dX3_faultInParts_24 rfl ?_
      refine WS_call hz (i := 15) (by omega) dX3_faultInParts_26 ⟨⟨by decide, by decide⟩, zJ0_charAt_5068e⟩ lX3_92 vJ0_charAt_5068e (As := [.int v17313]) (rest := []) (j_charAt hz (i := 15) (k := v17313) (by omega) (by omega) (by have z9 : ((liN.getD 15 0 : Nat) : Int) = 3 := rfl; omega)) rfl rfl (Nat.le_of_ble_eq_true rfl) ?_
      intro r Ia Ja Ra hq
      obtain ⟨⟨ea, eb, ec⟩, v17318, rfl, cv17318⟩ := hq
      show WP _ _ _ _ (.int _ :: _) _ _ _ _
      rw [ea, eb, ec]
      clear ea eb ec Ia Ja Ra
      have hv17318 : v17318.toInt = 68 := cv17318.trans (by rw [show v17313.toInt.toNat = 1 by omega]; rfl)
      refine WP_istore (ls' := [(0, _), (1, _), (2, _), (3, _), (4, _), (5, _), (6, _), (7, _)]) dX3_faultInParts_29 (by decide) rfl ?_
      refine WP_iload dX3_faultInParts_31 rfl ?_
      refine WQ_bipush (97) (97) dX3_faultInParts_33 rfl rfl (fun v17319 hv17319 => ?_)
      refine WQ_icmp_lt 49 dX3_faultInParts_35 rfl (fun c17319 => ?_) (fun c17319 => False.elim (by omega))
      refine WQ_iconst (0) (0) dX3_faultInParts_49 rfl rfl (fun v17321 hv17321 => ?_)
      refine WP_istore (ls' := [(0, _), (1, _), (2, _), (3, _), (4, _), (5, _), (6, _), (7, _)]) dX3_faultInParts_50 (by decide) rfl ?_
      refine WP_aload_n dX3_faultInParts_52 rfl ?_
      refine WP_getr dX3_faultInParts_53 fX3_15 rfl (lyx_is hy 3 3 rfl) (rfx hr 3 2 1 (by decide)) ?_
      refine WQ_geti dX3_faultInParts_56 fX3_43 rfl (lyx_is hy 1 5 rfl) (BT_get hI17304.1 1 2 3 (0) (0) (4) (by decide) 2 (by decide) (by decide)) (fun v17322 ev17322 av17322 bv17322 => ?_)
      refine WP_iload dX3_faultInParts_59 rfl ?_
      refine WQ_if_eq 68 dX3_faultInParts_61 rfl (fun c17322 => ?_) (fun c17322 => False.elim (by omega))
      refine WQ_iconst (2) (2) dX3_faultInParts_68 rfl rfl (fun v17324 hv17324 => ?_)
      refine WQ_icmp_eq 74 dX3_faultInParts_69 rfl (fun c17324 => ?_) (fun c17324 => ?_)
      · refine WP_iload dX3_faultInParts_74 rfl ?_
        refine WQ_if_eq 92 dX3_faultInParts_76 rfl (fun c17325 => ?_) (fun c17325 => False.elim (by omega))
        refine WP_aload_n dX3_faultInParts_92 rfl ?_
        refine WP_iload dX3_faultInParts_93 rfl ?_
        refine WP_iload_n dX3_faultInParts_95 rfl ?_
        refine WP_iload dX3_faultInParts_96 rfl ?_
        refine WP_aload_n dX3_faultInParts_98 rfl ?_
        refine WP_callV4 (k := 3) dX3_faultInParts_99 ⟨⟨⟨by decide, by decide⟩, zX3_faultOfNumber⟩, lX3_100, by decide, rfl, vX3_faultOfNumber.1, vX3_faultOfNumber.2⟩ (lyx_is hy 3 3 rfl) (sx_part_6_5_1 hy hr hI17304 v17318 cz v17313 (by omega) (by omega) (by omega) (by omega) (by omega) (by omega) (by rw [e17310]; omega)) (Nat.le_of_ble_eq_true rfl) ?_
        intro r I17327 J17328 Ra hq
        obtain ⟨⟨hI17327, ec, fiI17327, fjI17327, ⟨pI17327, sI17327_4_0, sI17327_6_1, sI17327_6_2⟩⟩, v17329, rfl, av17329, bv17329, cv17329⟩ := hq
        show WP _ _ _ _ (.int _ :: _) _ _ _ _
        rw [ec]
        clear ec Ra
        have fr17330 : fz 74 g [1, 4] I I17327 := fz_tr fr17306 (fz_mono fiI17327 (by decide))
        have fr17331 : fz 74 g [1] J J17328 := fz_tr fr17307 (fz_mono fjI17327 (by decide))
        have e17332 : I17327 (ad g 4) 0 = w17302 := by rw [sI17327_4_0]; exact e17310
        have e17333 : I17327 (ad g 6) 1 = w17275 := by rw [sI17327_6_1]; exact e17308
        have e17334 : I17327 (ad g 6) 2 = w17276 := by rw [sI17327_6_2]; exact e17309
        have e17335 : I17327 (ad g 1) 1 = L := hI17327.2
        have b17336 := BT_get hI17327.1 1 1 2 (0) (0) (900) (by decide) 1 (by decide) (by decide)
        rw [e17335] at b17336
        obtain ⟨w17337, ew17337⟩ : ∃ w : Int32, I17327 (ad g 4) 1 = w := ⟨_, rfl⟩
        have bw17337 := BT_get hI17327.1 4 0 5 (0) (0) (1000) (by decide) 1 (by decide) (by decide)
        rw [ew17337] at bw17337
        rw [ew17337] at cv17329
        refine WP_istore (ls' := [(0, _), (1, _), (2, _), (3, _), (4, _), (5, _), (6, _), (7, _)]) dX3_faultInParts_102 (by decide) rfl ?_
        refine WP_iload dX3_faultInParts_104 rfl ?_
        refine WQ_if_eq 112 dX3_faultInParts_106 rfl (fun c17337 => ?_) (fun c17337 => ?_)
        · refine WP_aload_n dX3_faultInParts_112 rfl ?_
          refine WP_getr dX3_faultInParts_113 fX3_15 rfl (lyx_is hy 3 3 rfl) (rfx hr 3 2 1 (by decide)) ?_
          refine WP_callV0 (k := 5) dX3_faultInParts_116 ⟨⟨⟨by decide, by decide⟩, zX5_next⟩, lX3_40, by decide, rfl, vX5_next.1, vX5_next.2⟩ (lyx_is hy 1 5 rfl) (sx_nextf hy hr hI17327  ) (Nat.le_of_ble_eq_true rfl) ?_
          intro r I17339 J17340 Ra hq
          obtain ⟨⟨hI17339, ec, fiI17339, fjI17339⟩, rfl⟩ := hq
          rw [ec]
          clear ec Ra
          have fr17341 : fz 74 g [1, 4] I I17339 := fz_tr fr17330 (fz_mono fiI17339 (by decide))
          have fr17342 : fz 74 g [1] J J17340 := fz_tr fr17331 (fz_mono fjI17339 (by decide))
          have e17343 : I17339 (ad g 4) 0 = w17302 := by rw [fz_at fiI17339 4 (by decide) (by decide)]; exact e17332
          have e17344 : I17339 (ad g 6) 1 = w17275 := by rw [fz_at fiI17339 6 (by decide) (by decide)]; exact e17333
          have e17345 : I17339 (ad g 6) 2 = w17276 := by rw [fz_at fiI17339 6 (by decide) (by decide)]; exact e17334
          have e17346 : I17339 (ad g 4) 1 = w17337 := by rw [fz_at fiI17339 4 (by decide) (by decide)]; exact ew17337
          have e17347 : I17339 (ad g 1) 1 = L := hI17339.2
          have b17348 := BT_get hI17339.1 1 1 2 (0) (0) (900) (by decide) 1 (by decide) (by decide)
          rw [e17347] at b17348
          refine WP_iinc (ls' := [(0, _), (1, _), (2, _), (3, _), (4, _), (5, _), (6, _), (7, _)]) dX3_faultInParts_119 rfl (by decide) rfl ?_
          have hv17349 : (v17313 + Int32.ofInt (1)).toInt = v17313.toInt + (1) := ia_n rfl (by omega) (by omega)
          generalize v17313 + Int32.ofInt (1) = v17349 at hv17349 ⊢
          refine WP_goto 8 dX3_faultInParts_122 rfl ?_
          refine WP_iload dX3_faultInParts_8 rfl ?_
          refine WP_aload_n dX3_faultInParts_10 rfl ?_
          refine WS_call hz (i := 15) (by omega) dX3_faultInParts_11 ⟨⟨by decide, by decide⟩, zJ0_length_8abf5⟩ lX3_87 vJ0_length_8abf5 (As := []) (rest := [.int v17349]) (j_length hz (i := 15) (by omega)) rfl rfl (Nat.le_of_ble_eq_true rfl) ?_
          intro r Ia Ja Ra hq
          obtain ⟨⟨ea, eb, ec⟩, v17350, rfl, cv17350⟩ := hq
          show WP _ _ _ _ (.int _ :: _) _ _ _ _
          rw [ea, eb, ec]
          clear ea eb ec Ia Ja Ra
          have hv17350 : v17350.toInt = 3 := cv17350.trans rfl
          refine WQ_icmp_ge 125 dX3_faultInParts_14 rfl (fun c17350 => False.elim (by omega)) (fun c17350 => ?_)
          refine WP_iload dX3_faultInParts_17 rfl ?_
          refine WQ_iconst (5) (5) dX3_faultInParts_19 rfl rfl (fun v17352 hv17352 => ?_)
          refine WQ_icmp_ge 125 dX3_faultInParts_20 rfl (fun c17352 => False.elim (by omega)) (fun c17352 => ?_)
          refine WP_aload_n dX3_faultInParts_23 rfl ?_
          refine WP_iload dX3_faultInParts_24 rfl ?_
          refine WS_call hz (i := 15) (by omega) dX3_faultInParts_26 ⟨⟨by decide, by decide⟩, zJ0_charAt_5068e⟩ lX3_92 vJ0_charAt_5068e (As := [.int v17349]) (rest := []) (j_charAt hz (i := 15) (k := v17349) (by omega) (by omega) (by have z9 : ((liN.getD 15 0 : Nat) : Int) = 3 := rfl; omega)) rfl rfl (Nat.le_of_ble_eq_true rfl) ?_
          intro r Ia Ja Ra hq
          obtain ⟨⟨ea, eb, ec⟩, v17354, rfl, cv17354⟩ := hq
          show WP _ _ _ _ (.int _ :: _) _ _ _ _
          rw [ea, eb, ec]
          clear ea eb ec Ia Ja Ra
          have hv17354 : v17354.toInt = 77 := cv17354.trans (by rw [show v17349.toInt.toNat = 2 by omega]; rfl)
          refine WP_istore (ls' := [(0, _), (1, _), (2, _), (3, _), (4, _), (5, _), (6, _), (7, _)]) dX3_faultInParts_29 (by decide) rfl ?_
          refine WP_iload dX3_faultInParts_31 rfl ?_
          refine WQ_bipush (97) (97) dX3_faultInParts_33 rfl rfl (fun v17355 hv17355 => ?_)
          refine WQ_icmp_lt 49 dX3_faultInParts_35 rfl (fun c17355 => ?_) (fun c17355 => False.elim (by omega))
          refine WQ_iconst (0) (0) dX3_faultInParts_49 rfl rfl (fun v17357 hv17357 => ?_)
          refine WP_istore (ls' := [(0, _), (1, _), (2, _), (3, _), (4, _), (5, _), (6, _), (7, _)]) dX3_faultInParts_50 (by decide) rfl ?_
          refine WP_aload_n dX3_faultInParts_52 rfl ?_
          refine WP_getr dX3_faultInParts_53 fX3_15 rfl (lyx_is hy 3 3 rfl) (rfx hr 3 2 1 (by decide)) ?_
          refine WQ_geti dX3_faultInParts_56 fX3_43 rfl (lyx_is hy 1 5 rfl) (BT_get hI17339.1 1 2 3 (0) (0) (4) (by decide) 2 (by decide) (by decide)) (fun v17358 ev17358 av17358 bv17358 => ?_)
          refine WP_iload dX3_faultInParts_59 rfl ?_
          refine WQ_if_eq 68 dX3_faultInParts_61 rfl (fun c17358 => ?_) (fun c17358 => False.elim (by omega))
          refine WQ_iconst (2) (2) dX3_faultInParts_68 rfl rfl (fun v17360 hv17360 => ?_)
          refine WQ_icmp_eq 74 dX3_faultInParts_69 rfl (fun c17360 => ?_) (fun c17360 => ?_)
          · refine WP_iload dX3_faultInParts_74 rfl ?_
            refine WQ_if_eq 92 dX3_faultInParts_76 rfl (fun c17361 => ?_) (fun c17361 => False.elim (by omega))
            refine WP_aload_n dX3_faultInParts_92 rfl ?_
            refine WP_iload dX3_faultInParts_93 rfl ?_
            refine WP_iload_n dX3_faultInParts_95 rfl ?_
            refine WP_iload dX3_faultInParts_96 rfl ?_
            refine WP_aload_n dX3_faultInParts_98 rfl ?_
            refine WP_callV4 (k := 3) dX3_faultInParts_99 ⟨⟨⟨by decide, by decide⟩, zX3_faultOfNumber⟩, lX3_100, by decide, rfl, vX3_faultOfNumber.1, vX3_faultOfNumber.2⟩ (lyx_is hy 3 3 rfl) (sx_part_6_5_2 hy hr hI17339 v17354 cz v17349 (by omega) (by omega) (by omega) (by omega) (by omega) (by omega)) (Nat.le_of_ble_eq_true rfl) ?_
            intro r I17363 J17364 Ra hq
            obtain ⟨⟨hI17363, ec, fiI17363, fjI17363, ⟨pI17363, sI17363_4_0, sI17363_4_1, sI17363_6_1, sI17363_6_2⟩⟩, v17365, rfl, av17365, bv17365, cv17365⟩ := hq
            show WP _ _ _ _ (.int _ :: _) _ _ _ _
            rw [ec]
            clear ec Ra
            have fr17366 : fz 74 g [1, 4] I I17363 := fz_tr fr17341 (fz_mono fiI17363 (by decide))
            have fr17367 : fz 74 g [1] J J17364 := fz_tr fr17342 (fz_mono fjI17363 (by decide))
            have e17368 : I17363 (ad g 4) 0 = w17302 := by rw [sI17363_4_0]; exact e17343
            have e17369 : I17363 (ad g 4) 1 = w17337 := by rw [sI17363_4_1]; exact e17346
            have e17370 : I17363 (ad g 6) 1 = w17275 := by rw [sI17363_6_1]; exact e17344
            have e17371 : I17363 (ad g 6) 2 = w17276 := by rw [sI17363_6_2]; exact e17345
            have e17372 : I17363 (ad g 1) 1 = L := hI17363.2
            have b17373 := BT_get hI17363.1 1 1 2 (0) (0) (900) (by decide) 1 (by decide) (by decide)
            rw [e17372] at b17373
            obtain ⟨w17374, ew17374⟩ : ∃ w : Int32, I17363 (ad g 4) 2 = w := ⟨_, rfl⟩
            have bw17374 := BT_get hI17363.1 4 0 5 (0) (0) (1000) (by decide) 2 (by decide) (by decide)
            rw [ew17374] at bw17374
            rw [ew17374] at cv17365
            refine WP_istore (ls' := [(0, _), (1, _), (2, _), (3, _), (4, _), (5, _), (6, _), (7, _)]) dX3_faultInParts_102 (by decide) rfl ?_
            refine WP_iload dX3_faultInParts_104 rfl ?_
            refine WQ_if_eq 112 dX3_faultInParts_106 rfl (fun c17374 => ?_) (fun c17374 => ?_)
            · refine WP_aload_n dX3_faultInParts_112 rfl ?_
              refine WP_getr dX3_faultInParts_113 fX3_15 rfl (lyx_is hy 3 3 rfl) (rfx hr 3 2 1 (by decide)) ?_
              refine WP_callV0 (k := 5) dX3_faultInParts_116 ⟨⟨⟨by decide, by decide⟩, zX5_next⟩, lX3_40, by decide, rfl, vX5_next.1, vX5_next.2⟩ (lyx_is hy 1 5 rfl) (sx_nextf hy hr hI17363  ) (Nat.le_of_ble_eq_true rfl) ?_
              intro r I17376 J17377 Ra hq
              obtain ⟨⟨hI17376, ec, fiI17376, fjI17376⟩, rfl⟩ := hq
              rw [ec]
              clear ec Ra
              have fr17378 : fz 74 g [1, 4] I I17376 := fz_tr fr17366 (fz_mono fiI17376 (by decide))
              have fr17379 : fz 74 g [1] J J17377 := fz_tr fr17367 (fz_mono fjI17376 (by decide))
              have e17380 : I17376 (ad g 4) 0 = w17302 := by rw [fz_at fiI17376 4 (by decide) (by decide)]; exact e17368
              have e17381 : I17376 (ad g 4) 1 = w17337 := by rw [fz_at fiI17376 4 (by decide) (by decide)]; exact e17369
              have e17382 : I17376 (ad g 6) 1 = w17275 := by rw [fz_at fiI17376 6 (by decide) (by decide)]; exact e17370
              have e17383 : I17376 (ad g 6) 2 = w17276 := by rw [fz_at fiI17376 6 (by decide) (by decide)]; exact e17371
              have e17384 : I17376 (ad g 4) 2 = w17374 := by rw [fz_at fiI17376 4 (by decide) (by decide)]; exact ew17374
              have e17385 : I17376 (ad g 1) 1 = L := hI17376.2
              have b17386 := BT_get hI17376.1 1 1 2 (0) (0) (900) (by decide) 1 (by decide) (by decide)
              rw [e17385] at b17386
              refine WP_iinc (ls' := [(0, _), (1, _), (2, _), (3, _), (4, _), (5, _), (6, _), (7, _)]) dX3_faultInParts_119 rfl (by decide) rfl ?_
              have hv17387 : (v17349 + Int32.ofInt (1)).toInt = v17349.toInt + (1) := ia_n rfl (by omega) (by omega)
              generalize v17349 + Int32.ofInt (1) = v17387 at hv17387 ⊢
              refine WP_goto 8 dX3_faultInParts_122 rfl ?_
              refine WP_iload dX3_faultInParts_8 rfl ?_
              refine WP_aload_n dX3_faultInParts_10 rfl ?_
              refine WS_call hz (i := 15) (by omega) dX3_faultInParts_11 ⟨⟨by decide, by decide⟩, zJ0_length_8abf5⟩ lX3_87 vJ0_length_8abf5 (As := []) (rest := [.int v17387]) (j_length hz (i := 15) (by omega)) rfl rfl (Nat.le_of_ble_eq_true rfl) ?_
              intro r Ia Ja Ra hq
              obtain ⟨⟨ea, eb, ec⟩, v17388, rfl, cv17388⟩ := hq
              show WP _ _ _ _ (.int _ :: _) _ _ _ _
              rw [ea, eb, ec]
              clear ea eb ec Ia Ja Ra
              have hv17388 : v17388.toInt = 3 := cv17388.trans rfl
              refine WQ_icmp_ge 125 dX3_faultInParts_14 rfl (fun c17388 => ?_) (fun c17388 => False.elim (by omega))
              refine WP_aload_n dX3_faultInParts_125 rfl ?_
              refine WP_getr dX3_faultInParts_126 fX3_15 rfl (lyx_is hy 3 3 rfl) (rfx hr 3 2 1 (by decide)) ?_
              refine WQ_geti dX3_faultInParts_129 fX3_43 rfl (lyx_is hy 1 5 rfl) (BT_get hI17376.1 1 2 3 (0) (0) (4) (by decide) 2 (by decide) (by decide)) (fun v17390 ev17390 av17390 bv17390 => ?_)
              refine WQ_iconst (3) (3) dX3_faultInParts_132 rfl rfl (fun v17391 hv17391 => ?_)
              refine WQ_icmp_ne 140 dX3_faultInParts_133 rfl (fun c17391 => ?_) (fun c17391 => ?_)
              · refine WQ_iconst (1) (1) dX3_faultInParts_140 rfl rfl (fun v17393 hv17393 => ?_)
                exact WP_iret dX3_faultInParts_141 rfl ⟨⟨hI17376, rfl, fr17378, fr17379, ⟨trivial, (by rw [e17382, ew17275] <;> exact (eq32 _ _).mpr (by omega)), (by rw [e17383, ew17276] <;> exact (eq32 _ _).mpr (by omega))⟩⟩, _, rfl, by omega, by omega, by (try rw [e17380]; try rw [e17381]; try rw [e17384]); omega⟩
              · refine WQ_iconst (0) (0) dX3_faultInParts_136 rfl rfl (fun v17394 hv17394 => ?_)
                refine WP_goto 141 dX3_faultInParts_137 rfl ?_
                exact WP_iret dX3_faultInParts_141 rfl ⟨⟨hI17376, rfl, fr17378, fr17379, ⟨trivial, (by rw [e17382, ew17275] <;> exact (eq32 _ _).mpr (by omega)), (by rw [e17383, ew17276] <;> exact (eq32 _ _).mpr (by omega))⟩⟩, _, rfl, by omega, by omega, by (try rw [e17380]; try rw [e17381]; try rw [e17384]); omega⟩
            · refine WP_iload dX3_faultInParts_109 rfl ?_
              exact WP_iret dX3_faultInParts_111 rfl ⟨⟨hI17363, rfl, fr17366, fr17367, ⟨trivial, (by rw [e17370, ew17275] <;> exact (eq32 _ _).mpr (by omega)), (by rw [e17371, ew17276] <;> exact (eq32 _ _).mpr (by omega))⟩⟩, _, rfl, by omega, by omega, by (try rw [e17368]; try rw [e17369]; try rw [ew17374]); omega⟩
          · refine WQ_iconst (1) (1) dX3_faultInParts_72 rfl rfl (fun v17395 hv17395 => ?_)
            obtain ⟨w17396, ew17396⟩ : ∃ w : Int32, I17339 (ad g 4) 2 = w := ⟨_, rfl⟩
            have bw17396 := BT_get hI17339.1 4 0 5 (0) (0) (1000) (by decide) 2 (by decide) (by decide)
            rw [ew17396] at bw17396
            exact WP_iret dX3_faultInParts_73 rfl ⟨⟨hI17339, rfl, fr17341, fr17342, ⟨trivial, (by rw [e17344, ew17275] <;> exact (eq32 _ _).mpr (by omega)), (by rw [e17345, ew17276] <;> exact (eq32 _ _).mpr (by omega))⟩⟩, _, rfl, by omega, by omega, by (try rw [e17343]; try rw [e17346]; try rw [ew17396]); omega⟩
        · refine WP_iload dX3_faultInParts_109 rfl ?_
          obtain ⟨w17397, ew17397⟩ : ∃ w : Int32, I17327 (ad g 4) 2 = w := ⟨_, rfl⟩
          have bw17397 := BT_get hI17327.1 4 0 5 (0) (0) (1000) (by decide) 2 (by decide) (by decide)
          rw [ew17397] at bw17397
          exact WP_iret dX3_faultInParts_111 rfl ⟨⟨hI17327, rfl, fr17330, fr17331, ⟨trivial, (by rw [e17333, ew17275] <;> exact (eq32 _ _).mpr (by omega)), (by rw [e17334, ew17276] <;> exact (eq32 _ _).mpr (by omega))⟩⟩, _, rfl, by omega, by omega, by (try rw [e17332]; try rw [ew17337]; try rw [ew17397]); omega⟩
      · refine WQ_iconst (1) (1) dX3_faultInParts_72 rfl rfl (fun v17398 hv17398 => ?_)
        obtain ⟨w17399, ew17399⟩ : ∃ w : Int32, I17304 (ad g 4) 1 = w := ⟨_, rfl⟩
        have bw17399 := BT_get hI17304.1 4 0 5 (0) (0) (1000) (by decide) 1 (by decide) (by decide)
        rw [ew17399] at bw17399
        obtain ⟨w17400, ew17400⟩ : ∃ w : Int32, I17304 (ad g 4) 2 = w := ⟨_, rfl⟩
        have bw17400 := BT_get hI17304.1 4 0 5 (0) (0) (1000) (by decide) 2 (by decide) (by decide)
        rw [ew17400] at bw17400
        exact WP_iret dX3_faultInParts_73 rfl ⟨⟨hI17304, rfl, fr17306, fr17307, ⟨trivial, (by rw [e17308, ew17275] <;> exact (eq32 _ _).mpr (by omega)), (by rw [e17309, ew17276] <;> exact (eq32 _ _).mpr (by omega))⟩⟩, _, rfl, by omega, by omega, by (try rw [e17310]; try rw [ew17399]; try rw [ew17400]); omega⟩
    · refine WP_iload dX3_faultInParts_109 rfl ?_
      obtain ⟨w17401, ew17401⟩ : ∃ w : Int32, I17293 (ad g 4) 1 = w := ⟨_, rfl⟩
      have bw17401 := BT_get hI17293.1 4 0 5 (0) (0) (1000) (by decide) 1 (by decide) (by decide)
      rw [ew17401] at bw17401
      obtain ⟨w17402, ew17402⟩ : ∃ w : Int32, I17293 (ad g 4) 2 = w := ⟨_, rfl⟩
      have bw17402 := BT_get hI17293.1 4 0 5 (0) (0) (1000) (by decide) 2 (by decide) (by decide)
      rw [ew17402] at bw17402
      exact WP_iret dX3_faultInParts_111 rfl ⟨⟨hI17293, rfl, fr17296, fr17297, ⟨trivial, (by rw [e17298, ew17275] <;> exact (eq32 _ _).mpr (by omega)), (by rw [e17299, ew17276] <;> exact (eq32 _ _).mpr (by omega))⟩⟩, _, rfl, by omega, by omega, by (try rw [ew17302]; try rw [ew17401]; try rw [ew17402]); omega⟩
  · refine WQ_iconst (1) (1) dX3_faultInParts_72 rfl rfl (fun v17403 hv17403 => ?_)
    obtain ⟨w17404, ew17404⟩ : ∃ w : Int32, I (ad g 4) 0 = w := ⟨_, rfl⟩
    have bw17404 := BT_get hI.1 4 0 5 (0) (0) (1000) (by decide) 0 (by decide) (by decide)
    rw [ew17404] at bw17404
    obtain ⟨w17405, ew17405⟩ : ∃ w : Int32, I (ad g 4) 1 = w := ⟨_, rfl⟩
    have bw17405 := BT_get hI.1 4 0 5 (0) (0) (1000) (by decide) 1 (by decide) (by decide)
    rw [ew17405] at bw17405
    obtain ⟨w17406, ew17406⟩ : ∃ w : Int32, I (ad g 4) 2 = w := ⟨_, rfl⟩
    have bw17406 := BT_get hI.1 4 0 5 (0) (0) (1000) (by decide) 2 (by decide) (by decide)
    rw [ew17406] at bw17406
    exact WP_iret dX3_faultInParts_73 rfl ⟨⟨hI, rfl, fr0, frj0, ⟨trivial, rfl, rfl⟩⟩, _, rfl, by omega, by omega, by (try rw [ew17404]; try rw [ew17405]; try rw [ew17406]); omega⟩
set_option maxHeartbeats 4000000 in
set_option maxRecDepth 100000 in
theorem sx_parts_6_6 {g : GG} {n : Int} {L : Int32} (hy : LyX g) {aK aV : Nat → Nat} {fo : Option Nat} (hz : HZ g aK aV fo)  {I : pI} {J : pJ} {R : pR} (hr : RfX g R) (hI : XI g n L I) (cz : Int32) (cz_lo : 6 ≤ cz.toInt) (cz_hi : cz.toInt ≤ 6) : SP g mX3_faultInParts [.ref (ad g 3), .int cz, .ref (ad g 6)] I J R (fun r I' J' R' => (XI g n L I' ∧ R' = R ∧ fz 74 g [1, 4] I I' ∧ fz 74 g [1] J J' ∧ True ∧ I' (ad g 6) 1 = I (ad g 6) 1 ∧ I' (ad g 6) 2 = I (ad g 6) 2) ∧ ∃ v : Int32, r = some (.int v) ∧ 0 ≤ v.toInt ∧ v.toInt ≤ 5 ∧ (v.toInt = 0 → (I' (ad g 4) 0).toInt ≤ 3 ∧ (I' (ad g 4) 1).toInt ≤ 2 ∧ (I' (ad g 4) 2).toInt ≤ 6 ∧ (I' (ad g 4) 3).toInt ≤ 3 ∧ (I' (ad g 4) 4).toInt ≤ 99)) := by
  refine SP_of ⟨by decide, rfl⟩ (Nat.le_of_ble_eq_true rfl) ?_
  have e17407 : I (ad g 1) 1 = L := hI.2
  have b17408 := BT_get hI.1 1 1 2 (0) (0) (900) (by decide) 1 (by decide) (by decide)
  rw [e17407] at b17408
  have fr0 : fz 74 g [1, 4] I I := fz_rf
  have frj0 : fz 74 g [1] J J := fz_rf
  obtain ⟨w17409, ew17409⟩ : ∃ w : Int32, I (ad g 6) 1 = w := ⟨_, rfl⟩
  have bw17409 := BT_get hI.1 6 1 2 (0) (0) (4) (by decide) 1 (by decide) (by decide)
  rw [ew17409] at bw17409
  obtain ⟨w17410, ew17410⟩ : ∃ w : Int32, I (ad g 6) 2 = w := ⟨_, rfl⟩
  have bw17410 := BT_get hI.1 6 2 3 (0) (0) (3) (by decide) 2 (by decide) (by decide)
  rw [ew17410] at bw17410
  refine WP_iload_n dX3_faultInParts_0 rfl ?_
  refine WP_callS1 dX3_faultInParts_1 ⟨⟨⟨by decide, by decide⟩, zX3_shapeOf⟩, lX3_84, tX3_shapeOf⟩ (sx_shapeOf hy hz hr hI cz (by omega) (by omega)) (Nat.le_of_ble_eq_true rfl) ?_
  intro r Ia Ja Ra hq
  obtain ⟨⟨ea, eb, ec⟩, rfl⟩ := hq
  show WP _ _ _ _ (.ref _ :: _) _ _ _ _
  rw [show 10 + cz.toInt.toNat = 16 by omega]
  rw [ea, eb, ec]
  clear ea eb ec Ia Ja Ra
  refine WP_astore_n (ls' := [(0, _), (1, _), (2, _), (3, _)]) dX3_faultInParts_4 (by decide) rfl ?_
  refine WQ_iconst (0) (0) dX3_faultInParts_5 rfl rfl (fun v17411 hv17411 => ?_)
  refine WP_istore (ls' := [(0, _), (1, _), (2, _), (3, _), (4, _)]) dX3_faultInParts_6 (by decide) rfl ?_
  refine WP_iload dX3_faultInParts_8 rfl ?_
  refine WP_aload_n dX3_faultInParts_10 rfl ?_
  refine WS_call hz (i := 16) (by omega) dX3_faultInParts_11 ⟨⟨by decide, by decide⟩, zJ0_length_8abf5⟩ lX3_87 vJ0_length_8abf5 (As := []) (rest := [.int v17411]) (j_length hz (i := 16) (by omega)) rfl rfl (Nat.le_of_ble_eq_true rfl) ?_
  intro r Ia Ja Ra hq
  obtain ⟨⟨ea, eb, ec⟩, v17412, rfl, cv17412⟩ := hq
  show WP _ _ _ _ (.int _ :: _) _ _ _ _
  rw [ea, eb, ec]
  clear ea eb ec Ia Ja Ra
  have hv17412 : v17412.toInt = 5 := cv17412.trans rfl
  refine WQ_icmp_ge 125 dX3_faultInParts_14 rfl (fun c17412 => False.elim (by omega)) (fun c17412 => ?_)
  refine WP_iload dX3_faultInParts_17 rfl ?_
  refine WQ_iconst (5) (5) dX3_faultInParts_19 rfl rfl (fun v17414 hv17414 => ?_)
  refine WQ_icmp_ge 125 dX3_faultInParts_20 rfl (fun c17414 => False.elim (by omega)) (fun c17414 => ?_)
  refine WP_aload_n dX3_faultInParts_23 rfl ?_
  refine WP_iload dX3_faultInParts_24 rfl ?_
  refine WS_call hz (i := 16) (by omega) dX3_faultInParts_26 ⟨⟨by decide, by decide⟩, zJ0_charAt_5068e⟩ lX3_92 vJ0_charAt_5068e (As := [.int v17411]) (rest := []) (j_charAt hz (i := 16) (k := v17411) (by omega) (by omega) (by have z9 : ((liN.getD 16 0 : Nat) : Int) = 5 := rfl; omega)) rfl rfl (Nat.le_of_ble_eq_true rfl) ?_
  intro r Ia Ja Ra hq
  obtain ⟨⟨ea, eb, ec⟩, v17416, rfl, cv17416⟩ := hq
  show WP _ _ _ _ (.int _ :: _) _ _ _ _
  rw [ea, eb, ec]
  clear ea eb ec Ia Ja Ra
  have hv17416 : v17416.toInt = 115 := cv17416.trans (by rw [show v17411.toInt.toNat = 0 by omega]; rfl)
  refine WP_istore (ls' := [(0, _), (1, _), (2, _), (3, _), (4, _), (5, _)]) dX3_faultInParts_29 (by decide) rfl ?_
  refine WP_iload dX3_faultInParts_31 rfl ?_
  refine WQ_bipush (97) (97) dX3_faultInParts_33 rfl rfl (fun v17417 hv17417 => ?_)
  refine WQ_icmp_lt 49 dX3_faultInParts_35 rfl (fun c17417 => False.elim (by omega)) (fun c17417 => ?_)
  refine WP_iload dX3_faultInParts_38 rfl ?_
  refine WQ_bipush (122) (122) dX3_faultInParts_40 rfl rfl (fun v17419 hv17419 => ?_)
  refine WQ_icmp_gt 49 dX3_faultInParts_42 rfl (fun c17419 => False.elim (by omega)) (fun c17419 => ?_)
  refine WQ_iconst (1) (1) dX3_faultInParts_45 rfl rfl (fun v17421 hv17421 => ?_)
  refine WP_goto 50 dX3_faultInParts_46 rfl ?_
  refine WP_istore (ls' := [(0, _), (1, _), (2, _), (3, _), (4, _), (5, _), (6, _)]) dX3_faultInParts_50 (by decide) rfl ?_
  refine WP_aload_n dX3_faultInParts_52 rfl ?_
  refine WP_getr dX3_faultInParts_53 fX3_15 rfl (lyx_is hy 3 3 rfl) (rfx hr 3 2 1 (by decide)) ?_
  refine WQ_geti dX3_faultInParts_56 fX3_43 rfl (lyx_is hy 1 5 rfl) (BT_get hI.1 1 2 3 (0) (0) (4) (by decide) 2 (by decide) (by decide)) (fun v17422 ev17422 av17422 bv17422 => ?_)
  refine WP_iload dX3_faultInParts_59 rfl ?_
  refine WQ_if_eq 68 dX3_faultInParts_61 rfl (fun c17422 => False.elim (by omega)) (fun c17422 => ?_)
  refine WQ_iconst (1) (1) dX3_faultInParts_64 rfl rfl (fun v17424 hv17424 => ?_)
  refine WP_goto 69 dX3_faultInParts_65 rfl ?_
  refine WQ_icmp_eq 74 dX3_faultInParts_69 rfl (fun c17424 => ?_) (fun c17424 => ?_)
  · refine WP_iload dX3_faultInParts_74 rfl ?_
    refine WQ_if_eq 92 dX3_faultInParts_76 rfl (fun c17425 => False.elim (by omega)) (fun c17425 => ?_)
    refine WP_aload_n dX3_faultInParts_79 rfl ?_
    refine WP_iload dX3_faultInParts_80 rfl ?_
    refine WP_iload_n dX3_faultInParts_82 rfl ?_
    refine WP_iload dX3_faultInParts_83 rfl ?_
    refine WP_aload_n dX3_faultInParts_85 rfl ?_
    refine WP_callV4 (k := 3) dX3_faultInParts_86 ⟨⟨⟨by decide, by decide⟩, zX3_faultOfName⟩, lX3_96, by decide, rfl, vX3_faultOfName.1, vX3_faultOfName.2⟩ (lyx_is hy 3 3 rfl) (sx_part_6_6_0 hy hr hI v17416 cz v17411 (by omega) (by omega) (by omega) (by omega) (by omega) (by omega)) (Nat.le_of_ble_eq_true rfl) ?_
    intro r I17427 J17428 Ra hq
    obtain ⟨⟨hI17427, ec, fiI17427, fjI17427, ⟨pI17427, sI17427_6_1, sI17427_6_2⟩⟩, v17429, rfl, av17429, bv17429, cv17429⟩ := hq
    show WP _ _ _ _ (.int _ :: _) _ _ _ _
    rw [ec]
    clear ec Ra
    have fr17430 : fz 74 g [1, 4] I I17427 := fz_tr fr0 (fz_mono fiI17427 (by decide))
    have fr17431 : fz 74 g [1] J J17428 := fz_tr frj0 (fz_mono fjI17427 (by decide))
    have e17432 : I17427 (ad g 6) 1 = w17409 := by rw [sI17427_6_1]; exact ew17409
    have e17433 : I17427 (ad g 6) 2 = w17410 := by rw [sI17427_6_2]; exact ew17410
    have e17434 : I17427 (ad g 1) 1 = L := hI17427.2
    have b17435 := BT_get hI17427.1 1 1 2 (0) (0) (900) (by decide) 1 (by decide) (by decide)
    rw [e17434] at b17435
    obtain ⟨w17436, ew17436⟩ : ∃ w : Int32, I17427 (ad g 4) 0 = w := ⟨_, rfl⟩
    have bw17436 := BT_get hI17427.1 4 0 5 (0) (0) (1000) (by decide) 0 (by decide) (by decide)
    rw [ew17436] at bw17436
    rw [ew17436] at cv17429
    refine WP_goto 102 dX3_faultInParts_89 rfl ?_
    refine WP_istore (ls' := [(0, _), (1, _), (2, _), (3, _), (4, _), (5, _), (6, _), (7, _)]) dX3_faultInParts_102 (by decide) rfl ?_
    refine WP_iload dX3_faultInParts_104 rfl ?_
    refine WQ_if_eq 112 dX3_faultInParts_106 rfl (fun c17436 => ?_) (fun c17436 => ?_)
    · refine WP_aload_n dX3_faultInParts_112 rfl ?_
      refine WP_getr dX3_faultInParts_113 fX3_15 rfl (lyx_is hy 3 3 rfl) (rfx hr 3 2 1 (by decide)) ?_
      refine WP_callV0 (k := 5) dX3_faultInParts_116 ⟨⟨⟨by decide, by decide⟩, zX5_next⟩, lX3_40, by decide, rfl, vX5_next.1, vX5_next.2⟩ (lyx_is hy 1 5 rfl) (sx_nextf hy hr hI17427  ) (Nat.le_of_ble_eq_true rfl) ?_
      intro r I17438 J17439 Ra hq
      obtain ⟨⟨hI17438, ec, fiI17438, fjI17438⟩, rfl⟩ := hq
      rw [ec]
      clear ec Ra
      have fr17440 : fz 74 g [1, 4] I I17438 := fz_tr fr17430 (fz_mono fiI17438 (by decide))
      have fr17441 : fz 74 g [1] J J17439 := fz_tr fr17431 (fz_mono fjI17438 (by decide))
      have e17442 : I17438 (ad g 6) 1 = w17409 := by rw [fz_at fiI17438 6 (by decide) (by decide)]; exact e17432
      have e17443 : I17438 (ad g 6) 2 = w17410 := by rw [fz_at fiI17438 6 (by decide) (by decide)]; exact e17433
      have e17444 : I17438 (ad g 4) 0 = w17436 := by rw [fz_at fiI17438 4 (by decide) (by decide)]; exact ew17436
      have e17445 : I17438 (ad g 1) 1 = L := hI17438.2
      have b17446 := BT_get hI17438.1 1 1 2 (0) (0) (900) (by decide) 1 (by decide) (by decide)
      rw [e17445] at b17446
      refine WP_iinc (ls' := [(0, _), (1, _), (2, _), (3, _), (4, _), (5, _), (6, _), (7, _)]) dX3_faultInParts_119 rfl (by decide) rfl ?_
      have hv17447 : (v17411 + Int32.ofInt (1)).toInt = v17411.toInt + (1) := ia_n rfl (by omega) (by omega)
      generalize v17411 + Int32.ofInt (1) = v17447 at hv17447 ⊢
      refine WP_goto 8 dX3_faultInParts_122 rfl ?_
      refine WP_iload dX3_faultInParts_8 rfl ?_
      refine WP_aload_n dX3_faultInParts_10 rfl ?_
      refine WS_call hz (i := 16) (by omega) dX3_faultInParts_11 ⟨⟨by decide, by decide⟩, zJ0_length_8abf5⟩ lX3_87 vJ0_length_8abf5 (As := []) (rest := [.int v17447]) (j_length hz (i := 16) (by omega)) rfl rfl (Nat.le_of_ble_eq_true rfl) ?_
      intro r Ia Ja Ra hq
      obtain ⟨⟨ea, eb, ec⟩, v17448, rfl, cv17448⟩ := hq
      show WP _ _ _ _ (.int _ :: _) _ _ _ _
      rw [ea, eb, ec]
      clear ea eb ec Ia Ja Ra
      have hv17448 : v17448.toInt = 5 := cv17448.trans rfl
      refine WQ_icmp_ge 125 dX3_faultInParts_14 rfl (fun c17448 => False.elim (by omega)) (fun c17448 => ?_)
      refine WP_iload dX3_faultInParts_17 rfl ?_
      refine WQ_iconst (5) (5) dX3_faultInParts_19 rfl rfl (fun v17450 hv17450 => ?_)
      refine WQ_icmp_ge 125 dX3_faultInParts_20 rfl (fun c17450 => False.elim (by omega)) (fun c17450 => ?_)
      refine WP_aload_n dX3_faultInParts_23 rfl ?_
      refine WP_iload dX3_faultInParts_24 rfl ?_
      refine WS_call hz (i := 16) (by omega) dX3_faultInParts_26 ⟨⟨by decide, by decide⟩, zJ0_charAt_5068e⟩ lX3_92 vJ0_charAt_5068e (As := [.int v17447]) (rest := []) (j_charAt hz (i := 16) (k := v17447) (by omega) (by omega) (by have z9 : ((liN.getD 16 0 : Nat) : Int) = 5 := rfl; omega)) rfl rfl (Nat.le_of_ble_eq_true rfl) ?_
      intro r Ia Ja Ra hq
      obtain ⟨⟨ea, eb, ec⟩, v17452, rfl, cv17452⟩ := hq
      show WP _ _ _ _ (.int _ :: _) _ _ _ _
      rw [ea, eb, ec]
      clear ea eb ec Ia Ja Ra
      have hv17452 : v17452.toInt = 116 := cv17452.trans (by rw [show v17447.toInt.toNat = 1 by omega]; rfl)
      refine WP_istore (ls' := [(0, _), (1, _), (2, _), (3, _), (4, _), (5, _), (6, _), (7, _)]) dX3_faultInParts_29 (by decide) rfl ?_
      refine WP_iload dX3_faultInParts_31 rfl ?_
      refine WQ_bipush (97) (97) dX3_faultInParts_33 rfl rfl (fun v17453 hv17453 => ?_)
      refine WQ_icmp_lt 49 dX3_faultInParts_35 rfl (fun c17453 => False.elim (by omega)) (fun c17453 => ?_)
      refine WP_iload dX3_faultInParts_38 rfl ?_
      refine WQ_bipush (122) (122) dX3_faultInParts_40 rfl rfl (fun v17455 hv17455 => ?_)
      refine WQ_icmp_gt 49 dX3_faultInParts_42 rfl (fun c17455 => False.elim (by omega)) (fun c17455 => ?_)
      refine WQ_iconst (1) (1) dX3_faultInParts_45 rfl rfl (fun v17457 hv17457 => ?_)
      refine WP_goto 50 dX3_faultInParts_46 rfl ?_
      refine WP_istore (ls' := [(0, _), (1, _), (2, _), (3, _), (4, _), (5, _), (6, _), (7, _)]) dX3_faultInParts_50 (by decide) rfl ?_
      refine WP_aload_n dX3_faultInParts_52 rfl ?_
      refine WP_getr dX3_faultInParts_53 fX3_15 rfl (lyx_is hy 3 3 rfl) (rfx hr 3 2 1 (by decide)) ?_
      refine WQ_geti dX3_faultInParts_56 fX3_43 rfl (lyx_is hy 1 5 rfl) (BT_get hI17438.1 1 2 3 (0) (0) (4) (by decide) 2 (by decide) (by decide)) (fun v17458 ev17458 av17458 bv17458 => ?_)
      refine WP_iload dX3_faultInParts_59 rfl ?_
      refine WQ_if_eq 68 dX3_faultInParts_61 rfl (fun c17458 => False.elim (by omega)) (fun c17458 => ?_)
      refine WQ_iconst (1) (1) dX3_faultInParts_64 rfl rfl (fun v17460 hv17460 => ?_)
      refine WP_goto 69 dX3_faultInParts_65 rfl ?_
      refine WQ_icmp_eq 74 dX3_faultInParts_69 rfl (fun c17460 => ?_) (fun c17460 => ?_)
      · refine WP_iload dX3_faultInParts_74 rfl ?_
        refine WQ_if_eq 92 dX3_faultInParts_76 rfl (fun c17461 => False.elim (by omega)) (fun c17461 => ?_)
        refine WP_aload_n dX3_faultInParts_79 rfl ?_
        refine WP_iload dX3_faultInParts_80 rfl ?_
        refine WP_iload_n dX3_faultInParts_82 rfl ?_
        refine WP_iload dX3_faultInParts_83 rfl ?_
        refine WP_aload_n dX3_faultInParts_85 rfl ?_
        refine WP_callV4 (k := 3) dX3_faultInParts_86 ⟨⟨⟨by decide, by decide⟩, zX3_faultOfName⟩, lX3_96, by decide, rfl, vX3_faultOfName.1, vX3_faultOfName.2⟩ (lyx_is hy 3 3 rfl) (sx_part_6_6_1 hy hr hI17438 v17452 cz v17447 (by omega) (by omega) (by omega) (by omega) (by omega) (by omega)) (Nat.le_of_ble_eq_true rfl) ?_
        intro r I17463 J17464 Ra hq
        obtain ⟨⟨hI17463, ec, fiI17463, fjI17463, ⟨pI17463, sI17463_4_0, sI17463_6_1, sI17463_6_2⟩⟩, v17465, rfl, av17465, bv17465, cv17465⟩ := hq
        show WP _ _ _ _ (.int _ :: _) _ _ _ _
        rw [ec]
        clear ec Ra
        have fr17466 : fz 74 g [1, 4] I I17463 := fz_tr fr17440 (fz_mono fiI17463 (by decide))
        have fr17467 : fz 74 g [1] J J17464 := fz_tr fr17441 (fz_mono fjI17463 (by decide))
        have e17468 : I17463 (ad g 4) 0 = w17436 := by rw [sI17463_4_0]; exact e17444
        have e17469 : I17463 (ad g 6) 1 = w17409 := by rw [sI17463_6_1]; exact e17442
        have e17470 : I17463 (ad g 6) 2 = w17410 := by rw [sI17463_6_2]; exact e17443
        have e17471 : I17463 (ad g 1) 1 = L := hI17463.2
        have b17472 := BT_get hI17463.1 1 1 2 (0) (0) (900) (by decide) 1 (by decide) (by decide)
        rw [e17471] at b17472
        obtain ⟨w17473, ew17473⟩ : ∃ w : Int32, I17463 (ad g 4) 1 = w := ⟨_, rfl⟩
        have bw17473 := BT_get hI17463.1 4 0 5 (0) (0) (1000) (by decide) 1 (by decide) (by decide)
        rw [ew17473] at bw17473
        rw [ew17473] at cv17465
        refine WP_goto 102 dX3_faultInParts_89 rfl ?_
        refine WP_istore (ls' := [(0, _), (1, _), (2, _), (3, _), (4, _), (5, _), (6, _), (7, _)]) dX3_faultInParts_102 (by decide) rfl ?_
        refine WP_iload dX3_faultInParts_104 rfl ?_
        refine WQ_if_eq 112 dX3_faultInParts_106 rfl (fun c17473 => ?_) (fun c17473 => ?_)
        · refine WP_aload_n dX3_faultInParts_112 rfl ?_
          refine WP_getr dX3_faultInParts_113 fX3_15 rfl (lyx_is hy 3 3 rfl) (rfx hr 3 2 1 (by decide)) ?_
          refine WP_callV0 (k := 5) dX3_faultInParts_116 ⟨⟨⟨by decide, by decide⟩, zX5_next⟩, lX3_40, by decide, rfl, vX5_next.1, vX5_next.2⟩ (lyx_is hy 1 5 rfl) (sx_nextf hy hr hI17463  ) (Nat.le_of_ble_eq_true rfl) ?_
          intro r I17475 J17476 Ra hq
          obtain ⟨⟨hI17475, ec, fiI17475, fjI17475⟩, rfl⟩ := hq
          rw [ec]
          clear ec Ra
          have fr17477 : fz 74 g [1, 4] I I17475 := fz_tr fr17466 (fz_mono fiI17475 (by decide))
          have fr17478 : fz 74 g [1] J J17476 := fz_tr fr17467 (fz_mono fjI17475 (by decide))
          have e17479 : I17475 (ad g 4) 0 = w17436 := by rw [fz_at fiI17475 4 (by decide) (by decide)]; exact e17468
          have e17480 : I17475 (ad g 6) 1 = w17409 := by rw [fz_at fiI17475 6 (by decide) (by decide)]; exact e17469
          have e17481 : I17475 (ad g 6) 2 = w17410 := by rw [fz_at fiI17475 6 (by decide) (by decide)]; exact e17470
          have e17482 : I17475 (ad g 4) 1 = w17473 := by rw [fz_at fiI17475 4 (by decide) (by decide)]; exact ew17473
          have e17483 : I17475 (ad g 1) 1 = L := hI17475.2
          have b17484 := BT_get hI17475.1 1 1 2 (0) (0) (900) (by decide) 1 (by decide) (by decide)
          rw [e17483] at b17484
          refine WP_iinc (ls' := [(0, _), (1, _), (2, _), (3, _), (4, _), (5, _), (6, _), (7, _)]) dX3_faultInParts_119 rfl (by decide) rfl ?_
          have hv17485 : (v17447 + Int32.ofInt (1)).toInt = v17447.toInt + (1) := ia_n rfl (by omega) (by omega)
          generalize v17447 + Int32.ofInt (1) = v17485 at hv17485 ⊢
          refine WP_goto 8 dX3_faultInParts_122 rfl ?_
          refine WP_iload dX3_faultInParts_8 rfl ?_
          refine WP_aload_n dX3_faultInParts_10 rfl ?_
          refine WS_call hz (i := 16) (by omega) dX3_faultInParts_11 ⟨⟨by decide, by decide⟩, zJ0_length_8abf5⟩ lX3_87 vJ0_length_8abf5 (As := []) (rest := [.int v17485]) (j_length hz (i := 16) (by omega)) rfl rfl (Nat.le_of_ble_eq_true rfl) ?_
          intro r Ia Ja Ra hq
          obtain ⟨⟨ea, eb, ec⟩, v17486, rfl, cv17486⟩ := hq
          show WP _ _ _ _ (.int _ :: _) _ _ _ _
          rw [ea, eb, ec]
          clear ea eb ec Ia Ja Ra
          have hv17486 : v17486.toInt = 5 := cv17486.trans rfl
          refine WQ_icmp_ge 125 dX3_faultInParts_14 rfl (fun c17486 => False.elim (by omega)) (fun c17486 => ?_)
          refine WP_iload dX3_faultInParts_17 rfl ?_
          refine WQ_iconst (5) (5) dX3_faultInParts_19 rfl rfl (fun v17488 hv17488 => ?_)
          refine WQ_icmp_ge 125 dX3_faultInParts_20 rfl (fun c17488 => False.elim (by omega)) (fun c17488 => ?_)
          refine WP_aload_n dX3_faultInParts_23 rfl ?_
          refine WP_iload dX3_faultInParts_24 rfl ?_
          refine WS_call hz (i := 16) (by omega) dX3_faultInParts_26 ⟨⟨by decide, by decide⟩, zJ0_charAt_5068e⟩ lX3_92 vJ0_charAt_5068e (As := [.int v17485]) (rest := []) (j_charAt hz (i := 16) (k := v17485) (by omega) (by omega) (by have z9 : ((liN.getD 16 0 : Nat) : Int) = 5 := rfl; omega)) rfl rfl (Nat.le_of_ble_eq_true rfl) ?_
          intro r Ia Ja Ra hq
          obtain ⟨⟨ea, eb, ec⟩, v17490, rfl, cv17490⟩ := hq
          show WP _ _ _ _ (.int _ :: _) _ _ _ _
          rw [ea, eb, ec]
          clear ea eb ec Ia Ja Ra
          have hv17490 : v17490.toInt = 68 := cv17490.trans (by rw [show v17485.toInt.toNat = 2 by omega]; rfl)
          refine WP_istore (ls' := [(0, _), (1, _), (2, _), (3, _), (4, _), (5, _), (6, _), (7, _)]) dX3_faultInParts_29 (by decide) rfl ?_
          refine WP_iload dX3_faultInParts_31 rfl ?_
          refine WQ_bipush (97) (97) dX3_faultInParts_33 rfl rfl (fun v17491 hv17491 => ?_)
          refine WQ_icmp_lt 49 dX3_faultInParts_35 rfl (fun c17491 => ?_) (fun c17491 => False.elim (by omega))
          refine WQ_iconst (0) (0) dX3_faultInParts_49 rfl rfl (fun v17493 hv17493 => ?_)
          refine WP_istore (ls' := [(0, _), (1, _), (2, _), (3, _), (4, _), (5, _), (6, _), (7, _)]) dX3_faultInParts_50 (by decide) rfl ?_
          refine WP_aload_n dX3_faultInParts_52 rfl ?_
          refine WP_getr dX3_faultInParts_53 fX3_15 rfl (lyx_is hy 3 3 rfl) (rfx hr 3 2 1 (by decide)) ?_
          refine WQ_geti dX3_faultInParts_56 fX3_43 rfl (lyx_is hy 1 5 rfl) (BT_get hI17475.1 1 2 3 (0) (0) (4) (by decide) 2 (by decide) (by decide)) (fun v17494 ev17494 av17494 bv17494 => ?_)
          refine WP_iload dX3_faultInParts_59 rfl ?_
          refine WQ_if_eq 68 dX3_faultInParts_61 rfl (fun c17494 => ?_) (fun c17494 => False.elim (by omega))
          refine WQ_iconst (2) (2) dX3_faultInParts_68 rfl rfl (fun v17496 hv17496 => ?_)
          refine WQ_icmp_eq 74 dX3_faultInParts_69 rfl (fun c17496 => ?_) (fun c17496 => ?_)
          · refine WP_iload dX3_faultInParts_74 rfl ?_
            refine WQ_if_eq 92 dX3_faultInParts_76 rfl (fun c17497 => ?_) (fun c17497 => False.elim (by omega))
            refine WP_aload_n dX3_faultInParts_92 rfl ?_
            refine WP_iload dX3_faultInParts_93 rfl ?_
            refine WP_iload_n dX3_faultInParts_95 rfl ?_
            refine WP_iload dX3_faultInParts_96 rfl ?_
            refine WP_aload_n dX3_faultInParts_98 rfl ?_
            refine WP_callV4 (k := 3) dX3_faultInParts_99 ⟨⟨⟨by decide, by decide⟩, zX3_faultOfNumber⟩, lX3_100, by decide, rfl, vX3_faultOfNumber.1, vX3_faultOfNumber.2⟩ (lyx_is hy 3 3 rfl) (sx_part_6_6_2 hy hr hI17475 v17490 cz v17485 (by omega) (by omega) (by omega) (by omega) (by omega) (by omega) (by rw [e17479]; omega)) (Nat.le_of_ble_eq_true rfl) ?_
            intro r I17499 J17500 Ra hq
            obtain ⟨⟨hI17499, ec, fiI17499, fjI17499, ⟨pI17499, sI17499_4_0, sI17499_4_1, sI17499_6_1, sI17499_6_2⟩⟩, v17501, rfl, av17501, bv17501, cv17501⟩ := hq
            show WP _ _ _ _ (.int _ :: _) _ _ _ _
            rw [ec]
            clear ec Ra
            have fr17502 : fz 74 g [1, 4] I I17499 := fz_tr fr17477 (fz_mono fiI17499 (by decide))
            have fr17503 : fz 74 g [1] J J17500 := fz_tr fr17478 (fz_mono fjI17499 (by decide))
            have e17504 : I17499 (ad g 4) 0 = w17436 := by rw [sI17499_4_0]; exact e17479
            have e17505 : I17499 (ad g 4) 1 = w17473 := by rw [sI17499_4_1]; exact e17482
            have e17506 : I17499 (ad g 6) 1 = w17409 := by rw [sI17499_6_1]; exact e17480
            have e17507 : I17499 (ad g 6) 2 = w17410 := by rw [sI17499_6_2]; exact e17481
            have e17508 : I17499 (ad g 1) 1 = L := hI17499.2
            have b17509 := BT_get hI17499.1 1 1 2 (0) (0) (900) (by decide) 1 (by decide) (by decide)
            rw [e17508] at b17509
            obtain ⟨w17510, ew17510⟩ : ∃ w : Int32, I17499 (ad g 4) 2 = w := ⟨_, rfl⟩
            have bw17510 := BT_get hI17499.1 4 0 5 (0) (0) (1000) (by decide) 2 (by decide) (by decide)
            rw [ew17510] at bw17510
            rw [ew17510] at cv17501
            refine WP_istore (ls' := [(0, _), (1, _), (2, _), (3, _), (4, _), (5, _), (6, _), (7, _)]) dX3_faultInParts_102 (by decide) rfl ?_
            refine WP_iload dX3_faultInParts_104 rfl ?_
            refine WQ_if_eq 112 dX3_faultInParts_106 rfl (fun c17510 => ?_) (fun c17510 => ?_)
            · refine WP_aload_n dX3_faultInParts_112 rfl ?_
              refine WP_getr dX3_faultInParts_113 fX3_15 rfl (lyx_is hy 3 3 rfl) (rfx hr 3 2 1 (by decide)) ?_
              refine WP_callV0 (k := 5) dX3_faultInParts_116 ⟨⟨⟨by decide, by decide⟩, zX5_next⟩, lX3_40, by decide, rfl, vX5_next.1, vX5_next.2⟩ (lyx_is hy 1 5 rfl) (sx_nextf hy hr hI17499  ) (Nat.le_of_ble_eq_true rfl) ?_
              intro r I17512 J17513 Ra hq
              obtain ⟨⟨hI17512, ec, fiI17512, fjI17512⟩, rfl⟩ := hq
              rw [ec]
              clear ec Ra
              have fr17514 : fz 74 g [1, 4] I I17512 := fz_tr fr17502 (fz_mono fiI17512 (by decide))
              have fr17515 : fz 74 g [1] J J17513 := fz_tr fr17503 (fz_mono fjI17512 (by decide))
              have e17516 : I17512 (ad g 4) 0 = w17436 := by rw [fz_at fiI17512 4 (by decide) (by decide)]; exact e17504
              have e17517 : I17512 (ad g 4) 1 = w17473 := by rw [fz_at fiI17512 4 (by decide) (by decide)]; exact e17505
              have e17518 : I17512 (ad g 6) 1 = w17409 := by rw [fz_at fiI17512 6 (by decide) (by decide)]; exact e17506
              have e17519 : I17512 (ad g 6) 2 = w17410 := by rw [fz_at fiI17512 6 (by decide) (by decide)]; exact e17507
              have e17520 : I17512 (ad g 4) 2 = w17510 := by rw [fz_at fiI17512 4 (by decide) (by decide)]; exact ew17510
              have e17521 : I17512 (ad g 1) 1 = L := hI17512.2
              have b17522 := BT_get hI17512.1 1 1 2 (0) (0) (900) (by decide) 1 (by decide) (by decide)
              rw [e17521] at b17522
              refine WP_iinc (ls' := [(0, _), (1, _), (2, _), (3, _), (4, _), (5, _), (6, _), (7, _)]) dX3_faultInParts_119 rfl (by decide) rfl ?_
              have hv17523 : (v17485 + Int32.ofInt (1)).toInt = v17485.toInt + (1) := ia_n rfl (by omega) (by omega)
              generalize v17485 + Int32.ofInt (1) = v17523 at hv17523 ⊢
              refine WP_goto 8 dX3_faultInParts_122 rfl ?_
              refine WP_iload dX3_faultInParts_8 rfl ?_
              refine WP_aload_n dX3_faultInParts_10 rfl ?_
              refine WS_call hz (i := 16) (by omega) dX3_faultInParts_11 ⟨⟨by decide, by decide⟩, zJ0_length_8abf5⟩ lX3_87 vJ0_length_8abf5 (As := []) (rest := [.int v17523]) (j_length hz (i := 16) (by omega)) rfl rfl (Nat.le_of_ble_eq_true rfl) ?_
              intro r Ia Ja Ra hq
              obtain ⟨⟨ea, eb, ec⟩, v17524, rfl, cv17524⟩ := hq
              show WP _ _ _ _ (.int _ :: _) _ _ _ _
              rw [ea, eb, ec]
              clear ea eb ec Ia Ja Ra
              have hv17524 : v17524.toInt = 5 := cv17524.trans rfl
              refine WQ_icmp_ge 125 dX3_faultInParts_14 rfl (fun c17524 => False.elim (by omega)) (fun c17524 => ?_)
              refine WP_iload dX3_faultInParts_17 rfl ?_
              refine WQ_iconst (5) (5) dX3_faultInParts_19 rfl rfl (fun v17526 hv17526 => ?_)
              refine WQ_icmp_ge 125 dX3_faultInParts_20 rfl (fun c17526 => False.elim (by omega)) (fun c17526 => ?_)
              refine WP_aload_n dX3_faultInParts_23 rfl ?_
              refine WP_iload dX3_faultInParts_24 rfl ?_
              refine WS_call hz (i := 16) (by omega) dX3_faultInParts_26 ⟨⟨by decide, by decide⟩, zJ0_charAt_5068e⟩ lX3_92 vJ0_charAt_5068e (As := [.int v17523]) (rest := []) (j_charAt hz (i := 16) (k := v17523) (by omega) (by omega) (by have z9 : ((liN.getD 16 0 : Nat) : Int) = 5 := rfl; omega)) rfl rfl (Nat.le_of_ble_eq_true rfl) ?_
              intro r Ia Ja Ra hq
              obtain ⟨⟨ea, eb, ec⟩, v17528, rfl, cv17528⟩ := hq
              show WP _ _ _ _ (.int _ :: _) _ _ _ _
              rw [ea, eb, ec]
              clear ea eb ec Ia Ja Ra
              have hv17528 : v17528.toInt = 85 := cv17528.trans (by rw [show v17523.toInt.toNat = 3 by omega]; rfl)
              refine WP_istore (ls' := [(0, _), (1, _), (2, _), (3, _), (4, _), (5, _), (6, _), (7, _)]) dX3_faultInParts_29 (by decide) rfl ?_
              refine WP_iload dX3_faultInParts_31 rfl ?_
              refine WQ_bipush (97) (97) dX3_faultInParts_33 rfl rfl (fun v17529 hv17529 => ?_)
              refine WQ_icmp_lt 49 dX3_faultInParts_35 rfl (fun c17529 => ?_) (fun c17529 => False.elim (by omega))
              refine WQ_iconst (0) (0) dX3_faultInParts_49 rfl rfl (fun v17531 hv17531 => ?_)
              refine WP_istore (ls' := [(0, _), (1, _), (2, _), (3, _), (4, _), (5, _), (6, _), (7, _)]) dX3_faultInParts_50 (by decide) rfl ?_
              refine WP_aload_n dX3_faultInParts_52 rfl ?_
              refine WP_getr dX3_faultInParts_53 fX3_15 rfl (lyx_is hy 3 3 rfl) (rfx hr 3 2 1 (by decide)) ?_
              refine WQ_geti dX3_faultInParts_56 fX3_43 rfl (lyx_is hy 1 5 rfl) (BT_get hI17512.1 1 2 3 (0) (0) (4) (by decide) 2 (by decide) (by decide)) (fun v17532 ev17532 av17532 bv17532 => ?_)
              refine WP_iload dX3_faultInParts_59 rfl ?_
              refine WQ_if_eq 68 dX3_faultInParts_61 rfl (fun c17532 => ?_) (fun c17532 => False.elim (by omega))
              refine WQ_iconst (2) (2) dX3_faultInParts_68 rfl rfl (fun v17534 hv17534 => ?_)
              refine WQ_icmp_eq 74 dX3_faultInParts_69 rfl (fun c17534 => ?_) (fun c17534 => ?_)
              · refine WP_iload dX3_faultInParts_74 rfl ?_
                refine WQ_if_eq 92 dX3_faultInParts_76 rfl (fun c17535 => ?_) (fun c17535 => False.elim (by omega))
                refine WP_aload_n dX3_faultInParts_92 rfl ?_
                refine WP_iload dX3_faultInParts_93 rfl ?_
                refine WP_iload_n dX3_faultInParts_95 rfl ?_
                refine WP_iload dX3_faultInParts_96 rfl ?_
                refine WP_aload_n dX3_faultInParts_98 rfl ?_
                refine WP_callV4 (k := 3) dX3_faultInParts_99 ⟨⟨⟨by decide, by decide⟩, zX3_faultOfNumber⟩, lX3_100, by decide, rfl, vX3_faultOfNumber.1, vX3_faultOfNumber.2⟩ (lyx_is hy 3 3 rfl) (sx_part_6_6_3 hy hr hI17512 v17528 cz v17523 (by omega) (by omega) (by omega) (by omega) (by omega) (by omega)) (Nat.le_of_ble_eq_true rfl) ?_
                intro r I17537 J17538 Ra hq
                obtain ⟨⟨hI17537, ec, fiI17537, fjI17537, ⟨pI17537, sI17537_4_0, sI17537_4_1, sI17537_4_2, sI17537_6_1, sI17537_6_2⟩⟩, v17539, rfl, av17539, bv17539, cv17539⟩ := hq
                show WP _ _ _ _ (.int _ :: _) _ _ _ _
                rw [ec]
                clear ec Ra
                have fr17540 : fz 74 g [1, 4] I I17537 := fz_tr fr17514 (fz_mono fiI17537 (by decide))
                have fr17541 : fz 74 g [1] J J17538 := fz_tr fr17515 (fz_mono fjI17537 (by decide))
                have e17542 : I17537 (ad g 4) 0 = w17436 := by rw [sI17537_4_0]; exact e17516
                have e17543 : I17537 (ad g 4) 1 = w17473 := by rw [sI17537_4_1]; exact e17517
                have e17544 : I17537 (ad g 4) 2 = w17510 := by rw [sI17537_4_2]; exact e17520
                have e17545 : I17537 (ad g 6) 1 = w17409 := by rw [sI17537_6_1]; exact e17518
                have e17546 : I17537 (ad g 6) 2 = w17410 := by rw [sI17537_6_2]; exact e17519
                have e17547 : I17537 (ad g 1) 1 = L := hI17537.2
                have b17548 := BT_get hI17537.1 1 1 2 (0) (0) (900) (by decide) 1 (by decide) (by decide)
                rw [e17547] at b17548
                obtain ⟨w17549, ew17549⟩ : ∃ w : Int32, I17537 (ad g 4) 3 = w := ⟨_, rfl⟩
                have bw17549 := BT_get hI17537.1 4 0 5 (0) (0) (1000) (by decide) 3 (by decide) (by decide)
                rw [ew17549] at bw17549
                rw [ew17549] at cv17539
                refine WP_istore (ls' := [(0, _), (1, _), (2, _), (3, _), (4, _), (5, _), (6, _), (7, _)]) dX3_faultInParts_102 (by decide) rfl ?_
                refine WP_iload dX3_faultInParts_104 rfl ?_
                refine WQ_if_eq 112 dX3_faultInParts_106 rfl (fun c17549 => ?_) (fun c17549 => ?_)
                · refine WP_aload_n dX3_faultInParts_112 rfl ?_
                  refine WP_getr dX3_faultInParts_113 fX3_15 rfl (lyx_is hy 3 3 rfl) (rfx hr 3 2 1 (by decide)) ?_
                  refine WP_callV0 (k := 5) dX3_faultInParts_116 ⟨⟨⟨by decide, by decide⟩, zX5_next⟩, lX3_40, by decide, rfl, vX5_next.1, vX5_next.2⟩ (lyx_is hy 1 5 rfl) (sx_nextf hy hr hI17537  ) (Nat.le_of_ble_eq_true rfl) ?_
                  intro r I17551 J17552 Ra hq
                  obtain ⟨⟨hI17551, ec, fiI17551, fjI17551⟩, rfl⟩ := hq
                  rw [ec]
                  clear ec Ra
                  have fr17553 : fz 74 g [1, 4] I I17551 := fz_tr fr17540 (fz_mono fiI17551 (by decide))
                  have fr17554 : fz 74 g [1] J J17552 := fz_tr fr17541 (fz_mono fjI17551 (by decide))
                  have e17555 : I17551 (ad g 4) 0 = w17436 := by rw [fz_at fiI17551 4 (by decide) (by decide)]; exact e17542
                  have e17556 : I17551 (ad g 4) 1 = w17473 := by rw [fz_at fiI17551 4 (by decide) (by decide)]; exact e17543
                  have e17557 : I17551 (ad g 4) 2 = w17510 := by rw [fz_at fiI17551 4 (by decide) (by decide)]; exact e17544
                  have e17558 : I17551 (ad g 6) 1 = w17409 := by rw [fz_at fiI17551 6 (by decide) (by decide)]; exact e17545
                  have e17559 : I17551 (ad g 6) 2 = w17410 := by rw [fz_at fiI17551 6 (by decide) (by decide)]; exact e17546
                  have e17560 : I17551 (ad g 4) 3 = w17549 := by rw [fz_at fiI17551 4 (by decide) (by decide)]; exact ew17549
                  have e17561 : I17551 (ad g 1) 1 = L := hI17551.2
                  have b17562 := BT_get hI17551.1 1 1 2 (0) (0) (900) (by decide) 1 (by decide) (by decide)
                  rw [e17561] at b17562
                  refine WP_iinc (ls' := [(0, _), (1, _), (2, _), (3, _), (4, _), (5, _), (6, _), (7, _)]) dX3_faultInParts_119 rfl (by decide) rfl ?_
                  have hv17563 : (v17523 + Int32.ofInt (1)).toInt = v17523.toInt + (1) := ia_n rfl (by omega) (by omega)
                  generalize v17523 + Int32.ofInt (1) = v17563 at hv17563 ⊢
                  refine WP_goto 8 dX3_faultInParts_122 rfl ?_
                  refine WP_iload dX3_faultInParts_8 rfl ?_
                  refine WP_aload_n dX3_faultInParts_10 rfl ?_
                  refine WS_call hz (i := 16) (by omega) dX3_faultInParts_11 ⟨⟨by decide, by decide⟩, zJ0_length_8abf5⟩ lX3_87 vJ0_length_8abf5 (As := []) (rest := [.int v17563]) (j_length hz (i := 16) (by omega)) rfl rfl (Nat.le_of_ble_eq_true rfl) ?_
                  intro r Ia Ja Ra hq
                  obtain ⟨⟨ea, eb, ec⟩, v17564, rfl, cv17564⟩ := hq
                  show WP _ _ _ _ (.int _ :: _) _ _ _ _
                  rw [ea, eb, ec]
                  clear ea eb ec Ia Ja Ra
                  have hv17564 : v17564.toInt = 5 := cv17564.trans rfl
                  refine WQ_icmp_ge 125 dX3_faultInParts_14 rfl (fun c17564 => False.elim (by omega)) (fun c17564 => ?_)
                  refine WP_iload dX3_faultInParts_17 rfl ?_
                  refine WQ_iconst (5) (5) dX3_faultInParts_19 rfl rfl (fun v17566 hv17566 => ?_)
                  refine WQ_icmp_ge 125 dX3_faultInParts_20 rfl (fun c17566 => False.elim (by omega)) (fun c17566 => ?_)
                  refine WP_aload_n dX3_faultInParts_23 rfl ?_
                  refine WP_iload dX3_faultInParts_24 rfl ?_
                  refine WS_call hz (i := 16) (by omega) dX3_faultInParts_26 ⟨⟨by decide, by decide⟩, zJ0_charAt_5068e⟩ lX3_92 vJ0_charAt_5068e (As := [.int v17563]) (rest := []) (j_charAt hz (i := 16) (k := v17563) (by omega) (by omega) (by have z9 : ((liN.getD 16 0 : Nat) : Int) = 5 := rfl; omega)) rfl rfl (Nat.le_of_ble_eq_true rfl) ?_
                  intro r Ia Ja Ra hq
                  obtain ⟨⟨ea, eb, ec⟩, v17568, rfl, cv17568⟩ := hq
                  show WP _ _ _ _ (.int _ :: _) _ _ _ _
                  rw [ea, eb, ec]
                  clear ea eb ec Ia Ja Ra
                  have hv17568 : v17568.toInt = 86 := cv17568.trans (by rw [show v17563.toInt.toNat = 4 by omega]; rfl)
                  refine WP_istore (ls' := [(0, _), (1, _), (2, _), (3, _), (4, _), (5, _), (6, _), (7, _)]) dX3_faultInParts_29 (by decide) rfl ?_
                  refine WP_iload dX3_faultInParts_31 rfl ?_
                  refine WQ_bipush (97) (97) dX3_faultInParts_33 rfl rfl (fun v17569 hv17569 => ?_)
                  refine WQ_icmp_lt 49 dX3_faultInParts_35 rfl (fun c17569 => ?_) (fun c17569 => False.elim (by omega))
                  refine WQ_iconst (0) (0) dX3_faultInParts_49 rfl rfl (fun v17571 hv17571 => ?_)
                  refine WP_istore (ls' := [(0, _), (1, _), (2, _), (3, _), (4, _), (5, _), (6, _), (7, _)]) dX3_faultInParts_50 (by decide) rfl ?_
                  refine WP_aload_n dX3_faultInParts_52 rfl ?_
                  refine WP_getr dX3_faultInParts_53 fX3_15 rfl (lyx_is hy 3 3 rfl) (rfx hr 3 2 1 (by decide)) ?_
                  refine WQ_geti dX3_faultInParts_56 fX3_43 rfl (lyx_is hy 1 5 rfl) (BT_get hI17551.1 1 2 3 (0) (0) (4) (by decide) 2 (by decide) (by decide)) (fun v17572 ev17572 av17572 bv17572 => ?_)
                  refine WP_iload dX3_faultInParts_59 rfl ?_
                  refine WQ_if_eq 68 dX3_faultInParts_61 rfl (fun c17572 => ?_) (fun c17572 => False.elim (by omega))
                  refine WQ_iconst (2) (2) dX3_faultInParts_68 rfl rfl (fun v17574 hv17574 => ?_)
                  refine WQ_icmp_eq 74 dX3_faultInParts_69 rfl (fun c17574 => ?_) (fun c17574 => ?_)
                  · refine WP_iload dX3_faultInParts_74 rfl ?_
                    refine WQ_if_eq 92 dX3_faultInParts_76 rfl (fun c17575 => ?_) (fun c17575 => False.elim (by omega))
                    refine WP_aload_n dX3_faultInParts_92 rfl ?_
                    refine WP_iload dX3_faultInParts_93 rfl ?_
                    refine WP_iload_n dX3_faultInParts_95 rfl ?_
                    refine WP_iload dX3_faultInParts_96 rfl ?_
                    refine WP_aload_n dX3_faultInParts_98 rfl ?_
                    refine WP_callV4 (k := 3) dX3_faultInParts_99 ⟨⟨⟨by decide, by decide⟩, zX3_faultOfNumber⟩, lX3_100, by decide, rfl, vX3_faultOfNumber.1, vX3_faultOfNumber.2⟩ (lyx_is hy 3 3 rfl) (sx_part_6_6_4 hy hr hI17551 v17568 cz v17563 (by omega) (by omega) (by omega) (by omega) (by omega) (by omega)) (Nat.le_of_ble_eq_true rfl) ?_
                    intro r I17577 J17578 Ra hq
                    obtain ⟨⟨hI17577, ec, fiI17577, fjI17577, ⟨pI17577, sI17577_4_0, sI17577_4_1, sI17577_4_2, sI17577_4_3, sI17577_6_1, sI17577_6_2⟩⟩, v17579, rfl, av17579, bv17579, cv17579⟩ := hq
                    show WP _ _ _ _ (.int _ :: _) _ _ _ _
                    rw [ec]
                    clear ec Ra
                    have fr17580 : fz 74 g [1, 4] I I17577 := fz_tr fr17553 (fz_mono fiI17577 (by decide))
                    have fr17581 : fz 74 g [1] J J17578 := fz_tr fr17554 (fz_mono fjI17577 (by decide))
                    have e17582 : I17577 (ad g 4) 0 = w17436 := by rw [sI17577_4_0]; exact e17555
                    have e17583 : I17577 (ad g 4) 1 = w17473 := by rw [sI17577_4_1]; exact e17556
                    have e17584 : I17577 (ad g 4) 2 = w17510 := by rw [sI17577_4_2]; exact e17557
                    have e17585 : I17577 (ad g 4) 3 = w17549 := by rw [sI17577_4_3]; exact e17560
                    have e17586 : I17577 (ad g 6) 1 = w17409 := by rw [sI17577_6_1]; exact e17558
                    have e17587 : I17577 (ad g 6) 2 = w17410 := by rw [sI17577_6_2]; exact e17559
                    have e17588 : I17577 (ad g 1) 1 = L := hI17577.2
                    have b17589 := BT_get hI17577.1 1 1 2 (0) (0) (900) (by decide) 1 (by decide) (by decide)
                    rw [e17588] at b17589
                    obtain ⟨w17590, ew17590⟩ : ∃ w : Int32, I17577 (ad g 4) 4 = w := ⟨_, rfl⟩
                    have bw17590 := BT_get hI17577.1 4 0 5 (0) (0) (1000) (by decide) 4 (by decide) (by decide)
                    rw [ew17590] at bw17590
                    rw [ew17590] at cv17579
                    refine WP_istore (ls' := [(0, _), (1, _), (2, _), (3, _), (4, _), (5, _), (6, _), (7, _)]) dX3_faultInParts_102 (by decide) rfl ?_
                    refine WP_iload dX3_faultInParts_104 rfl ?_
                    refine WQ_if_eq 112 dX3_faultInParts_106 rfl (fun c17590 => ?_) (fun c17590 => ?_)
                    · refine WP_aload_n dX3_faultInParts_112 rfl ?_
                      refine WP_getr dX3_faultInParts_113 fX3_15 rfl (lyx_is hy 3 3 rfl) (rfx hr 3 2 1 (by decide)) ?_
                      refine WP_callV0 (k := 5) dX3_faultInParts_116 ⟨⟨⟨by decide, by decide⟩, zX5_next⟩, lX3_40, by decide, rfl, vX5_next.1, vX5_next.2⟩ (lyx_is hy 1 5 rfl) (sx_nextf hy hr hI17577  ) (Nat.le_of_ble_eq_true rfl) ?_
                      intro r I17592 J17593 Ra hq
                      obtain ⟨⟨hI17592, ec, fiI17592, fjI17592⟩, rfl⟩ := hq
                      rw [ec]
                      clear ec Ra
                      have fr17594 : fz 74 g [1, 4] I I17592 := fz_tr fr17580 (fz_mono fiI17592 (by decide))
                      have fr17595 : fz 74 g [1] J J17593 := fz_tr fr17581 (fz_mono fjI17592 (by decide))
                      have e17596 : I17592 (ad g 4) 0 = w17436 := by rw [fz_at fiI17592 4 (by decide) (by decide)]; exact e17582
                      have e17597 : I17592 (ad g 4) 1 = w17473 := by rw [fz_at fiI17592 4 (by decide) (by decide)]; exact e17583
                      have e17598 : I17592 (ad g 4) 2 = w17510 := by rw [fz_at fiI17592 4 (by decide) (by decide)]; exact e17584
                      have e17599 : I17592 (ad g 4) 3 = w17549 := by rw [fz_at fiI17592 4 (by decide) (by decide)]; exact e17585
                      have e17600 : I17592 (ad g 6) 1 = w17409 := by rw [fz_at fiI17592 6 (by decide) (by decide)]; exact e17586
                      have e17601 : I17592 (ad g 6) 2 = w17410 := by rw [fz_at fiI17592 6 (by decide) (by decide)]; exact e17587
                      have e17602 : I17592 (ad g 4) 4 = w17590 := by rw [fz_at fiI17592 4 (by decide) (by decide)]; exact ew17590
                      have e17603 : I17592 (ad g 1) 1 = L := hI17592.2
                      have b17604 := BT_get hI17592.1 1 1 2 (0) (0) (900) (by decide) 1 (by decide) (by decide)
                      rw [e17603] at b17604
                      refine WP_iinc (ls' := [(0, _), (1, _), (2, _), (3, _), (4, _), (5, _), (6, _), (7, _)]) dX3_faultInParts_119 rfl (by decide) rfl ?_
                      have hv17605 : (v17563 + Int32.ofInt (1)).toInt = v17563.toInt + (1) := ia_n rfl (by omega) (by omega)
                      generalize v17563 + Int32.ofInt (1) = v17605 at hv17605 ⊢
                      refine WP_goto 8 dX3_faultInParts_122 rfl ?_
                      refine WP_iload dX3_faultInParts_8 rfl ?_
                      refine WP_aload_n dX3_faultInParts_10 rfl ?_
                      refine WS_call hz (i := 16) (by omega) dX3_faultInParts_11 ⟨⟨by decide, by decide⟩, zJ0_length_8abf5⟩ lX3_87 vJ0_length_8abf5 (As := []) (rest := [.int v17605]) (j_length hz (i := 16) (by omega)) rfl rfl (Nat.le_of_ble_eq_true rfl) ?_
                      intro r Ia Ja Ra hq
                      obtain ⟨⟨ea, eb, ec⟩, v17606, rfl, cv17606⟩ := hq
                      show WP _ _ _ _ (.int _ :: _) _ _ _ _
                      rw [ea, eb, ec]
                      clear ea eb ec Ia Ja Ra
                      have hv17606 : v17606.toInt = 5 := cv17606.trans rfl
                      refine WQ_icmp_ge 125 dX3_faultInParts_14 rfl (fun c17606 => ?_) (fun c17606 => False.elim (by omega))
                      refine WP_aload_n dX3_faultInParts_125 rfl ?_
                      refine WP_getr dX3_faultInParts_126 fX3_15 rfl (lyx_is hy 3 3 rfl) (rfx hr 3 2 1 (by decide)) ?_
                      refine WQ_geti dX3_faultInParts_129 fX3_43 rfl (lyx_is hy 1 5 rfl) (BT_get hI17592.1 1 2 3 (0) (0) (4) (by decide) 2 (by decide) (by decide)) (fun v17608 ev17608 av17608 bv17608 => ?_)
                      refine WQ_iconst (3) (3) dX3_faultInParts_132 rfl rfl (fun v17609 hv17609 => ?_)
                      refine WQ_icmp_ne 140 dX3_faultInParts_133 rfl (fun c17609 => ?_) (fun c17609 => ?_)
                      · refine WQ_iconst (1) (1) dX3_faultInParts_140 rfl rfl (fun v17611 hv17611 => ?_)
                        exact WP_iret dX3_faultInParts_141 rfl ⟨⟨hI17592, rfl, fr17594, fr17595, ⟨trivial, (by rw [e17600, ew17409] <;> exact (eq32 _ _).mpr (by omega)), (by rw [e17601, ew17410] <;> exact (eq32 _ _).mpr (by omega))⟩⟩, _, rfl, by omega, by omega, by (try rw [e17596]; try rw [e17597]; try rw [e17598]; try rw [e17599]; try rw [e17602]); omega⟩
                      · refine WQ_iconst (0) (0) dX3_faultInParts_136 rfl rfl (fun v17612 hv17612 => ?_)
                        refine WP_goto 141 dX3_faultInParts_137 rfl ?_
                        exact WP_iret dX3_faultInParts_141 rfl ⟨⟨hI17592, rfl, fr17594, fr17595, ⟨trivial, (by rw [e17600, ew17409] <;> exact (eq32 _ _).mpr (by omega)), (by rw [e17601, ew17410] <;> exact (eq32 _ _).mpr (by omega))⟩⟩, _, rfl, by omega, by omega, by (try rw [e17596]; try rw [e17597]; try rw [e17598]; try rw [e17599]; try rw [e17602]); omega⟩
                    · refine WP_iload dX3_faultInParts_109 rfl ?_
                      exact WP_iret dX3_faultInParts_111 rfl ⟨⟨hI17577, rfl, fr17580, fr17581, ⟨trivial, (by rw [e17586, ew17409] <;> exact (eq32 _ _).mpr (by omega)), (by rw [e17587, ew17410] <;> exact (eq32 _ _).mpr (by omega))⟩⟩, _, rfl, by omega, by omega, by (try rw [e17582]; try rw [e17583]; try rw [e17584]; try rw [e17585]; try rw [ew17590]); omega⟩
                  · refine WQ_iconst (1) (1) dX3_faultInParts_72 rfl rfl (fun v17613 hv17613 => ?_)
                    obtain ⟨w17614, ew17614⟩ : ∃ w : Int32, I17551 (ad g 4) 4 = w := ⟨_, rfl⟩
                    have bw17614 := BT_get hI17551.1 4 0 5 (0) (0) (1000) (by decide) 4 (by decide) (by decide)
                    rw [ew17614] at bw17614
                    exact WP_iret dX3_faultInParts_73 rfl ⟨⟨hI17551, rfl, fr17553, fr17554, ⟨trivial, (by rw [e17558, ew17409] <;> exact (eq32 _ _).mpr (by omega)), (by rw [e17559, ew17410] <;> exact (eq32 _ _).mpr (by omega))⟩⟩, _, rfl, by omega, by omega, by (try rw [e17555]; try rw [e17556]; try rw [e17557]; try rw [e17560]; try rw [ew17614]); omega⟩
                · refine WP_iload dX3_faultInParts_109 rfl ?_
                  obtain ⟨w17615, ew17615⟩ : ∃ w : Int32, I17537 (ad g 4) 4 = w := ⟨_, rfl⟩
                  have bw17615 := BT_get hI17537.1 4 0 5 (0) (0) (1000) (by decide) 4 (by decide) (by decide)
                  rw [ew17615] at bw17615
                  exact WP_iret dX3_faultInParts_111 rfl ⟨⟨hI17537, rfl, fr17540, fr17541, ⟨trivial, (by rw [e17545, ew17409] <;> exact (eq32 _ _).mpr (by omega)), (by rw [e17546, ew17410] <;> exact (eq32 _ _).mpr (by omega))⟩⟩, _, rfl, by omega, by omega, by (try rw [e17542]; try rw [e17543]; try rw [e17544]; try rw [ew17549]; try rw [ew17615]); omega⟩
              · refine WQ_iconst (1) (1) dX3_faultInParts_72 rfl rfl (fun v17616 hv17616 => ?_)
                obtain ⟨w17617, ew17617⟩ : ∃ w : Int32, I17512 (ad g 4) 3 = w := ⟨_, rfl⟩
                have bw17617 := BT_get hI17512.1 4 0 5 (0) (0) (1000) (by decide) 3 (by decide) (by decide)
                rw [ew17617] at bw17617
                obtain ⟨w17618, ew17618⟩ : ∃ w : Int32, I17512 (ad g 4) 4 = w := ⟨_, rfl⟩
                have bw17618 := BT_get hI17512.1 4 0 5 (0) (0) (1000) (by decide) 4 (by decide) (by decide)
                rw [ew17618] at bw17618
                exact WP_iret dX3_faultInParts_73 rfl ⟨⟨hI17512, rfl, fr17514, fr17515, ⟨trivial, (by rw [e17518, ew17409] <;> exact (eq32 _ _).mpr (by omega)), (by rw [e17519, ew17410] <;> exact (eq32 _ _).mpr (by omega))⟩⟩, _, rfl, by omega, by omega, by (try rw [e17516]; try rw [e17517]; try rw [e17520]; try rw [ew17617]; try rw [ew17618]); omega⟩
            · refine WP_iload dX3_faultInParts_109 rfl ?_
              obtain ⟨w17619, ew17619⟩ : ∃ w : Int32, I17499 (ad g 4) 3 = w := ⟨_, rfl⟩
              have bw17619 := BT_get hI17499.1 4 0 5 (0) (0) (1000) (by decide) 3 (by decide) (by decide)
              rw [ew17619] at bw17619
              obtain ⟨w17620, ew17620⟩ : ∃ w : Int32, I17499 (ad g 4) 4 = w := ⟨_, rfl⟩
              have bw17620 := BT_get hI17499.1 4 0 5 (0) (0) (1000) (by decide) 4 (by decide) (by decide)
              rw [ew17620] at bw17620
              exact WP_iret dX3_faultInParts_111 rfl ⟨⟨hI17499, rfl, fr17502, fr17503, ⟨trivial, (by rw [e17506, ew17409] <;> exact (eq32 _ _).mpr (by omega)), (by rw [e17507, ew17410] <;> exact (eq32 _ _).mpr (by omega))⟩⟩, _, rfl, by omega, by omega, by (try rw [e17504]; try rw [e17505]; try rw [ew17510]; try rw [ew17619]; try rw [ew17620]); omega⟩
          · refine WQ_iconst (1) (1) dX3_faultInParts_72 rfl rfl (fun v17621 hv17621 => ?_)
            obtain ⟨w17622, ew17622⟩ : ∃ w : Int32, I17475 (ad g 4) 2 = w := ⟨_, rfl⟩
            have bw17622 := BT_get hI17475.1 4 0 5 (0) (0) (1000) (by decide) 2 (by decide) (by decide)
            rw [ew17622] at bw17622
            obtain ⟨w17623, ew17623⟩ : ∃ w : Int32, I17475 (ad g 4) 3 = w := ⟨_, rfl⟩
            have bw17623 := BT_get hI17475.1 4 0 5 (0) (0) (1000) (by decide) 3 (by decide) (by decide)
            rw [ew17623] at bw17623
            obtain ⟨w17624, ew17624⟩ : ∃ w : Int32, I17475 (ad g 4) 4 = w := ⟨_, rfl⟩
            have bw17624 := BT_get hI17475.1 4 0 5 (0) (0) (1000) (by decide) 4 (by decide) (by decide)
            rw [ew17624] at bw17624
            exact WP_iret dX3_faultInParts_73 rfl ⟨⟨hI17475, rfl, fr17477, fr17478, ⟨trivial, (by rw [e17480, ew17409] <;> exact (eq32 _ _).mpr (by omega)), (by rw [e17481, ew17410] <;> exact (eq32 _ _).mpr (by omega))⟩⟩, _, rfl, by omega, by omega, by (try rw [e17479]; try rw [e17482]; try rw [ew17622]; try rw [ew17623]; try rw [ew17624]); omega⟩
        · refine WP_iload dX3_faultInParts_109 rfl ?_
          obtain ⟨w17625, ew17625⟩ : ∃ w : Int32, I17463 (ad g 4) 2 = w := ⟨_, rfl⟩
          have bw17625 := BT_get hI17463.1 4 0 5 (0) (0) (1000) (by decide) 2 (by decide) (by decide)
          rw [ew17625] at bw17625
          obtain ⟨w17626, ew17626⟩ : ∃ w : Int32, I17463 (ad g 4) 3 = w := ⟨_, rfl⟩
          have bw17626 := BT_get hI17463.1 4 0 5 (0) (0) (1000) (by decide) 3 (by decide) (by decide)
          rw [ew17626] at bw17626
          obtain ⟨w17627, ew17627⟩ : ∃ w : Int32, I17463 (ad g 4) 4 = w := ⟨_, rfl⟩
          have bw17627 := BT_get hI17463.1 4 0 5 (0) (0) (1000) (by decide) 4 (by decide) (by decide)
          rw [ew17627] at bw17627
          exact WP_iret dX3_faultInParts_111 rfl ⟨⟨hI17463, rfl, fr17466, fr17467, ⟨trivial, (by rw [e17469, ew17409] <;> exact (eq32 _ _).mpr (by omega)), (by rw [e17470, ew17410] <;> exact (eq32 _ _).mpr (by omega))⟩⟩, _, rfl, by omega, by omega, by (try rw [e17468]; try rw [ew17473]; try rw [ew17625]; try rw [ew17626]; try rw [ew17627]); omega⟩
      · refine WQ_iconst (1) (1) dX3_faultInParts_72 rfl rfl (fun v17628 hv17628 => ?_)
        obtain ⟨w17629, ew17629⟩ : ∃ w : Int32, I17438 (ad g 4) 1 = w := ⟨_, rfl⟩
        have bw17629 := BT_get hI17438.1 4 0 5 (0) (0) (1000) (by decide) 1 (by decide) (by decide)
        rw [ew17629] at bw17629
        obtain ⟨w17630, ew17630⟩ : ∃ w : Int32, I17438 (ad g 4) 2 = w := ⟨_, rfl⟩
        have bw17630 := BT_get hI17438.1 4 0 5 (0) (0) (1000) (by decide) 2 (by decide) (by decide)
        rw [ew17630] at bw17630
        obtain ⟨w17631, ew17631⟩ : ∃ w : Int32, I17438 (ad g 4) 3 = w := ⟨_, rfl⟩
        have bw17631 := BT_get hI17438.1 4 0 5 (0) (0) (1000) (by decide) 3 (by decide) (by decide)
        rw [ew17631] at bw17631
        obtain ⟨w17632, ew17632⟩ : ∃ w : Int32, I17438 (ad g 4) 4 = w := ⟨_, rfl⟩
        have bw17632 := BT_get hI17438.1 4 0 5 (0) (0) (1000) (by decide) 4 (by decide) (by decide)
        rw [ew17632] at bw17632
        exact WP_iret dX3_faultInParts_73 rfl ⟨⟨hI17438, rfl, fr17440, fr17441, ⟨trivial, (by rw [e17442, ew17409] <;> exact (eq32 _ _).mpr (by omega)), (by rw [e17443, ew17410] <;> exact (eq32 _ _).mpr (by omega))⟩⟩, _, rfl, by omega, by omega, by (try rw [e17444]; try rw [ew17629]; try rw [ew17630]; try rw [ew17631]; try rw [ew17632]); omega⟩
    · refine WP_iload dX3_faultInParts_109 rfl ?_
      obtain ⟨w17633, ew17633⟩ : ∃ w : Int32, I17427 (ad g 4) 1 = w := ⟨_, rfl⟩
      have bw17633 := BT_get hI17427.1 4 0 5 (0) (0) (1000) (by decide) 1 (by decide) (by decide)
      rw [ew17633] at bw17633
      obtain ⟨w17634, ew17634⟩ : ∃ w : Int32, I17427 (ad g 4) 2 = w := ⟨_, rfl⟩
      have bw17634 := BT_get hI17427.1 4 0 5 (0) (0) (1000) (by decide) 2 (by decide) (by decide)
      rw [ew17634] at bw17634
      obtain ⟨w17635, ew17635⟩ : ∃ w : Int32, I17427 (ad g 4) 3 = w := ⟨_, rfl⟩
      have bw17635 := BT_get hI17427.1 4 0 5 (0) (0) (1000) (by decide) 3 (by decide) (by decide)
      rw [ew17635] at bw17635
      obtain ⟨w17636, ew17636⟩ : ∃ w : Int32, I17427 (ad g 4) 4 = w := ⟨_, rfl⟩
      have bw17636 := BT_get hI17427.1 4 0 5 (0) (0) (1000) (by decide) 4 (by decide) (by decide)
      rw [ew17636] at bw17636
      exact WP_iret dX3_faultInParts_111 rfl ⟨⟨hI17427, rfl, fr17430, fr17431, ⟨trivial, (by rw [e17432, ew17409] <;> exact (eq32 _ _).mpr (by omega)), (by rw [e17433, ew17410] <;> exact (eq32 _ _).mpr (by omega))⟩⟩, _, rfl, by omega, by omega, by (try rw [ew17436]; try rw [ew17633]; try rw [ew17634]; try rw [ew17635]; try rw [ew17636]); omega⟩
  · refine WQ_iconst (1) (1) dX3_faultInParts_72 rfl rfl (fun v17637 hv17637 => ?_)
    obtain ⟨w17638, ew17638⟩ : ∃ w : Int32, I (ad g 4) 0 = w := ⟨_, rfl⟩
    have bw17638 := BT_get hI.1 4 0 5 (0) (0) (1000) (by decide) 0 (by decide) (by decide)
    rw [ew17638] at bw17638
    obtain ⟨w17639, ew17639⟩ : ∃ w : Int32, I (ad g 4) 1 = w := ⟨_, rfl⟩
    have bw17639 := BT_get hI.1 4 0 5 (0) (0) (1000) (by decide) 1 (by decide) (by decide)
    rw [ew17639] at bw17639
    obtain ⟨w17640, ew17640⟩ : ∃ w : Int32, I (ad g 4) 2 = w := ⟨_, rfl⟩
    have bw17640 := BT_get hI.1 4 0 5 (0) (0) (1000) (by decide) 2 (by decide) (by decide)
    rw [ew17640] at bw17640
    obtain ⟨w17641, ew17641⟩ : ∃ w : Int32, I (ad g 4) 3 = w := ⟨_, rfl⟩
    have bw17641 := BT_get hI.1 4 0 5 (0) (0) (1000) (by decide) 3 (by decide) (by decide)
    rw [ew17641] at bw17641
    obtain ⟨w17642, ew17642⟩ : ∃ w : Int32, I (ad g 4) 4 = w := ⟨_, rfl⟩
    have bw17642 := BT_get hI.1 4 0 5 (0) (0) (1000) (by decide) 4 (by decide) (by decide)
    rw [ew17642] at bw17642
    exact WP_iret dX3_faultInParts_73 rfl ⟨⟨hI, rfl, fr0, frj0, ⟨trivial, rfl, rfl⟩⟩, _, rfl, by omega, by omega, by (try rw [ew17638]; try rw [ew17639]; try rw [ew17640]; try rw [ew17641]; try rw [ew17642]); omega⟩
set_option maxHeartbeats 4000000 in
set_option maxRecDepth 100000 in
theorem sx_parts_6_7 {g : GG} {n : Int} {L : Int32} (hy : LyX g) {aK aV : Nat → Nat} {fo : Option Nat} (hz : HZ g aK aV fo)  {I : pI} {J : pJ} {R : pR} (hr : RfX g R) (hI : XI g n L I) (cz : Int32) (cz_lo : 7 ≤ cz.toInt) (cz_hi : cz.toInt ≤ 7) : SP g mX3_faultInParts [.ref (ad g 3), .int cz, .ref (ad g 6)] I J R (fun r I' J' R' => (XI g n L I' ∧ R' = R ∧ fz 74 g [1, 4] I I' ∧ fz 74 g [1] J J' ∧ True ∧ I' (ad g 6) 1 = I (ad g 6) 1 ∧ I' (ad g 6) 2 = I (ad g 6) 2) ∧ ∃ v : Int32, r = some (.int v) ∧ 0 ≤ v.toInt ∧ v.toInt ≤ 5 ∧ (v.toInt = 0 → (I' (ad g 4) 0).toInt ≤ 3)) := by
  refine SP_of ⟨by decide, rfl⟩ (Nat.le_of_ble_eq_true rfl) ?_
  have e17643 : I (ad g 1) 1 = L := hI.2
  have b17644 := BT_get hI.1 1 1 2 (0) (0) (900) (by decide) 1 (by decide) (by decide)
  rw [e17643] at b17644
  have fr0 : fz 74 g [1, 4] I I := fz_rf
  have frj0 : fz 74 g [1] J J := fz_rf
  obtain ⟨w17645, ew17645⟩ : ∃ w : Int32, I (ad g 6) 1 = w := ⟨_, rfl⟩
  have bw17645 := BT_get hI.1 6 1 2 (0) (0) (4) (by decide) 1 (by decide) (by decide)
  rw [ew17645] at bw17645
  obtain ⟨w17646, ew17646⟩ : ∃ w : Int32, I (ad g 6) 2 = w := ⟨_, rfl⟩
  have bw17646 := BT_get hI.1 6 2 3 (0) (0) (3) (by decide) 2 (by decide) (by decide)
  rw [ew17646] at bw17646
  refine WP_iload_n dX3_faultInParts_0 rfl ?_
  refine WP_callS1 dX3_faultInParts_1 ⟨⟨⟨by decide, by decide⟩, zX3_shapeOf⟩, lX3_84, tX3_shapeOf⟩ (sx_shapeOf hy hz hr hI cz (by omega) (by omega)) (Nat.le_of_ble_eq_true rfl) ?_
  intro r Ia Ja Ra hq
  obtain ⟨⟨ea, eb, ec⟩, rfl⟩ := hq
  show WP _ _ _ _ (.ref _ :: _) _ _ _ _
  rw [show 10 + cz.toInt.toNat = 17 by omega]
  rw [ea, eb, ec]
  clear ea eb ec Ia Ja Ra
  refine WP_astore_n (ls' := [(0, _), (1, _), (2, _), (3, _)]) dX3_faultInParts_4 (by decide) rfl ?_
  refine WQ_iconst (0) (0) dX3_faultInParts_5 rfl rfl (fun v17647 hv17647 => ?_)
  refine WP_istore (ls' := [(0, _), (1, _), (2, _), (3, _), (4, _)]) dX3_faultInParts_6 (by decide) rfl ?_
  refine WP_iload dX3_faultInParts_8 rfl ?_
  refine WP_aload_n dX3_faultInParts_10 rfl ?_
  refine WS_call hz (i := 17) (by omega) dX3_faultInParts_11 ⟨⟨by decide, by decide⟩, zJ0_length_8abf5⟩ lX3_87 vJ0_length_8abf5 (As := []) (rest := [.int v17647]) (j_length hz (i := 17) (by omega)) rfl rfl (Nat.le_of_ble_eq_true rfl) ?_
  intro r Ia Ja Ra hq
  obtain ⟨⟨ea, eb, ec⟩, v17648, rfl, cv17648⟩ := hq
  show WP _ _ _ _ (.int _ :: _) _ _ _ _
  rw [ea, eb, ec]
  clear ea eb ec Ia Ja Ra
  have hv17648 : v17648.toInt = 2 := cv17648.trans rfl
  refine WQ_icmp_ge 125 dX3_faultInParts_14 rfl (fun c17648 => False.elim (by omega)) (fun c17648 => ?_)
  refine WP_iload dX3_faultInParts_17 rfl ?_
  refine WQ_iconst (5) (5) dX3_faultInParts_19 rfl rfl (fun v17650 hv17650 => ?_)
  refine WQ_icmp_ge 125 dX3_faultInParts_20 rfl (fun c17650 => False.elim (by omega)) (fun c17650 => ?_)
  refine WP_aload_n dX3_faultInParts_23 rfl ?_
  refine WP_iload dX3_faultInParts_24 rfl ?_
  refine WS_call hz (i := 17) (by omega) dX3_faultInParts_26 ⟨⟨by decide, by decide⟩, zJ0_charAt_5068e⟩ lX3_92 vJ0_charAt_5068e (As := [.int v17647]) (rest := []) (j_charAt hz (i := 17) (k := v17647) (by omega) (by omega) (by have z9 : ((liN.getD 17 0 : Nat) : Int) = 2 := rfl; omega)) rfl rfl (Nat.le_of_ble_eq_true rfl) ?_
  intro r Ia Ja Ra hq
  obtain ⟨⟨ea, eb, ec⟩, v17652, rfl, cv17652⟩ := hq
  show WP _ _ _ _ (.int _ :: _) _ _ _ _
  rw [ea, eb, ec]
  clear ea eb ec Ia Ja Ra
  have hv17652 : v17652.toInt = 115 := cv17652.trans (by rw [show v17647.toInt.toNat = 0 by omega]; rfl)
  refine WP_istore (ls' := [(0, _), (1, _), (2, _), (3, _), (4, _), (5, _)]) dX3_faultInParts_29 (by decide) rfl ?_
  refine WP_iload dX3_faultInParts_31 rfl ?_
  refine WQ_bipush (97) (97) dX3_faultInParts_33 rfl rfl (fun v17653 hv17653 => ?_)
  refine WQ_icmp_lt 49 dX3_faultInParts_35 rfl (fun c17653 => False.elim (by omega)) (fun c17653 => ?_)
  refine WP_iload dX3_faultInParts_38 rfl ?_
  refine WQ_bipush (122) (122) dX3_faultInParts_40 rfl rfl (fun v17655 hv17655 => ?_)
  refine WQ_icmp_gt 49 dX3_faultInParts_42 rfl (fun c17655 => False.elim (by omega)) (fun c17655 => ?_)
  refine WQ_iconst (1) (1) dX3_faultInParts_45 rfl rfl (fun v17657 hv17657 => ?_)
  refine WP_goto 50 dX3_faultInParts_46 rfl ?_
  refine WP_istore (ls' := [(0, _), (1, _), (2, _), (3, _), (4, _), (5, _), (6, _)]) dX3_faultInParts_50 (by decide) rfl ?_
  refine WP_aload_n dX3_faultInParts_52 rfl ?_
  refine WP_getr dX3_faultInParts_53 fX3_15 rfl (lyx_is hy 3 3 rfl) (rfx hr 3 2 1 (by decide)) ?_
  refine WQ_geti dX3_faultInParts_56 fX3_43 rfl (lyx_is hy 1 5 rfl) (BT_get hI.1 1 2 3 (0) (0) (4) (by decide) 2 (by decide) (by decide)) (fun v17658 ev17658 av17658 bv17658 => ?_)
  refine WP_iload dX3_faultInParts_59 rfl ?_
  refine WQ_if_eq 68 dX3_faultInParts_61 rfl (fun c17658 => False.elim (by omega)) (fun c17658 => ?_)
  refine WQ_iconst (1) (1) dX3_faultInParts_64 rfl rfl (fun v17660 hv17660 => ?_)
  refine WP_goto 69 dX3_faultInParts_65 rfl ?_
  refine WQ_icmp_eq 74 dX3_faultInParts_69 rfl (fun c17660 => ?_) (fun c17660 => ?_)
  · refine WP_iload dX3_faultInParts_74 rfl ?_
    refine WQ_if_eq 92 dX3_faultInParts_76 rfl (fun c17661 => False.elim (by omega)) (fun c17661 => ?_)
    refine WP_aload_n dX3_faultInParts_79 rfl ?_
    refine WP_iload dX3_faultInParts_80 rfl ?_
    refine WP_iload_n dX3_faultInParts_82 rfl ?_
    refine WP_iload dX3_faultInParts_83 rfl ?_
    refine WP_aload_n dX3_faultInParts_85 rfl ?_
    refine WP_callV4 (k := 3) dX3_faultInParts_86 ⟨⟨⟨by decide, by decide⟩, zX3_faultOfName⟩, lX3_96, by decide, rfl, vX3_faultOfName.1, vX3_faultOfName.2⟩ (lyx_is hy 3 3 rfl) (sx_part_6_7_0 hy hr hI v17652 cz v17647 (by omega) (by omega) (by omega) (by omega) (by omega) (by omega)) (Nat.le_of_ble_eq_true rfl) ?_
    intro r I17663 J17664 Ra hq
    obtain ⟨⟨hI17663, ec, fiI17663, fjI17663, ⟨pI17663, sI17663_6_1, sI17663_6_2⟩⟩, v17665, rfl, av17665, bv17665, cv17665⟩ := hq
    show WP _ _ _ _ (.int _ :: _) _ _ _ _
    rw [ec]
    clear ec Ra
    have fr17666 : fz 74 g [1, 4] I I17663 := fz_tr fr0 (fz_mono fiI17663 (by decide))
    have fr17667 : fz 74 g [1] J J17664 := fz_tr frj0 (fz_mono fjI17663 (by decide))
    have e17668 : I17663 (ad g 6) 1 = w17645 := by rw [sI17663_6_1]; exact ew17645
    have e17669 : I17663 (ad g 6) 2 = w17646 := by rw [sI17663_6_2]; exact ew17646
    have e17670 : I17663 (ad g 1) 1 = L := hI17663.2
    have b17671 := BT_get hI17663.1 1 1 2 (0) (0) (900) (by decide) 1 (by decide) (by decide)
    rw [e17670] at b17671
    obtain ⟨w17672, ew17672⟩ : ∃ w : Int32, I17663 (ad g 4) 0 = w := ⟨_, rfl⟩
    have bw17672 := BT_get hI17663.1 4 0 5 (0) (0) (1000) (by decide) 0 (by decide) (by decide)
    rw [ew17672] at bw17672
    rw [ew17672] at cv17665
    refine WP_goto 102 dX3_faultInParts_89 rfl ?_
    refine WP_istore (ls' := [(0, _), (1, _), (2, _), (3, _), (4, _), (5, _), (6, _), (7, _)]) dX3_faultInParts_102 (by decide) rfl ?_
    refine WP_iload dX3_faultInParts_104 rfl ?_
    refine WQ_if_eq 112 dX3_faultInParts_106 rfl (fun c17672 => ?_) (fun c17672 => ?_)
    · refine WP_aload_n dX3_faultInParts_112 rfl ?_
      refine WP_getr dX3_faultInParts_113 fX3_15 rfl (lyx_is hy 3 3 rfl) (rfx hr 3 2 1 (by decide)) ?_
      refine WP_callV0 (k := 5) dX3_faultInParts_116 ⟨⟨⟨by decide, by decide⟩, zX5_next⟩, lX3_40, by decide, rfl, vX5_next.1, vX5_next.2⟩ (lyx_is hy 1 5 rfl) (sx_nextf hy hr hI17663  ) (Nat.le_of_ble_eq_true rfl) ?_
      intro r I17674 J17675 Ra hq
      obtain ⟨⟨hI17674, ec, fiI17674, fjI17674⟩, rfl⟩ := hq
      rw [ec]
      clear ec Ra
      have fr17676 : fz 74 g [1, 4] I I17674 := fz_tr fr17666 (fz_mono fiI17674 (by decide))
      have fr17677 : fz 74 g [1] J J17675 := fz_tr fr17667 (fz_mono fjI17674 (by decide))
      have e17678 : I17674 (ad g 6) 1 = w17645 := by rw [fz_at fiI17674 6 (by decide) (by decide)]; exact e17668
      have e17679 : I17674 (ad g 6) 2 = w17646 := by rw [fz_at fiI17674 6 (by decide) (by decide)]; exact e17669
      have e17680 : I17674 (ad g 4) 0 = w17672 := by rw [fz_at fiI17674 4 (by decide) (by decide)]; exact ew17672
      have e17681 : I17674 (ad g 1) 1 = L := hI17674.2
      have b17682 := BT_get hI17674.1 1 1 2 (0) (0) (900) (by decide) 1 (by decide) (by decide)
      rw [e17681] at b17682
      refine WP_iinc (ls' := [(0, _), (1, _), (2, _), (3, _), (4, _), (5, _), (6, _), (7, _)]) dX3_faultInParts_119 rfl (by decide) rfl ?_
      have hv17683 : (v17647 + Int32.ofInt (1)).toInt = v17647.toInt + (1) := ia_n rfl (by omega) (by omega)
      generalize v17647 + Int32.ofInt (1) = v17683 at hv17683 ⊢
      refine WP_goto 8 dX3_faultInParts_122 rfl ?_
      refine WP_iload dX3_faultInParts_8 rfl ?_
      refine WP_aload_n dX3_faultInParts_10 rfl ?_
      refine WS_call hz (i := 17) (by omega) dX3_faultInParts_11 ⟨⟨by decide, by decide⟩, zJ0_length_8abf5⟩ lX3_87 vJ0_length_8abf5 (As := []) (rest := [.int v17683]) (j_length hz (i := 17) (by omega)) rfl rfl (Nat.le_of_ble_eq_true rfl) ?_
      intro r Ia Ja Ra hq
      obtain ⟨⟨ea, eb, ec⟩, v17684, rfl, cv17684⟩ := hq
      show WP _ _ _ _ (.int _ :: _) _ _ _ _
      rw [ea, eb, ec]
      clear ea eb ec Ia Ja Ra
      have hv17684 : v17684.toInt = 2 := cv17684.trans rfl
      refine WQ_icmp_ge 125 dX3_faultInParts_14 rfl (fun c17684 => False.elim (by omega)) (fun c17684 => ?_)
      refine WP_iload dX3_faultInParts_17 rfl ?_
      refine WQ_iconst (5) (5) dX3_faultInParts_19 rfl rfl (fun v17686 hv17686 => ?_)
      refine WQ_icmp_ge 125 dX3_faultInParts_20 rfl (fun c17686 => False.elim (by omega)) (fun c17686 => ?_)
      refine WP_aload_n dX3_faultInParts_23 rfl ?_
      refine WP_iload dX3_faultInParts_24 rfl ?_
      refine WS_call hz (i := 17) (by omega) dX3_faultInParts_26 ⟨⟨by decide, by decide⟩, zJ0_charAt_5068e⟩ lX3_92 vJ0_charAt_5068e (As := [.int v17683]) (rest := []) (j_charAt hz (i := 17) (k := v17683) (by omega) (by omega) (by have z9 : ((liN.getD 17 0 : Nat) : Int) = 2 := rfl; omega)) rfl rfl (Nat.le_of_ble_eq_true rfl) ?_
      intro r Ia Ja Ra hq
      obtain ⟨⟨ea, eb, ec⟩, v17688, rfl, cv17688⟩ := hq
      show WP _ _ _ _ (.int _ :: _) _ _ _ _
      rw [ea, eb, ec]
      clear ea eb ec Ia Ja Ra
      have hv17688 : v17688.toInt = 73 := cv17688.trans (by rw [show v17683.toInt.toNat = 1 by omega]; rfl)
      refine WP_istore (ls' := [(0, _), (1, _), (2, _), (3, _), (4, _), (5, _), (6, _), (7, _)]) dX3_faultInParts_29 (by decide) rfl ?_
      refine WP_iload dX3_faultInParts_31 rfl ?_
      refine WQ_bipush (97) (97) dX3_faultInParts_33 rfl rfl (fun v17689 hv17689 => ?_)
      refine WQ_icmp_lt 49 dX3_faultInParts_35 rfl (fun c17689 => ?_) (fun c17689 => False.elim (by omega))
      refine WQ_iconst (0) (0) dX3_faultInParts_49 rfl rfl (fun v17691 hv17691 => ?_)
      refine WP_istore (ls' := [(0, _), (1, _), (2, _), (3, _), (4, _), (5, _), (6, _), (7, _)]) dX3_faultInParts_50 (by decide) rfl ?_
      refine WP_aload_n dX3_faultInParts_52 rfl ?_
      refine WP_getr dX3_faultInParts_53 fX3_15 rfl (lyx_is hy 3 3 rfl) (rfx hr 3 2 1 (by decide)) ?_
      refine WQ_geti dX3_faultInParts_56 fX3_43 rfl (lyx_is hy 1 5 rfl) (BT_get hI17674.1 1 2 3 (0) (0) (4) (by decide) 2 (by decide) (by decide)) (fun v17692 ev17692 av17692 bv17692 => ?_)
      refine WP_iload dX3_faultInParts_59 rfl ?_
      refine WQ_if_eq 68 dX3_faultInParts_61 rfl (fun c17692 => ?_) (fun c17692 => False.elim (by omega))
      refine WQ_iconst (2) (2) dX3_faultInParts_68 rfl rfl (fun v17694 hv17694 => ?_)
      refine WQ_icmp_eq 74 dX3_faultInParts_69 rfl (fun c17694 => ?_) (fun c17694 => ?_)
      · refine WP_iload dX3_faultInParts_74 rfl ?_
        refine WQ_if_eq 92 dX3_faultInParts_76 rfl (fun c17695 => ?_) (fun c17695 => False.elim (by omega))
        refine WP_aload_n dX3_faultInParts_92 rfl ?_
        refine WP_iload dX3_faultInParts_93 rfl ?_
        refine WP_iload_n dX3_faultInParts_95 rfl ?_
        refine WP_iload dX3_faultInParts_96 rfl ?_
        refine WP_aload_n dX3_faultInParts_98 rfl ?_
        refine WP_callV4 (k := 3) dX3_faultInParts_99 ⟨⟨⟨by decide, by decide⟩, zX3_faultOfNumber⟩, lX3_100, by decide, rfl, vX3_faultOfNumber.1, vX3_faultOfNumber.2⟩ (lyx_is hy 3 3 rfl) (sx_part_6_7_1 hy hr hI17674 v17688 cz v17683 (by omega) (by omega) (by omega) (by omega) (by omega) (by omega)) (Nat.le_of_ble_eq_true rfl) ?_
        intro r I17697 J17698 Ra hq
        obtain ⟨⟨hI17697, ec, fiI17697, fjI17697, ⟨pI17697, sI17697_4_0, sI17697_6_1, sI17697_6_2⟩⟩, v17699, rfl, av17699, bv17699, cv17699⟩ := hq
        show WP _ _ _ _ (.int _ :: _) _ _ _ _
        rw [ec]
        clear ec Ra
        have fr17700 : fz 74 g [1, 4] I I17697 := fz_tr fr17676 (fz_mono fiI17697 (by decide))
        have fr17701 : fz 74 g [1] J J17698 := fz_tr fr17677 (fz_mono fjI17697 (by decide))
        have e17702 : I17697 (ad g 4) 0 = w17672 := by rw [sI17697_4_0]; exact e17680
        have e17703 : I17697 (ad g 6) 1 = w17645 := by rw [sI17697_6_1]; exact e17678
        have e17704 : I17697 (ad g 6) 2 = w17646 := by rw [sI17697_6_2]; exact e17679
        have e17705 : I17697 (ad g 1) 1 = L := hI17697.2
        have b17706 := BT_get hI17697.1 1 1 2 (0) (0) (900) (by decide) 1 (by decide) (by decide)
        rw [e17705] at b17706
        obtain ⟨w17707, ew17707⟩ : ∃ w : Int32, I17697 (ad g 4) 1 = w := ⟨_, rfl⟩
        have bw17707 := BT_get hI17697.1 4 0 5 (0) (0) (1000) (by decide) 1 (by decide) (by decide)
        rw [ew17707] at bw17707
        rw [ew17707] at cv17699
        refine WP_istore (ls' := [(0, _), (1, _), (2, _), (3, _), (4, _), (5, _), (6, _), (7, _)]) dX3_faultInParts_102 (by decide) rfl ?_
        refine WP_iload dX3_faultInParts_104 rfl ?_
        refine WQ_if_eq 112 dX3_faultInParts_106 rfl (fun c17707 => ?_) (fun c17707 => ?_)
        · refine WP_aload_n dX3_faultInParts_112 rfl ?_
          refine WP_getr dX3_faultInParts_113 fX3_15 rfl (lyx_is hy 3 3 rfl) (rfx hr 3 2 1 (by decide)) ?_
          refine WP_callV0 (k := 5) dX3_faultInParts_116 ⟨⟨⟨by decide, by decide⟩, zX5_next⟩, lX3_40, by decide, rfl, vX5_next.1, vX5_next.2⟩ (lyx_is hy 1 5 rfl) (sx_nextf hy hr hI17697  ) (Nat.le_of_ble_eq_true rfl) ?_
          intro r I17709 J17710 Ra hq
          obtain ⟨⟨hI17709, ec, fiI17709, fjI17709⟩, rfl⟩ := hq
          rw [ec]
          clear ec Ra
          have fr17711 : fz 74 g [1, 4] I I17709 := fz_tr fr17700 (fz_mono fiI17709 (by decide))
          have fr17712 : fz 74 g [1] J J17710 := fz_tr fr17701 (fz_mono fjI17709 (by decide))
          have e17713 : I17709 (ad g 4) 0 = w17672 := by rw [fz_at fiI17709 4 (by decide) (by decide)]; exact e17702
          have e17714 : I17709 (ad g 6) 1 = w17645 := by rw [fz_at fiI17709 6 (by decide) (by decide)]; exact e17703
          have e17715 : I17709 (ad g 6) 2 = w17646 := by rw [fz_at fiI17709 6 (by decide) (by decide)]; exact e17704
          have e17716 : I17709 (ad g 4) 1 = w17707 := by rw [fz_at fiI17709 4 (by decide) (by decide)]; exact ew17707
          have e17717 : I17709 (ad g 1) 1 = L := hI17709.2
          have b17718 := BT_get hI17709.1 1 1 2 (0) (0) (900) (by decide) 1 (by decide) (by decide)
          rw [e17717] at b17718
          refine WP_iinc (ls' := [(0, _), (1, _), (2, _), (3, _), (4, _), (5, _), (6, _), (7, _)]) dX3_faultInParts_119 rfl (by decide) rfl ?_
          have hv17719 : (v17683 + Int32.ofInt (1)).toInt = v17683.toInt + (1) := ia_n rfl (by omega) (by omega)
          generalize v17683 + Int32.ofInt (1) = v17719 at hv17719 ⊢
          refine WP_goto 8 dX3_faultInParts_122 rfl ?_
          refine WP_iload dX3_faultInParts_8 rfl ?_
          refine WP_aload_n dX3_faultInParts_10 rfl ?_
          refine WS_call hz (i := 17) (by omega) dX3_faultInParts_11 ⟨⟨by decide, by decide⟩, zJ0_length_8abf5⟩ lX3_87 vJ0_length_8abf5 (As := []) (rest := [.int v17719]) (j_length hz (i := 17) (by omega)) rfl rfl (Nat.le_of_ble_eq_true rfl) ?_
          intro r Ia Ja Ra hq
          obtain ⟨⟨ea, eb, ec⟩, v17720, rfl, cv17720⟩ := hq
          show WP _ _ _ _ (.int _ :: _) _ _ _ _
          rw [ea, eb, ec]
          clear ea eb ec Ia Ja Ra
          have hv17720 : v17720.toInt = 2 := cv17720.trans rfl
          refine WQ_icmp_ge 125 dX3_faultInParts_14 rfl (fun c17720 => ?_) (fun c17720 => False.elim (by omega))
          refine WP_aload_n dX3_faultInParts_125 rfl ?_
          refine WP_getr dX3_faultInParts_126 fX3_15 rfl (lyx_is hy 3 3 rfl) (rfx hr 3 2 1 (by decide)) ?_
          refine WQ_geti dX3_faultInParts_129 fX3_43 rfl (lyx_is hy 1 5 rfl) (BT_get hI17709.1 1 2 3 (0) (0) (4) (by decide) 2 (by decide) (by decide)) (fun v17722 ev17722 av17722 bv17722 => ?_)
          refine WQ_iconst (3) (3) dX3_faultInParts_132 rfl rfl (fun v17723 hv17723 => ?_)
          refine WQ_icmp_ne 140 dX3_faultInParts_133 rfl (fun c17723 => ?_) (fun c17723 => ?_)
          · refine WQ_iconst (1) (1) dX3_faultInParts_140 rfl rfl (fun v17725 hv17725 => ?_)
            exact WP_iret dX3_faultInParts_141 rfl ⟨⟨hI17709, rfl, fr17711, fr17712, ⟨trivial, (by rw [e17714, ew17645] <;> exact (eq32 _ _).mpr (by omega)), (by rw [e17715, ew17646] <;> exact (eq32 _ _).mpr (by omega))⟩⟩, _, rfl, by omega, by omega, by (try rw [e17713]); omega⟩
          · refine WQ_iconst (0) (0) dX3_faultInParts_136 rfl rfl (fun v17726 hv17726 => ?_)
            refine WP_goto 141 dX3_faultInParts_137 rfl ?_
            exact WP_iret dX3_faultInParts_141 rfl ⟨⟨hI17709, rfl, fr17711, fr17712, ⟨trivial, (by rw [e17714, ew17645] <;> exact (eq32 _ _).mpr (by omega)), (by rw [e17715, ew17646] <;> exact (eq32 _ _).mpr (by omega))⟩⟩, _, rfl, by omega, by omega, by (try rw [e17713]); omega⟩
        · refine WP_iload dX3_faultInParts_109 rfl ?_
          exact WP_iret dX3_faultInParts_111 rfl ⟨⟨hI17697, rfl, fr17700, fr17701, ⟨trivial, (by rw [e17703, ew17645] <;> exact (eq32 _ _).mpr (by omega)), (by rw [e17704, ew17646] <;> exact (eq32 _ _).mpr (by omega))⟩⟩, _, rfl, by omega, by omega, by (try rw [e17702]); omega⟩
      · refine WQ_iconst (1) (1) dX3_faultInParts_72 rfl rfl (fun v17727 hv17727 => ?_)
        exact WP_iret dX3_faultInParts_73 rfl ⟨⟨hI17674, rfl, fr17676, fr17677, ⟨trivial, (by rw [e17678, ew17645] <;> exact (eq32 _ _).mpr (by omega)), (by rw [e17679, ew17646] <;> exact (eq32 _ _).mpr (by omega))⟩⟩, _, rfl, by omega, by omega, by (try rw [e17680]); omega⟩
    · refine WP_iload dX3_faultInParts_109 rfl ?_
      exact WP_iret dX3_faultInParts_111 rfl ⟨⟨hI17663, rfl, fr17666, fr17667, ⟨trivial, (by rw [e17668, ew17645] <;> exact (eq32 _ _).mpr (by omega)), (by rw [e17669, ew17646] <;> exact (eq32 _ _).mpr (by omega))⟩⟩, _, rfl, by omega, by omega, by (try rw [ew17672]); omega⟩
  · refine WQ_iconst (1) (1) dX3_faultInParts_72 rfl rfl (fun v17728 hv17728 => ?_)
    obtain ⟨w17729, ew17729⟩ : ∃ w : Int32, I (ad g 4) 0 = w := ⟨_, rfl⟩
    have bw17729 := BT_get hI.1 4 0 5 (0) (0) (1000) (by decide) 0 (by decide) (by decide)
    rw [ew17729] at bw17729
    exact WP_iret dX3_faultInParts_73 rfl ⟨⟨hI, rfl, fr0, frj0, ⟨trivial, rfl, rfl⟩⟩, _, rfl, by omega, by omega, by (try rw [ew17729]); omega⟩
set_option maxHeartbeats 4000000 in
set_option maxRecDepth 100000 in
theorem sx_parts_6_8 {g : GG} {n : Int} {L : Int32} (hy : LyX g) {aK aV : Nat → Nat} {fo : Option Nat} (hz : HZ g aK aV fo)  {I : pI} {J : pJ} {R : pR} (hr : RfX g R) (hI : XI g n L I) (cz : Int32) (cz_lo : 8 ≤ cz.toInt) (cz_hi : cz.toInt ≤ 8) : SP g mX3_faultInParts [.ref (ad g 3), .int cz, .ref (ad g 6)] I J R (fun r I' J' R' => (XI g n L I' ∧ R' = R ∧ fz 74 g [1, 4] I I' ∧ fz 74 g [1] J J' ∧ True ∧ I' (ad g 6) 1 = I (ad g 6) 1 ∧ I' (ad g 6) 2 = I (ad g 6) 2) ∧ ∃ v : Int32, r = some (.int v) ∧ 0 ≤ v.toInt ∧ v.toInt ≤ 5 ∧ (v.toInt = 0 → (I' (ad g 4) 0).toInt ≤ 3)) := by
  refine SP_of ⟨by decide, rfl⟩ (Nat.le_of_ble_eq_true rfl) ?_
  have e17730 : I (ad g 1) 1 = L := hI.2
  have b17731 := BT_get hI.1 1 1 2 (0) (0) (900) (by decide) 1 (by decide) (by decide)
  rw [e17730] at b17731
  have fr0 : fz 74 g [1, 4] I I := fz_rf
  have frj0 : fz 74 g [1] J J := fz_rf
  obtain ⟨w17732, ew17732⟩ : ∃ w : Int32, I (ad g 6) 1 = w := ⟨_, rfl⟩
  have bw17732 := BT_get hI.1 6 1 2 (0) (0) (4) (by decide) 1 (by decide) (by decide)
  rw [ew17732] at bw17732
  obtain ⟨w17733, ew17733⟩ : ∃ w : Int32, I (ad g 6) 2 = w := ⟨_, rfl⟩
  have bw17733 := BT_get hI.1 6 2 3 (0) (0) (3) (by decide) 2 (by decide) (by decide)
  rw [ew17733] at bw17733
  refine WP_iload_n dX3_faultInParts_0 rfl ?_
  refine WP_callS1 dX3_faultInParts_1 ⟨⟨⟨by decide, by decide⟩, zX3_shapeOf⟩, lX3_84, tX3_shapeOf⟩ (sx_shapeOf hy hz hr hI cz (by omega) (by omega)) (Nat.le_of_ble_eq_true rfl) ?_
  intro r Ia Ja Ra hq
  obtain ⟨⟨ea, eb, ec⟩, rfl⟩ := hq
  show WP _ _ _ _ (.ref _ :: _) _ _ _ _
  rw [show 10 + cz.toInt.toNat = 18 by omega]
  rw [ea, eb, ec]
  clear ea eb ec Ia Ja Ra
  refine WP_astore_n (ls' := [(0, _), (1, _), (2, _), (3, _)]) dX3_faultInParts_4 (by decide) rfl ?_
  refine WQ_iconst (0) (0) dX3_faultInParts_5 rfl rfl (fun v17734 hv17734 => ?_)
  refine WP_istore (ls' := [(0, _), (1, _), (2, _), (3, _), (4, _)]) dX3_faultInParts_6 (by decide) rfl ?_
  refine WP_iload dX3_faultInParts_8 rfl ?_
  refine WP_aload_n dX3_faultInParts_10 rfl ?_
  refine WS_call hz (i := 18) (by omega) dX3_faultInParts_11 ⟨⟨by decide, by decide⟩, zJ0_length_8abf5⟩ lX3_87 vJ0_length_8abf5 (As := []) (rest := [.int v17734]) (j_length hz (i := 18) (by omega)) rfl rfl (Nat.le_of_ble_eq_true rfl) ?_
  intro r Ia Ja Ra hq
  obtain ⟨⟨ea, eb, ec⟩, v17735, rfl, cv17735⟩ := hq
  show WP _ _ _ _ (.int _ :: _) _ _ _ _
  rw [ea, eb, ec]
  clear ea eb ec Ia Ja Ra
  have hv17735 : v17735.toInt = 1 := cv17735.trans rfl
  refine WQ_icmp_ge 125 dX3_faultInParts_14 rfl (fun c17735 => False.elim (by omega)) (fun c17735 => ?_)
  refine WP_iload dX3_faultInParts_17 rfl ?_
  refine WQ_iconst (5) (5) dX3_faultInParts_19 rfl rfl (fun v17737 hv17737 => ?_)
  refine WQ_icmp_ge 125 dX3_faultInParts_20 rfl (fun c17737 => False.elim (by omega)) (fun c17737 => ?_)
  refine WP_aload_n dX3_faultInParts_23 rfl ?_
  refine WP_iload dX3_faultInParts_24 rfl ?_
  refine WS_call hz (i := 18) (by omega) dX3_faultInParts_26 ⟨⟨by decide, by decide⟩, zJ0_charAt_5068e⟩ lX3_92 vJ0_charAt_5068e (As := [.int v17734]) (rest := []) (j_charAt hz (i := 18) (k := v17734) (by omega) (by omega) (by have z9 : ((liN.getD 18 0 : Nat) : Int) = 1 := rfl; omega)) rfl rfl (Nat.le_of_ble_eq_true rfl) ?_
  intro r Ia Ja Ra hq
  obtain ⟨⟨ea, eb, ec⟩, v17739, rfl, cv17739⟩ := hq
  show WP _ _ _ _ (.int _ :: _) _ _ _ _
  rw [ea, eb, ec]
  clear ea eb ec Ia Ja Ra
  have hv17739 : v17739.toInt = 115 := cv17739.trans (by rw [show v17734.toInt.toNat = 0 by omega]; rfl)
  refine WP_istore (ls' := [(0, _), (1, _), (2, _), (3, _), (4, _), (5, _)]) dX3_faultInParts_29 (by decide) rfl ?_
  refine WP_iload dX3_faultInParts_31 rfl ?_
  refine WQ_bipush (97) (97) dX3_faultInParts_33 rfl rfl (fun v17740 hv17740 => ?_)
  refine WQ_icmp_lt 49 dX3_faultInParts_35 rfl (fun c17740 => False.elim (by omega)) (fun c17740 => ?_)
  refine WP_iload dX3_faultInParts_38 rfl ?_
  refine WQ_bipush (122) (122) dX3_faultInParts_40 rfl rfl (fun v17742 hv17742 => ?_)
  refine WQ_icmp_gt 49 dX3_faultInParts_42 rfl (fun c17742 => False.elim (by omega)) (fun c17742 => ?_)
  refine WQ_iconst (1) (1) dX3_faultInParts_45 rfl rfl (fun v17744 hv17744 => ?_)
  refine WP_goto 50 dX3_faultInParts_46 rfl ?_
  refine WP_istore (ls' := [(0, _), (1, _), (2, _), (3, _), (4, _), (5, _), (6, _)]) dX3_faultInParts_50 (by decide) rfl ?_
  refine WP_aload_n dX3_faultInParts_52 rfl ?_
  refine WP_getr dX3_faultInParts_53 fX3_15 rfl (lyx_is hy 3 3 rfl) (rfx hr 3 2 1 (by decide)) ?_
  refine WQ_geti dX3_faultInParts_56 fX3_43 rfl (lyx_is hy 1 5 rfl) (BT_get hI.1 1 2 3 (0) (0) (4) (by decide) 2 (by decide) (by decide)) (fun v17745 ev17745 av17745 bv17745 => ?_)
  refine WP_iload dX3_faultInParts_59 rfl ?_
  refine WQ_if_eq 68 dX3_faultInParts_61 rfl (fun c17745 => False.elim (by omega)) (fun c17745 => ?_)
  refine WQ_iconst (1) (1) dX3_faultInParts_64 rfl rfl (fun v17747 hv17747 => ?_)
  refine WP_goto 69 dX3_faultInParts_65 rfl ?_
  refine WQ_icmp_eq 74 dX3_faultInParts_69 rfl (fun c17747 => ?_) (fun c17747 => ?_)
  · refine WP_iload dX3_faultInParts_74 rfl ?_
    refine WQ_if_eq 92 dX3_faultInParts_76 rfl (fun c17748 => False.elim (by omega)) (fun c17748 => ?_)
    refine WP_aload_n dX3_faultInParts_79 rfl ?_
    refine WP_iload dX3_faultInParts_80 rfl ?_
    refine WP_iload_n dX3_faultInParts_82 rfl ?_
    refine WP_iload dX3_faultInParts_83 rfl ?_
    refine WP_aload_n dX3_faultInParts_85 rfl ?_
    refine WP_callV4 (k := 3) dX3_faultInParts_86 ⟨⟨⟨by decide, by decide⟩, zX3_faultOfName⟩, lX3_96, by decide, rfl, vX3_faultOfName.1, vX3_faultOfName.2⟩ (lyx_is hy 3 3 rfl) (sx_part_6_8_0 hy hr hI v17739 cz v17734 (by omega) (by omega) (by omega) (by omega) (by omega) (by omega)) (Nat.le_of_ble_eq_true rfl) ?_
    intro r I17750 J17751 Ra hq
    obtain ⟨⟨hI17750, ec, fiI17750, fjI17750, ⟨pI17750, sI17750_6_1, sI17750_6_2⟩⟩, v17752, rfl, av17752, bv17752, cv17752⟩ := hq
    show WP _ _ _ _ (.int _ :: _) _ _ _ _
    rw [ec]
    clear ec Ra
    have fr17753 : fz 74 g [1, 4] I I17750 := fz_tr fr0 (fz_mono fiI17750 (by decide))
    have fr17754 : fz 74 g [1] J J17751 := fz_tr frj0 (fz_mono fjI17750 (by decide))
    have e17755 : I17750 (ad g 6) 1 = w17732 := by rw [sI17750_6_1]; exact ew17732
    have e17756 : I17750 (ad g 6) 2 = w17733 := by rw [sI17750_6_2]; exact ew17733
    have e17757 : I17750 (ad g 1) 1 = L := hI17750.2
    have b17758 := BT_get hI17750.1 1 1 2 (0) (0) (900) (by decide) 1 (by decide) (by decide)
    rw [e17757] at b17758
    obtain ⟨w17759, ew17759⟩ : ∃ w : Int32, I17750 (ad g 4) 0 = w := ⟨_, rfl⟩
    have bw17759 := BT_get hI17750.1 4 0 5 (0) (0) (1000) (by decide) 0 (by decide) (by decide)
    rw [ew17759] at bw17759
    rw [ew17759] at cv17752
    refine WP_goto 102 dX3_faultInParts_89 rfl ?_
    refine WP_istore (ls' := [(0, _), (1, _), (2, _), (3, _), (4, _), (5, _), (6, _), (7, _)]) dX3_faultInParts_102 (by decide) rfl ?_
    refine WP_iload dX3_faultInParts_104 rfl ?_
    refine WQ_if_eq 112 dX3_faultInParts_106 rfl (fun c17759 => ?_) (fun c17759 => ?_)
    · refine WP_aload_n dX3_faultInParts_112 rfl ?_
      refine WP_getr dX3_faultInParts_113 fX3_15 rfl (lyx_is hy 3 3 rfl) (rfx hr 3 2 1 (by decide)) ?_
      refine WP_callV0 (k := 5) dX3_faultInParts_116 ⟨⟨⟨by decide, by decide⟩, zX5_next⟩, lX3_40, by decide, rfl, vX5_next.1, vX5_next.2⟩ (lyx_is hy 1 5 rfl) (sx_nextf hy hr hI17750  ) (Nat.le_of_ble_eq_true rfl) ?_
      intro r I17761 J17762 Ra hq
      obtain ⟨⟨hI17761, ec, fiI17761, fjI17761⟩, rfl⟩ := hq
      rw [ec]
      clear ec Ra
      have fr17763 : fz 74 g [1, 4] I I17761 := fz_tr fr17753 (fz_mono fiI17761 (by decide))
      have fr17764 : fz 74 g [1] J J17762 := fz_tr fr17754 (fz_mono fjI17761 (by decide))
      have e17765 : I17761 (ad g 6) 1 = w17732 := by rw [fz_at fiI17761 6 (by decide) (by decide)]; exact e17755
      have e17766 : I17761 (ad g 6) 2 = w17733 := by rw [fz_at fiI17761 6 (by decide) (by decide)]; exact e17756
      have e17767 : I17761 (ad g 4) 0 = w17759 := by rw [fz_at fiI17761 4 (by decide) (by decide)]; exact ew17759
      have e17768 : I17761 (ad g 1) 1 = L := hI17761.2
      have b17769 := BT_get hI17761.1 1 1 2 (0) (0) (900) (by decide) 1 (by decide) (by decide)
      rw [e17768] at b17769
      refine WP_iinc (ls' := [(0, _), (1, _), (2, _), (3, _), (4, _), (5, _), (6, _), (7, _)]) dX3_faultInParts_119 rfl (by decide) rfl ?_
      have hv17770 : (v17734 + Int32.ofInt (1)).toInt = v17734.toInt + (1) := ia_n rfl (by omega) (by omega)
      generalize v17734 + Int32.ofInt (1) = v17770 at hv17770 ⊢
      refine WP_goto 8 dX3_faultInParts_122 rfl ?_
      refine WP_iload dX3_faultInParts_8 rfl ?_
      refine WP_aload_n dX3_faultInParts_10 rfl ?_
      refine WS_call hz (i := 18) (by omega) dX3_faultInParts_11 ⟨⟨by decide, by decide⟩, zJ0_length_8abf5⟩ lX3_87 vJ0_length_8abf5 (As := []) (rest := [.int v17770]) (j_length hz (i := 18) (by omega)) rfl rfl (Nat.le_of_ble_eq_true rfl) ?_
      intro r Ia Ja Ra hq
      obtain ⟨⟨ea, eb, ec⟩, v17771, rfl, cv17771⟩ := hq
      show WP _ _ _ _ (.int _ :: _) _ _ _ _
      rw [ea, eb, ec]
      clear ea eb ec Ia Ja Ra
      have hv17771 : v17771.toInt = 1 := cv17771.trans rfl
      refine WQ_icmp_ge 125 dX3_faultInParts_14 rfl (fun c17771 => ?_) (fun c17771 => False.elim (by omega))
      refine WP_aload_n dX3_faultInParts_125 rfl ?_
      refine WP_getr dX3_faultInParts_126 fX3_15 rfl (lyx_is hy 3 3 rfl) (rfx hr 3 2 1 (by decide)) ?_
      refine WQ_geti dX3_faultInParts_129 fX3_43 rfl (lyx_is hy 1 5 rfl) (BT_get hI17761.1 1 2 3 (0) (0) (4) (by decide) 2 (by decide) (by decide)) (fun v17773 ev17773 av17773 bv17773 => ?_)
      refine WQ_iconst (3) (3) dX3_faultInParts_132 rfl rfl (fun v17774 hv17774 => ?_)
      refine WQ_icmp_ne 140 dX3_faultInParts_133 rfl (fun c17774 => ?_) (fun c17774 => ?_)
      · refine WQ_iconst (1) (1) dX3_faultInParts_140 rfl rfl (fun v17776 hv17776 => ?_)
        exact WP_iret dX3_faultInParts_141 rfl ⟨⟨hI17761, rfl, fr17763, fr17764, ⟨trivial, (by rw [e17765, ew17732] <;> exact (eq32 _ _).mpr (by omega)), (by rw [e17766, ew17733] <;> exact (eq32 _ _).mpr (by omega))⟩⟩, _, rfl, by omega, by omega, by (try rw [e17767]); omega⟩
      · refine WQ_iconst (0) (0) dX3_faultInParts_136 rfl rfl (fun v17777 hv17777 => ?_)
        refine WP_goto 141 dX3_faultInParts_137 rfl ?_
        exact WP_iret dX3_faultInParts_141 rfl ⟨⟨hI17761, rfl, fr17763, fr17764, ⟨trivial, (by rw [e17765, ew17732] <;> exact (eq32 _ _).mpr (by omega)), (by rw [e17766, ew17733] <;> exact (eq32 _ _).mpr (by omega))⟩⟩, _, rfl, by omega, by omega, by (try rw [e17767]); omega⟩
    · refine WP_iload dX3_faultInParts_109 rfl ?_
      exact WP_iret dX3_faultInParts_111 rfl ⟨⟨hI17750, rfl, fr17753, fr17754, ⟨trivial, (by rw [e17755, ew17732] <;> exact (eq32 _ _).mpr (by omega)), (by rw [e17756, ew17733] <;> exact (eq32 _ _).mpr (by omega))⟩⟩, _, rfl, by omega, by omega, by (try rw [ew17759]); omega⟩
  · refine WQ_iconst (1) (1) dX3_faultInParts_72 rfl rfl (fun v17778 hv17778 => ?_)
    obtain ⟨w17779, ew17779⟩ : ∃ w : Int32, I (ad g 4) 0 = w := ⟨_, rfl⟩
    have bw17779 := BT_get hI.1 4 0 5 (0) (0) (1000) (by decide) 0 (by decide) (by decide)
    rw [ew17779] at bw17779
    exact WP_iret dX3_faultInParts_73 rfl ⟨⟨hI, rfl, fr0, frj0, ⟨trivial, rfl, rfl⟩⟩, _, rfl, by omega, by omega, by (try rw [ew17779]); omega⟩
set_option maxHeartbeats 4000000 in
set_option maxRecDepth 100000 in
theorem sx_parts_6_9 {g : GG} {n : Int} {L : Int32} (hy : LyX g) {aK aV : Nat → Nat} {fo : Option Nat} (hz : HZ g aK aV fo)  {I : pI} {J : pJ} {R : pR} (hr : RfX g R) (hI : XI g n L I) (cz : Int32) (cz_lo : 9 ≤ cz.toInt) (cz_hi : cz.toInt ≤ 9) : SP g mX3_faultInParts [.ref (ad g 3), .int cz, .ref (ad g 6)] I J R (fun r I' J' R' => (XI g n L I' ∧ R' = R ∧ fz 74 g [1, 4] I I' ∧ fz 74 g [1] J J' ∧ True ∧ I' (ad g 6) 1 = I (ad g 6) 1 ∧ I' (ad g 6) 2 = I (ad g 6) 2) ∧ ∃ v : Int32, r = some (.int v) ∧ 0 ≤ v.toInt ∧ v.toInt ≤ 5 ∧ (v.toInt = 0 → (I' (ad g 4) 0).toInt ≤ 2)) := by
  refine SP_of ⟨by decide, rfl⟩ (Nat.le_of_ble_eq_true rfl) ?_
  have e17780 : I (ad g 1) 1 = L := hI.2
  have b17781 := BT_get hI.1 1 1 2 (0) (0) (900) (by decide) 1 (by decide) (by decide)
  rw [e17780] at b17781
  have fr0 : fz 74 g [1, 4] I I := fz_rf
  have frj0 : fz 74 g [1] J J := fz_rf
  obtain ⟨w17782, ew17782⟩ : ∃ w : Int32, I (ad g 6) 1 = w := ⟨_, rfl⟩
  have bw17782 := BT_get hI.1 6 1 2 (0) (0) (4) (by decide) 1 (by decide) (by decide)
  rw [ew17782] at bw17782
  obtain ⟨w17783, ew17783⟩ : ∃ w : Int32, I (ad g 6) 2 = w := ⟨_, rfl⟩
  have bw17783 := BT_get hI.1 6 2 3 (0) (0) (3) (by decide) 2 (by decide) (by decide)
  rw [ew17783] at bw17783
  refine WP_iload_n dX3_faultInParts_0 rfl ?_
  refine WP_callS1 dX3_faultInParts_1 ⟨⟨⟨by decide, by decide⟩, zX3_shapeOf⟩, lX3_84, tX3_shapeOf⟩ (sx_shapeOf hy hz hr hI cz (by omega) (by omega)) (Nat.le_of_ble_eq_true rfl) ?_
  intro r Ia Ja Ra hq
  obtain ⟨⟨ea, eb, ec⟩, rfl⟩ := hq
  show WP _ _ _ _ (.ref _ :: _) _ _ _ _
  rw [show 10 + cz.toInt.toNat = 19 by omega]
  rw [ea, eb, ec]
  clear ea eb ec Ia Ja Ra
  refine WP_astore_n (ls' := [(0, _), (1, _), (2, _), (3, _)]) dX3_faultInParts_4 (by decide) rfl ?_
  refine WQ_iconst (0) (0) dX3_faultInParts_5 rfl rfl (fun v17784 hv17784 => ?_)
  refine WP_istore (ls' := [(0, _), (1, _), (2, _), (3, _), (4, _)]) dX3_faultInParts_6 (by decide) rfl ?_
  refine WP_iload dX3_faultInParts_8 rfl ?_
  refine WP_aload_n dX3_faultInParts_10 rfl ?_
  refine WS_call hz (i := 19) (by omega) dX3_faultInParts_11 ⟨⟨by decide, by decide⟩, zJ0_length_8abf5⟩ lX3_87 vJ0_length_8abf5 (As := []) (rest := [.int v17784]) (j_length hz (i := 19) (by omega)) rfl rfl (Nat.le_of_ble_eq_true rfl) ?_
  intro r Ia Ja Ra hq
  obtain ⟨⟨ea, eb, ec⟩, v17785, rfl, cv17785⟩ := hq
  show WP _ _ _ _ (.int _ :: _) _ _ _ _
  rw [ea, eb, ec]
  clear ea eb ec Ia Ja Ra
  have hv17785 : v17785.toInt = 1 := cv17785.trans rfl
  refine WQ_icmp_ge 125 dX3_faultInParts_14 rfl (fun c17785 => False.elim (by omega)) (fun c17785 => ?_)
  refine WP_iload dX3_faultInParts_17 rfl ?_
  refine WQ_iconst (5) (5) dX3_faultInParts_19 rfl rfl (fun v17787 hv17787 => ?_)
  refine WQ_icmp_ge 125 dX3_faultInParts_20 rfl (fun c17787 => False.elim (by omega)) (fun c17787 => ?_)
  refine WP_aload_n dX3_faultInParts_23 rfl ?_
  refine WP_iload dX3_faultInParts_24 rfl ?_
  refine WS_call hz (i := 19) (by omega) dX3_faultInParts_26 ⟨⟨by decide, by decide⟩, zJ0_charAt_5068e⟩ lX3_92 vJ0_charAt_5068e (As := [.int v17784]) (rest := []) (j_charAt hz (i := 19) (k := v17784) (by omega) (by omega) (by have z9 : ((liN.getD 19 0 : Nat) : Int) = 1 := rfl; omega)) rfl rfl (Nat.le_of_ble_eq_true rfl) ?_
  intro r Ia Ja Ra hq
  obtain ⟨⟨ea, eb, ec⟩, v17789, rfl, cv17789⟩ := hq
  show WP _ _ _ _ (.int _ :: _) _ _ _ _
  rw [ea, eb, ec]
  clear ea eb ec Ia Ja Ra
  have hv17789 : v17789.toInt = 116 := cv17789.trans (by rw [show v17784.toInt.toNat = 0 by omega]; rfl)
  refine WP_istore (ls' := [(0, _), (1, _), (2, _), (3, _), (4, _), (5, _)]) dX3_faultInParts_29 (by decide) rfl ?_
  refine WP_iload dX3_faultInParts_31 rfl ?_
  refine WQ_bipush (97) (97) dX3_faultInParts_33 rfl rfl (fun v17790 hv17790 => ?_)
  refine WQ_icmp_lt 49 dX3_faultInParts_35 rfl (fun c17790 => False.elim (by omega)) (fun c17790 => ?_)
  refine WP_iload dX3_faultInParts_38 rfl ?_
  refine WQ_bipush (122) (122) dX3_faultInParts_40 rfl rfl (fun v17792 hv17792 => ?_)
  refine WQ_icmp_gt 49 dX3_faultInParts_42 rfl (fun c17792 => False.elim (by omega)) (fun c17792 => ?_)
  refine WQ_iconst (1) (1) dX3_faultInParts_45 rfl rfl (fun v17794 hv17794 => ?_)
  refine WP_goto 50 dX3_faultInParts_46 rfl ?_
  refine WP_istore (ls' := [(0, _), (1, _), (2, _), (3, _), (4, _), (5, _), (6, _)]) dX3_faultInParts_50 (by decide) rfl ?_
  refine WP_aload_n dX3_faultInParts_52 rfl ?_
  refine WP_getr dX3_faultInParts_53 fX3_15 rfl (lyx_is hy 3 3 rfl) (rfx hr 3 2 1 (by decide)) ?_
  refine WQ_geti dX3_faultInParts_56 fX3_43 rfl (lyx_is hy 1 5 rfl) (BT_get hI.1 1 2 3 (0) (0) (4) (by decide) 2 (by decide) (by decide)) (fun v17795 ev17795 av17795 bv17795 => ?_)
  refine WP_iload dX3_faultInParts_59 rfl ?_
  refine WQ_if_eq 68 dX3_faultInParts_61 rfl (fun c17795 => False.elim (by omega)) (fun c17795 => ?_)
  refine WQ_iconst (1) (1) dX3_faultInParts_64 rfl rfl (fun v17797 hv17797 => ?_)
  refine WP_goto 69 dX3_faultInParts_65 rfl ?_
  refine WQ_icmp_eq 74 dX3_faultInParts_69 rfl (fun c17797 => ?_) (fun c17797 => ?_)
  · refine WP_iload dX3_faultInParts_74 rfl ?_
    refine WQ_if_eq 92 dX3_faultInParts_76 rfl (fun c17798 => False.elim (by omega)) (fun c17798 => ?_)
    refine WP_aload_n dX3_faultInParts_79 rfl ?_
    refine WP_iload dX3_faultInParts_80 rfl ?_
    refine WP_iload_n dX3_faultInParts_82 rfl ?_
    refine WP_iload dX3_faultInParts_83 rfl ?_
    refine WP_aload_n dX3_faultInParts_85 rfl ?_
    refine WP_callV4 (k := 3) dX3_faultInParts_86 ⟨⟨⟨by decide, by decide⟩, zX3_faultOfName⟩, lX3_96, by decide, rfl, vX3_faultOfName.1, vX3_faultOfName.2⟩ (lyx_is hy 3 3 rfl) (sx_part_6_9_0 hy hr hI v17789 cz v17784 (by omega) (by omega) (by omega) (by omega) (by omega) (by omega)) (Nat.le_of_ble_eq_true rfl) ?_
    intro r I17800 J17801 Ra hq
    obtain ⟨⟨hI17800, ec, fiI17800, fjI17800, ⟨pI17800, sI17800_6_1, sI17800_6_2⟩⟩, v17802, rfl, av17802, bv17802, cv17802⟩ := hq
    show WP _ _ _ _ (.int _ :: _) _ _ _ _
    rw [ec]
    clear ec Ra
    have fr17803 : fz 74 g [1, 4] I I17800 := fz_tr fr0 (fz_mono fiI17800 (by decide))
    have fr17804 : fz 74 g [1] J J17801 := fz_tr frj0 (fz_mono fjI17800 (by decide))
    have e17805 : I17800 (ad g 6) 1 = w17782 := by rw [sI17800_6_1]; exact ew17782
    have e17806 : I17800 (ad g 6) 2 = w17783 := by rw [sI17800_6_2]; exact ew17783
    have e17807 : I17800 (ad g 1) 1 = L := hI17800.2
    have b17808 := BT_get hI17800.1 1 1 2 (0) (0) (900) (by decide) 1 (by decide) (by decide)
    rw [e17807] at b17808
    obtain ⟨w17809, ew17809⟩ : ∃ w : Int32, I17800 (ad g 4) 0 = w := ⟨_, rfl⟩
    have bw17809 := BT_get hI17800.1 4 0 5 (0) (0) (1000) (by decide) 0 (by decide) (by decide)
    rw [ew17809] at bw17809
    rw [ew17809] at cv17802
    refine WP_goto 102 dX3_faultInParts_89 rfl ?_
    refine WP_istore (ls' := [(0, _), (1, _), (2, _), (3, _), (4, _), (5, _), (6, _), (7, _)]) dX3_faultInParts_102 (by decide) rfl ?_
    refine WP_iload dX3_faultInParts_104 rfl ?_
    refine WQ_if_eq 112 dX3_faultInParts_106 rfl (fun c17809 => ?_) (fun c17809 => ?_)
    · refine WP_aload_n dX3_faultInParts_112 rfl ?_
      refine WP_getr dX3_faultInParts_113 fX3_15 rfl (lyx_is hy 3 3 rfl) (rfx hr 3 2 1 (by decide)) ?_
      refine WP_callV0 (k := 5) dX3_faultInParts_116 ⟨⟨⟨by decide, by decide⟩, zX5_next⟩, lX3_40, by decide, rfl, vX5_next.1, vX5_next.2⟩ (lyx_is hy 1 5 rfl) (sx_nextf hy hr hI17800  ) (Nat.le_of_ble_eq_true rfl) ?_
      intro r I17811 J17812 Ra hq
      obtain ⟨⟨hI17811, ec, fiI17811, fjI17811⟩, rfl⟩ := hq
      rw [ec]
      clear ec Ra
      have fr17813 : fz 74 g [1, 4] I I17811 := fz_tr fr17803 (fz_mono fiI17811 (by decide))
      have fr17814 : fz 74 g [1] J J17812 := fz_tr fr17804 (fz_mono fjI17811 (by decide))
      have e17815 : I17811 (ad g 6) 1 = w17782 := by rw [fz_at fiI17811 6 (by decide) (by decide)]; exact e17805
      have e17816 : I17811 (ad g 6) 2 = w17783 := by rw [fz_at fiI17811 6 (by decide) (by decide)]; exact e17806
      have e17817 : I17811 (ad g 4) 0 = w17809 := by rw [fz_at fiI17811 4 (by decide) (by decide)]; exact ew17809
      have e17818 : I17811 (ad g 1) 1 = L := hI17811.2
      have b17819 := BT_get hI17811.1 1 1 2 (0) (0) (900) (by decide) 1 (by decide) (by decide)
      rw [e17818] at b17819
      refine WP_iinc (ls' := [(0, _), (1, _), (2, _), (3, _), (4, _), (5, _), (6, _), (7, _)]) dX3_faultInParts_119 rfl (by decide) rfl ?_
      have hv17820 : (v17784 + Int32.ofInt (1)).toInt = v17784.toInt + (1) := ia_n rfl (by omega) (by omega)
      generalize v17784 + Int32.ofInt (1) = v17820 at hv17820 ⊢
      refine WP_goto 8 dX3_faultInParts_122 rfl ?_
      refine WP_iload dX3_faultInParts_8 rfl ?_
      refine WP_aload_n dX3_faultInParts_10 rfl ?_
      refine WS_call hz (i := 19) (by omega) dX3_faultInParts_11 ⟨⟨by decide, by decide⟩, zJ0_length_8abf5⟩ lX3_87 vJ0_length_8abf5 (As := []) (rest := [.int v17820]) (j_length hz (i := 19) (by omega)) rfl rfl (Nat.le_of_ble_eq_true rfl) ?_
      intro r Ia Ja Ra hq
      obtain ⟨⟨ea, eb, ec⟩, v17821, rfl, cv17821⟩ := hq
      show WP _ _ _ _ (.int _ :: _) _ _ _ _
      rw [ea, eb, ec]
      clear ea eb ec Ia Ja Ra
      have hv17821 : v17821.toInt = 1 := cv17821.trans rfl
      refine WQ_icmp_ge 125 dX3_faultInParts_14 rfl (fun c17821 => ?_) (fun c17821 => False.elim (by omega))
      refine WP_aload_n dX3_faultInParts_125 rfl ?_
      refine WP_getr dX3_faultInParts_126 fX3_15 rfl (lyx_is hy 3 3 rfl) (rfx hr 3 2 1 (by decide)) ?_
      refine WQ_geti dX3_faultInParts_129 fX3_43 rfl (lyx_is hy 1 5 rfl) (BT_get hI17811.1 1 2 3 (0) (0) (4) (by decide) 2 (by decide) (by decide)) (fun v17823 ev17823 av17823 bv17823 => ?_)
      refine WQ_iconst (3) (3) dX3_faultInParts_132 rfl rfl (fun v17824 hv17824 => ?_)
      refine WQ_icmp_ne 140 dX3_faultInParts_133 rfl (fun c17824 => ?_) (fun c17824 => ?_)
      · refine WQ_iconst (1) (1) dX3_faultInParts_140 rfl rfl (fun v17826 hv17826 => ?_)
        exact WP_iret dX3_faultInParts_141 rfl ⟨⟨hI17811, rfl, fr17813, fr17814, ⟨trivial, (by rw [e17815, ew17782] <;> exact (eq32 _ _).mpr (by omega)), (by rw [e17816, ew17783] <;> exact (eq32 _ _).mpr (by omega))⟩⟩, _, rfl, by omega, by omega, by (try rw [e17817]); omega⟩
      · refine WQ_iconst (0) (0) dX3_faultInParts_136 rfl rfl (fun v17827 hv17827 => ?_)
        refine WP_goto 141 dX3_faultInParts_137 rfl ?_
        exact WP_iret dX3_faultInParts_141 rfl ⟨⟨hI17811, rfl, fr17813, fr17814, ⟨trivial, (by rw [e17815, ew17782] <;> exact (eq32 _ _).mpr (by omega)), (by rw [e17816, ew17783] <;> exact (eq32 _ _).mpr (by omega))⟩⟩, _, rfl, by omega, by omega, by (try rw [e17817]); omega⟩
    · refine WP_iload dX3_faultInParts_109 rfl ?_
      exact WP_iret dX3_faultInParts_111 rfl ⟨⟨hI17800, rfl, fr17803, fr17804, ⟨trivial, (by rw [e17805, ew17782] <;> exact (eq32 _ _).mpr (by omega)), (by rw [e17806, ew17783] <;> exact (eq32 _ _).mpr (by omega))⟩⟩, _, rfl, by omega, by omega, by (try rw [ew17809]); omega⟩
  · refine WQ_iconst (1) (1) dX3_faultInParts_72 rfl rfl (fun v17828 hv17828 => ?_)
    obtain ⟨w17829, ew17829⟩ : ∃ w : Int32, I (ad g 4) 0 = w := ⟨_, rfl⟩
    have bw17829 := BT_get hI.1 4 0 5 (0) (0) (1000) (by decide) 0 (by decide) (by decide)
    rw [ew17829] at bw17829
    exact WP_iret dX3_faultInParts_73 rfl ⟨⟨hI, rfl, fr0, frj0, ⟨trivial, rfl, rfl⟩⟩, _, rfl, by omega, by omega, by (try rw [ew17829]); omega⟩
set_option maxHeartbeats 4000000 in
set_option maxRecDepth 100000 in
theorem sx_parts_6_10 {g : GG} {n : Int} {L : Int32} (hy : LyX g) {aK aV : Nat → Nat} {fo : Option Nat} (hz : HZ g aK aV fo)  {I : pI} {J : pJ} {R : pR} (hr : RfX g R) (hI : XI g n L I) (cz : Int32) (cz_lo : 10 ≤ cz.toInt) (cz_hi : cz.toInt ≤ 10) : SP g mX3_faultInParts [.ref (ad g 3), .int cz, .ref (ad g 6)] I J R (fun r I' J' R' => (XI g n L I' ∧ R' = R ∧ fz 74 g [1, 4] I I' ∧ fz 74 g [1] J J' ∧ True ∧ I' (ad g 6) 1 = I (ad g 6) 1 ∧ I' (ad g 6) 2 = I (ad g 6) 2) ∧ ∃ v : Int32, r = some (.int v) ∧ 0 ≤ v.toInt ∧ v.toInt ≤ 5 ∧ (v.toInt = 0 → (I' (ad g 4) 0).toInt ≤ 3 ∧ (I' (ad g 4) 1).toInt ≤ 2 ∧ (I' (ad g 4) 2).toInt ≤ 6 ∧ (I' (ad g 4) 3).toInt ≤ 3 ∧ (I' (ad g 4) 4).toInt ≤ 99)) := by
  refine SP_of ⟨by decide, rfl⟩ (Nat.le_of_ble_eq_true rfl) ?_
  have e17830 : I (ad g 1) 1 = L := hI.2
  have b17831 := BT_get hI.1 1 1 2 (0) (0) (900) (by decide) 1 (by decide) (by decide)
  rw [e17830] at b17831
  have fr0 : fz 74 g [1, 4] I I := fz_rf
  have frj0 : fz 74 g [1] J J := fz_rf
  obtain ⟨w17832, ew17832⟩ : ∃ w : Int32, I (ad g 6) 1 = w := ⟨_, rfl⟩
  have bw17832 := BT_get hI.1 6 1 2 (0) (0) (4) (by decide) 1 (by decide) (by decide)
  rw [ew17832] at bw17832
  obtain ⟨w17833, ew17833⟩ : ∃ w : Int32, I (ad g 6) 2 = w := ⟨_, rfl⟩
  have bw17833 := BT_get hI.1 6 2 3 (0) (0) (3) (by decide) 2 (by decide) (by decide)
  rw [ew17833] at bw17833
  refine WP_iload_n dX3_faultInParts_0 rfl ?_
  refine WP_callS1 dX3_faultInParts_1 ⟨⟨⟨by decide, by decide⟩, zX3_shapeOf⟩, lX3_84, tX3_shapeOf⟩ (sx_shapeOf hy hz hr hI cz (by omega) (by omega)) (Nat.le_of_ble_eq_true rfl) ?_
  intro r Ia Ja Ra hq
  obtain ⟨⟨ea, eb, ec⟩, rfl⟩ := hq
  show WP _ _ _ _ (.ref _ :: _) _ _ _ _
  rw [show 10 + cz.toInt.toNat = 20 by omega]
  rw [ea, eb, ec]
  clear ea eb ec Ia Ja Ra
  refine WP_astore_n (ls' := [(0, _), (1, _), (2, _), (3, _)]) dX3_faultInParts_4 (by decide) rfl ?_
  refine WQ_iconst (0) (0) dX3_faultInParts_5 rfl rfl (fun v17834 hv17834 => ?_)
  refine WP_istore (ls' := [(0, _), (1, _), (2, _), (3, _), (4, _)]) dX3_faultInParts_6 (by decide) rfl ?_
  refine WP_iload dX3_faultInParts_8 rfl ?_
  refine WP_aload_n dX3_faultInParts_10 rfl ?_
  refine WS_call hz (i := 20) (by omega) dX3_faultInParts_11 ⟨⟨by decide, by decide⟩, zJ0_length_8abf5⟩ lX3_87 vJ0_length_8abf5 (As := []) (rest := [.int v17834]) (j_length hz (i := 20) (by omega)) rfl rfl (Nat.le_of_ble_eq_true rfl) ?_
  intro r Ia Ja Ra hq
  obtain ⟨⟨ea, eb, ec⟩, v17835, rfl, cv17835⟩ := hq
  show WP _ _ _ _ (.int _ :: _) _ _ _ _
  rw [ea, eb, ec]
  clear ea eb ec Ia Ja Ra
  have hv17835 : v17835.toInt = 5 := cv17835.trans rfl
  refine WQ_icmp_ge 125 dX3_faultInParts_14 rfl (fun c17835 => False.elim (by omega)) (fun c17835 => ?_)
  refine WP_iload dX3_faultInParts_17 rfl ?_
  refine WQ_iconst (5) (5) dX3_faultInParts_19 rfl rfl (fun v17837 hv17837 => ?_)
  refine WQ_icmp_ge 125 dX3_faultInParts_20 rfl (fun c17837 => False.elim (by omega)) (fun c17837 => ?_)
  refine WP_aload_n dX3_faultInParts_23 rfl ?_
  refine WP_iload dX3_faultInParts_24 rfl ?_
  refine WS_call hz (i := 20) (by omega) dX3_faultInParts_26 ⟨⟨by decide, by decide⟩, zJ0_charAt_5068e⟩ lX3_92 vJ0_charAt_5068e (As := [.int v17834]) (rest := []) (j_charAt hz (i := 20) (k := v17834) (by omega) (by omega) (by have z9 : ((liN.getD 20 0 : Nat) : Int) = 5 := rfl; omega)) rfl rfl (Nat.le_of_ble_eq_true rfl) ?_
  intro r Ia Ja Ra hq
  obtain ⟨⟨ea, eb, ec⟩, v17839, rfl, cv17839⟩ := hq
  show WP _ _ _ _ (.int _ :: _) _ _ _ _
  rw [ea, eb, ec]
  clear ea eb ec Ia Ja Ra
  have hv17839 : v17839.toInt = 115 := cv17839.trans (by rw [show v17834.toInt.toNat = 0 by omega]; rfl)
  refine WP_istore (ls' := [(0, _), (1, _), (2, _), (3, _), (4, _), (5, _)]) dX3_faultInParts_29 (by decide) rfl ?_
  refine WP_iload dX3_faultInParts_31 rfl ?_
  refine WQ_bipush (97) (97) dX3_faultInParts_33 rfl rfl (fun v17840 hv17840 => ?_)
  refine WQ_icmp_lt 49 dX3_faultInParts_35 rfl (fun c17840 => False.elim (by omega)) (fun c17840 => ?_)
  refine WP_iload dX3_faultInParts_38 rfl ?_
  refine WQ_bipush (122) (122) dX3_faultInParts_40 rfl rfl (fun v17842 hv17842 => ?_)
  refine WQ_icmp_gt 49 dX3_faultInParts_42 rfl (fun c17842 => False.elim (by omega)) (fun c17842 => ?_)
  refine WQ_iconst (1) (1) dX3_faultInParts_45 rfl rfl (fun v17844 hv17844 => ?_)
  refine WP_goto 50 dX3_faultInParts_46 rfl ?_
  refine WP_istore (ls' := [(0, _), (1, _), (2, _), (3, _), (4, _), (5, _), (6, _)]) dX3_faultInParts_50 (by decide) rfl ?_
  refine WP_aload_n dX3_faultInParts_52 rfl ?_
  refine WP_getr dX3_faultInParts_53 fX3_15 rfl (lyx_is hy 3 3 rfl) (rfx hr 3 2 1 (by decide)) ?_
  refine WQ_geti dX3_faultInParts_56 fX3_43 rfl (lyx_is hy 1 5 rfl) (BT_get hI.1 1 2 3 (0) (0) (4) (by decide) 2 (by decide) (by decide)) (fun v17845 ev17845 av17845 bv17845 => ?_)
  refine WP_iload dX3_faultInParts_59 rfl ?_
  refine WQ_if_eq 68 dX3_faultInParts_61 rfl (fun c17845 => False.elim (by omega)) (fun c17845 => ?_)
  refine WQ_iconst (1) (1) dX3_faultInParts_64 rfl rfl (fun v17847 hv17847 => ?_)
  refine WP_goto 69 dX3_faultInParts_65 rfl ?_
  refine WQ_icmp_eq 74 dX3_faultInParts_69 rfl (fun c17847 => ?_) (fun c17847 => ?_)
  · refine WP_iload dX3_faultInParts_74 rfl ?_
    refine WQ_if_eq 92 dX3_faultInParts_76 rfl (fun c17848 => False.elim (by omega)) (fun c17848 => ?_)
    refine WP_aload_n dX3_faultInParts_79 rfl ?_
    refine WP_iload dX3_faultInParts_80 rfl ?_
    refine WP_iload_n dX3_faultInParts_82 rfl ?_
    refine WP_iload dX3_faultInParts_83 rfl ?_
    refine WP_aload_n dX3_faultInParts_85 rfl ?_
    refine WP_callV4 (k := 3) dX3_faultInParts_86 ⟨⟨⟨by decide, by decide⟩, zX3_faultOfName⟩, lX3_96, by decide, rfl, vX3_faultOfName.1, vX3_faultOfName.2⟩ (lyx_is hy 3 3 rfl) (sx_part_6_10_0 hy hr hI v17839 cz v17834 (by omega) (by omega) (by omega) (by omega) (by omega) (by omega)) (Nat.le_of_ble_eq_true rfl) ?_
    intro r I17850 J17851 Ra hq
    obtain ⟨⟨hI17850, ec, fiI17850, fjI17850, ⟨pI17850, sI17850_6_1, sI17850_6_2⟩⟩, v17852, rfl, av17852, bv17852, cv17852⟩ := hq
    show WP _ _ _ _ (.int _ :: _) _ _ _ _
    rw [ec]
    clear ec Ra
    have fr17853 : fz 74 g [1, 4] I I17850 := fz_tr fr0 (fz_mono fiI17850 (by decide))
    have fr17854 : fz 74 g [1] J J17851 := fz_tr frj0 (fz_mono fjI17850 (by decide))
    have e17855 : I17850 (ad g 6) 1 = w17832 := by rw [sI17850_6_1]; exact ew17832
    have e17856 : I17850 (ad g 6) 2 = w17833 := by rw [sI17850_6_2]; exact ew17833
    have e17857 : I17850 (ad g 1) 1 = L := hI17850.2
    have b17858 := BT_get hI17850.1 1 1 2 (0) (0) (900) (by decide) 1 (by decide) (by decide)
    rw [e17857] at b17858
    obtain ⟨w17859, ew17859⟩ : ∃ w : Int32, I17850 (ad g 4) 0 = w := ⟨_, rfl⟩
    have bw17859 := BT_get hI17850.1 4 0 5 (0) (0) (1000) (by decide) 0 (by decide) (by decide)
    rw [ew17859] at bw17859
    rw [ew17859] at cv17852
    refine WP_goto 102 dX3_faultInParts_89 rfl ?_
    refine WP_istore (ls' := [(0, _), (1, _), (2, _), (3, _), (4, _), (5, _), (6, _), (7, _)]) dX3_faultInParts_102 (by decide) rfl ?_
    refine WP_iload dX3_faultInParts_104 rfl ?_
    refine WQ_if_eq 112 dX3_faultInParts_106 rfl (fun c17859 => ?_) (fun c17859 => ?_)
    · refine WP_aload_n dX3_faultInParts_112 rfl ?_
      refine WP_getr dX3_faultInParts_113 fX3_15 rfl (lyx_is hy 3 3 rfl) (rfx hr 3 2 1 (by decide)) ?_
      refine WP_callV0 (k := 5) dX3_faultInParts_116 ⟨⟨⟨by decide, by decide⟩, zX5_next⟩, lX3_40, by decide, rfl, vX5_next.1, vX5_next.2⟩ (lyx_is hy 1 5 rfl) (sx_nextf hy hr hI17850  ) (Nat.le_of_ble_eq_true rfl) ?_
      intro r I17861 J17862 Ra hq
      obtain ⟨⟨hI17861, ec, fiI17861, fjI17861⟩, rfl⟩ := hq
      rw [ec]
      clear ec Ra
      have fr17863 : fz 74 g [1, 4] I I17861 := fz_tr fr17853 (fz_mono fiI17861 (by decide))
      have fr17864 : fz 74 g [1] J J17862 := fz_tr fr17854 (fz_mono fjI17861 (by decide))
      have e17865 : I17861 (ad g 6) 1 = w17832 := by rw [fz_at fiI17861 6 (by decide) (by decide)]; exact e17855
      have e17866 : I17861 (ad g 6) 2 = w17833 := by rw [fz_at fiI17861 6 (by decide) (by decide)]; exact e17856
      have e17867 : I17861 (ad g 4) 0 = w17859 := by rw [fz_at fiI17861 4 (by decide) (by decide)]; exact ew17859
      have e17868 : I17861 (ad g 1) 1 = L := hI17861.2
      have b17869 := BT_get hI17861.1 1 1 2 (0) (0) (900) (by decide) 1 (by decide) (by decide)
      rw [e17868] at b17869
      refine WP_iinc (ls' := [(0, _), (1, _), (2, _), (3, _), (4, _), (5, _), (6, _), (7, _)]) dX3_faultInParts_119 rfl (by decide) rfl ?_
      have hv17870 : (v17834 + Int32.ofInt (1)).toInt = v17834.toInt + (1) := ia_n rfl (by omega) (by omega)
      generalize v17834 + Int32.ofInt (1) = v17870 at hv17870 ⊢
      refine WP_goto 8 dX3_faultInParts_122 rfl ?_
      refine WP_iload dX3_faultInParts_8 rfl ?_
      refine WP_aload_n dX3_faultInParts_10 rfl ?_
      refine WS_call hz (i := 20) (by omega) dX3_faultInParts_11 ⟨⟨by decide, by decide⟩, zJ0_length_8abf5⟩ lX3_87 vJ0_length_8abf5 (As := []) (rest := [.int v17870]) (j_length hz (i := 20) (by omega)) rfl rfl (Nat.le_of_ble_eq_true rfl) ?_
      intro r Ia Ja Ra hq
      obtain ⟨⟨ea, eb, ec⟩, v17871, rfl, cv17871⟩ := hq
      show WP _ _ _ _ (.int _ :: _) _ _ _ _
      rw [ea, eb, ec]
      clear ea eb ec Ia Ja Ra
      have hv17871 : v17871.toInt = 5 := cv17871.trans rfl
      refine WQ_icmp_ge 125 dX3_faultInParts_14 rfl (fun c17871 => False.elim (by omega)) (fun c17871 => ?_)
      refine WP_iload dX3_faultInParts_17 rfl ?_
      refine WQ_iconst (5) (5) dX3_faultInParts_19 rfl rfl (fun v17873 hv17873 => ?_)
      refine WQ_icmp_ge 125 dX3_faultInParts_20 rfl (fun c17873 => False.elim (by omega)) (fun c17873 => ?_)
      refine WP_aload_n dX3_faultInParts_23 rfl ?_
      refine WP_iload dX3_faultInParts_24 rfl ?_
      refine WS_call hz (i := 20) (by omega) dX3_faultInParts_26 ⟨⟨by decide, by decide⟩, zJ0_charAt_5068e⟩ lX3_92 vJ0_charAt_5068e (As := [.int v17870]) (rest := []) (j_charAt hz (i := 20) (k := v17870) (by omega) (by omega) (by have z9 : ((liN.getD 20 0 : Nat) : Int) = 5 := rfl; omega)) rfl rfl (Nat.le_of_ble_eq_true rfl) ?_
      intro r Ia Ja Ra hq
      obtain ⟨⟨ea, eb, ec⟩, v17875, rfl, cv17875⟩ := hq
      show WP _ _ _ _ (.int _ :: _) _ _ _ _
      rw [ea, eb, ec]
      clear ea eb ec Ia Ja Ra
      have hv17875 : v17875.toInt = 116 := cv17875.trans (by rw [show v17870.toInt.toNat = 1 by omega]; rfl)
      refine WP_istore (ls' := [(0, _), (1, _), (2, _), (3, _), (4, _), (5, _), (6, _), (7, _)]) dX3_faultInParts_29 (by decide) rfl ?_
      refine WP_iload dX3_faultInParts_31 rfl ?_
      refine WQ_bipush (97) (97) dX3_faultInParts_33 rfl rfl (fun v17876 hv17876 => ?_)
      refine WQ_icmp_lt 49 dX3_faultInParts_35 rfl (fun c17876 => False.elim (by omega)) (fun c17876 => ?_)
      refine WP_iload dX3_faultInParts_38 rfl ?_
      refine WQ_bipush (122) (122) dX3_faultInParts_40 rfl rfl (fun v17878 hv17878 => ?_)
      refine WQ_icmp_gt 49 dX3_faultInParts_42 rfl (fun c17878 => False.elim (by omega)) (fun c17878 => ?_)
      refine WQ_iconst (1) (1) dX3_faultInParts_45 rfl rfl (fun v17880 hv17880 => ?_)
      refine WP_goto 50 dX3_faultInParts_46 rfl ?_
      refine WP_istore (ls' := [(0, _), (1, _), (2, _), (3, _), (4, _), (5, _), (6, _), (7, _)]) dX3_faultInParts_50 (by decide) rfl ?_
      refine WP_aload_n dX3_faultInParts_52 rfl ?_
      refine WP_getr dX3_faultInParts_53 fX3_15 rfl (lyx_is hy 3 3 rfl) (rfx hr 3 2 1 (by decide)) ?_
      refine WQ_geti dX3_faultInParts_56 fX3_43 rfl (lyx_is hy 1 5 rfl) (BT_get hI17861.1 1 2 3 (0) (0) (4) (by decide) 2 (by decide) (by decide)) (fun v17881 ev17881 av17881 bv17881 => ?_)
      refine WP_iload dX3_faultInParts_59 rfl ?_
      refine WQ_if_eq 68 dX3_faultInParts_61 rfl (fun c17881 => False.elim (by omega)) (fun c17881 => ?_)
      refine WQ_iconst (1) (1) dX3_faultInParts_64 rfl rfl (fun v17883 hv17883 => ?_)
      refine WP_goto 69 dX3_faultInParts_65 rfl ?_
      refine WQ_icmp_eq 74 dX3_faultInParts_69 rfl (fun c17883 => ?_) (fun c17883 => ?_)
      · refine WP_iload dX3_faultInParts_74 rfl ?_
        refine WQ_if_eq 92 dX3_faultInParts_76 rfl (fun c17884 => False.elim (by omega)) (fun c17884 => ?_)
        refine WP_aload_n dX3_faultInParts_79 rfl ?_
        refine WP_iload dX3_faultInParts_80 rfl ?_
        refine WP_iload_n dX3_faultInParts_82 rfl ?_
        refine WP_iload dX3_faultInParts_83 rfl ?_
        refine WP_aload_n dX3_faultInParts_85 rfl ?_
        refine WP_callV4 (k := 3) dX3_faultInParts_86 ⟨⟨⟨by decide, by decide⟩, zX3_faultOfName⟩, lX3_96, by decide, rfl, vX3_faultOfName.1, vX3_faultOfName.2⟩ (lyx_is hy 3 3 rfl) (sx_part_6_10_1 hy hr hI17861 v17875 cz v17870 (by omega) (by omega) (by omega) (by omega) (by omega) (by omega)) (Nat.le_of_ble_eq_true rfl) ?_
        intro r I17886 J17887 Ra hq
        obtain ⟨⟨hI17886, ec, fiI17886, fjI17886, ⟨pI17886, sI17886_4_0, sI17886_6_1, sI17886_6_2⟩⟩, v17888, rfl, av17888, bv17888, cv17888⟩ := hq
        show WP _ _ _ _ (.int _ :: _) _ _ _ _
        rw [ec]
        clear ec Ra
        have fr17889 : fz 74 g [1, 4] I I17886 := fz_tr fr17863 (fz_mono fiI17886 (by decide))
        have fr17890 : fz 74 g [1] J J17887 := fz_tr fr17864 (fz_mono fjI17886 (by decide))
        have e17891 : I17886 (ad g 4) 0 = w17859 := by rw [sI17886_4_0]; exact e17867
        have e17892 : I17886 (ad g 6) 1 = w17832 := by rw [sI17886_6_1]; exact e17865
        have e17893 : I17886 (ad g 6) 2 = w17833 := by rw [sI17886_6_2]; exact e17866
        have e17894 : I17886 (ad g 1) 1 = L := hI17886.2
        have b17895 := BT_get hI17886.1 1 1 2 (0) (0) (900) (by decide) 1 (by decide) (by decide)
        rw [e17894] at b17895
        obtain ⟨w17896, ew17896⟩ : ∃ w : Int32, I17886 (ad g 4) 1 = w := ⟨_, rfl⟩
        have bw17896 := BT_get hI17886.1 4 0 5 (0) (0) (1000) (by decide) 1 (by decide) (by decide)
        rw [ew17896] at bw17896
        rw [ew17896] at cv17888
        refine WP_goto 102 dX3_faultInParts_89 rfl ?_
        refine WP_istore (ls' := [(0, _), (1, _), (2, _), (3, _), (4, _), (5, _), (6, _), (7, _)]) dX3_faultInParts_102 (by decide) rfl ?_
        refine WP_iload dX3_faultInParts_104 rfl ?_
        refine WQ_if_eq 112 dX3_faultInParts_106 rfl (fun c17896 => ?_) (fun c17896 => ?_)
        · refine WP_aload_n dX3_faultInParts_112 rfl ?_
          refine WP_getr dX3_faultInParts_113 fX3_15 rfl (lyx_is hy 3 3 rfl) (rfx hr 3 2 1 (by decide)) ?_
          refine WP_callV0 (k := 5) dX3_faultInParts_116 ⟨⟨⟨by decide, by decide⟩, zX5_next⟩, lX3_40, by decide, rfl, vX5_next.1, vX5_next.2⟩ (lyx_is hy 1 5 rfl) (sx_nextf hy hr hI17886  ) (Nat.le_of_ble_eq_true rfl) ?_
          intro r I17898 J17899 Ra hq
          obtain ⟨⟨hI17898, ec, fiI17898, fjI17898⟩, rfl⟩ := hq
          rw [ec]
          clear ec Ra
          have fr17900 : fz 74 g [1, 4] I I17898 := fz_tr fr17889 (fz_mono fiI17898 (by decide))
          have fr17901 : fz 74 g [1] J J17899 := fz_tr fr17890 (fz_mono fjI17898 (by decide))
          have e17902 : I17898 (ad g 4) 0 = w17859 := by rw [fz_at fiI17898 4 (by decide) (by decide)]; exact e17891
          have e17903 : I17898 (ad g 6) 1 = w17832 := by rw [fz_at fiI17898 6 (by decide) (by decide)]; exact e17892
          have e17904 : I17898 (ad g 6) 2 = w17833 := by rw [fz_at fiI17898 6 (by decide) (by decide)]; exact e17893
          have e17905 : I17898 (ad g 4) 1 = w17896 := by rw [fz_at fiI17898 4 (by decide) (by decide)]; exact ew17896
          have e17906 : I17898 (ad g 1) 1 = L := hI17898.2
          have b17907 := BT_get hI17898.1 1 1 2 (0) (0) (900) (by decide) 1 (by decide) (by decide)
          rw [e17906] at b17907
          refine WP_iinc (ls' := [(0, _), (1, _), (2, _), (3, _), (4, _), (5, _), (6, _), (7, _)]) dX3_faultInParts_119 rfl (by decide) rfl ?_
          have hv17908 : (v17870 + Int32.ofInt (1)).toInt = v17870.toInt + (1) := ia_n rfl (by omega) (by omega)
          generalize v17870 + Int32.ofInt (1) = v17908 at hv17908 ⊢
          refine WP_goto 8 dX3_faultInParts_122 rfl ?_
          refine WP_iload dX3_faultInParts_8 rfl ?_
          refine WP_aload_n dX3_faultInParts_10 rfl ?_
          refine WS_call hz (i := 20) (by omega) dX3_faultInParts_11 ⟨⟨by decide, by decide⟩, zJ0_length_8abf5⟩ lX3_87 vJ0_length_8abf5 (As := []) (rest := [.int v17908]) (j_length hz (i := 20) (by omega)) rfl rfl (Nat.le_of_ble_eq_true rfl) ?_
          intro r Ia Ja Ra hq
          obtain ⟨⟨ea, eb, ec⟩, v17909, rfl, cv17909⟩ := hq
          show WP _ _ _ _ (.int _ :: _) _ _ _ _
          rw [ea, eb, ec]
          clear ea eb ec Ia Ja Ra
          have hv17909 : v17909.toInt = 5 := cv17909.trans rfl
          refine WQ_icmp_ge 125 dX3_faultInParts_14 rfl (fun c17909 => False.elim (by omega)) (fun c17909 => ?_)
          refine WP_iload dX3_faultInParts_17 rfl ?_
          refine WQ_iconst (5) (5) dX3_faultInParts_19 rfl rfl (fun v17911 hv17911 => ?_)
          refine WQ_icmp_ge 125 dX3_faultInParts_20 rfl (fun c17911 => False.elim (by omega)) (fun c17911 => ?_)
          refine WP_aload_n dX3_faultInParts_23 rfl ?_
          refine WP_iload dX3_faultInParts_24 rfl ?_
          refine WS_call hz (i := 20) (by omega) dX3_faultInParts_26 ⟨⟨by decide, by decide⟩, zJ0_charAt_5068e⟩ lX3_92 vJ0_charAt_5068e (As := [.int v17908]) (rest := []) (j_charAt hz (i := 20) (k := v17908) (by omega) (by omega) (by have z9 : ((liN.getD 20 0 : Nat) : Int) = 5 := rfl; omega)) rfl rfl (Nat.le_of_ble_eq_true rfl) ?_
          intro r Ia Ja Ra hq
          obtain ⟨⟨ea, eb, ec⟩, v17913, rfl, cv17913⟩ := hq
          show WP _ _ _ _ (.int _ :: _) _ _ _ _
          rw [ea, eb, ec]
          clear ea eb ec Ia Ja Ra
          have hv17913 : v17913.toInt = 68 := cv17913.trans (by rw [show v17908.toInt.toNat = 2 by omega]; rfl)
          refine WP_istore (ls' := [(0, _), (1, _), (2, _), (3, _), (4, _), (5, _), (6, _), (7, _)]) dX3_faultInParts_29 (by decide) rfl ?_
          refine WP_iload dX3_faultInParts_31 rfl ?_
          refine WQ_bipush (97) (97) dX3_faultInParts_33 rfl rfl (fun v17914 hv17914 => ?_)
          refine WQ_icmp_lt 49 dX3_faultInParts_35 rfl (fun c17914 => ?_) (fun c17914 => False.elim (by omega))
          refine WQ_iconst (0) (0) dX3_faultInParts_49 rfl rfl (fun v17916 hv17916 => ?_)
          refine WP_istore (ls' := [(0, _), (1, _), (2, _), (3, _), (4, _), (5, _), (6, _), (7, _)]) dX3_faultInParts_50 (by decide) rfl ?_
          refine WP_aload_n dX3_faultInParts_52 rfl ?_
          refine WP_getr dX3_faultInParts_53 fX3_15 rfl (lyx_is hy 3 3 rfl) (rfx hr 3 2 1 (by decide)) ?_
          refine WQ_geti dX3_faultInParts_56 fX3_43 rfl (lyx_is hy 1 5 rfl) (BT_get hI17898.1 1 2 3 (0) (0) (4) (by decide) 2 (by decide) (by decide)) (fun v17917 ev17917 av17917 bv17917 => ?_)
          refine WP_iload dX3_faultInParts_59 rfl ?_
          refine WQ_if_eq 68 dX3_faultInParts_61 rfl (fun c17917 => ?_) (fun c17917 => False.elim (by omega))
          refine WQ_iconst (2) (2) dX3_faultInParts_68 rfl rfl (fun v17919 hv17919 => ?_)
          refine WQ_icmp_eq 74 dX3_faultInParts_69 rfl (fun c17919 => ?_) (fun c17919 => ?_)
          · refine WP_iload dX3_faultInParts_74 rfl ?_
            refine WQ_if_eq 92 dX3_faultInParts_76 rfl (fun c17920 => ?_) (fun c17920 => False.elim (by omega))
            refine WP_aload_n dX3_faultInParts_92 rfl ?_
            refine WP_iload dX3_faultInParts_93 rfl ?_
            refine WP_iload_n dX3_faultInParts_95 rfl ?_
            refine WP_iload dX3_faultInParts_96 rfl ?_
            refine WP_aload_n dX3_faultInParts_98 rfl ?_
            refine WP_callV4 (k := 3) dX3_faultInParts_99 ⟨⟨⟨by decide, by decide⟩, zX3_faultOfNumber⟩, lX3_100, by decide, rfl, vX3_faultOfNumber.1, vX3_faultOfNumber.2⟩ (lyx_is hy 3 3 rfl) (sx_part_6_10_2 hy hr hI17898 v17913 cz v17908 (by omega) (by omega) (by omega) (by omega) (by omega) (by omega) (by rw [e17902]; omega)) (Nat.le_of_ble_eq_true rfl) ?_
            intro r I17922 J17923 Ra hq
            obtain ⟨⟨hI17922, ec, fiI17922, fjI17922, ⟨pI17922, sI17922_4_0, sI17922_4_1, sI17922_6_1, sI17922_6_2⟩⟩, v17924, rfl, av17924, bv17924, cv17924⟩ := hq
            show WP _ _ _ _ (.int _ :: _) _ _ _ _
            rw [ec]
            clear ec Ra
            have fr17925 : fz 74 g [1, 4] I I17922 := fz_tr fr17900 (fz_mono fiI17922 (by decide))
            have fr17926 : fz 74 g [1] J J17923 := fz_tr fr17901 (fz_mono fjI17922 (by decide))
            have e17927 : I17922 (ad g 4) 0 = w17859 := by rw [sI17922_4_0]; exact e17902
            have e17928 : I17922 (ad g 4) 1 = w17896 := by rw [sI17922_4_1]; exact e17905
            have e17929 : I17922 (ad g 6) 1 = w17832 := by rw [sI17922_6_1]; exact e17903
            have e17930 : I17922 (ad g 6) 2 = w17833 := by rw [sI17922_6_2]; exact e17904
            have e17931 : I17922 (ad g 1) 1 = L := hI17922.2
            have b17932 := BT_get hI17922.1 1 1 2 (0) (0) (900) (by decide) 1 (by decide) (by decide)
            rw [e17931] at b17932
            obtain ⟨w17933, ew17933⟩ : ∃ w : Int32, I17922 (ad g 4) 2 = w := ⟨_, rfl⟩
            have bw17933 := BT_get hI17922.1 4 0 5 (0) (0) (1000) (by decide) 2 (by decide) (by decide)
            rw [ew17933] at bw17933
            rw [ew17933] at cv17924
            refine WP_istore (ls' := [(0, _), (1, _), (2, _), (3, _), (4, _), (5, _), (6, _), (7, _)]) dX3_faultInParts_102 (by decide) rfl ?_
            refine WP_iload dX3_faultInParts_104 rfl ?_
            refine WQ_if_eq 112 dX3_faultInParts_106 rfl (fun c17933 => ?_) (fun c17933 => ?_)
            · refine WP_aload_n dX3_faultInParts_112 rfl ?_
              refine WP_getr dX3_faultInParts_113 fX3_15 rfl (lyx_is hy 3 3 rfl) (rfx hr 3 2 1 (by decide)) ?_
              refine WP_callV0 (k := 5) dX3_faultInParts_116 ⟨⟨⟨by decide, by decide⟩, zX5_next⟩, lX3_40, by decide, rfl, vX5_next.1, vX5_next.2⟩ (lyx_is hy 1 5 rfl) (sx_nextf hy hr hI17922  ) (Nat.le_of_ble_eq_true rfl) ?_
              intro r I17935 J17936 Ra hq
              obtain ⟨⟨hI17935, ec, fiI17935, fjI17935⟩, rfl⟩ := hq
              rw [ec]
              clear ec Ra
              have fr17937 : fz 74 g [1, 4] I I17935 := fz_tr fr17925 (fz_mono fiI17935 (by decide))
              have fr17938 : fz 74 g [1] J J17936 := fz_tr fr17926 (fz_mono fjI17935 (by decide))
              have e17939 : I17935 (ad g 4) 0 = w17859 := by rw [fz_at fiI17935 4 (by decide) (by decide)]; exact e17927
              have e17940 : I17935 (ad g 4) 1 = w17896 := by rw [fz_at fiI17935 4 (by decide) (by decide)]; exact e17928
              have e17941 : I17935 (ad g 6) 1 = w17832 := by rw [fz_at fiI17935 6 (by decide) (by decide)]; exact e17929
              have e17942 : I17935 (ad g 6) 2 = w17833 := by rw [fz_at fiI17935 6 (by decide) (by decide)]; exact e17930
              have e17943 : I17935 (ad g 4) 2 = w17933 := by rw [fz_at fiI17935 4 (by decide) (by decide)]; exact ew17933
              have e17944 : I17935 (ad g 1) 1 = L := hI17935.2
              have b17945 := BT_get hI17935.1 1 1 2 (0) (0) (900) (by decide) 1 (by decide) (by decide)
              rw [e17944] at b17945
              refine WP_iinc (ls' := [(0, _), (1, _), (2, _), (3, _), (4, _), (5, _), (6, _), (7, _)]) dX3_faultInParts_119 rfl (by decide) rfl ?_
              have hv17946 : (v17908 + Int32.ofInt (1)).toInt = v17908.toInt + (1) := ia_n rfl (by omega) (by omega)
              generalize v17908 + Int32.ofInt (1) = v17946 at hv17946 ⊢
              refine WP_goto 8 dX3_faultInParts_122 rfl ?_
              refine WP_iload dX3_faultInParts_8 rfl ?_
              refine WP_aload_n dX3_faultInParts_10 rfl ?_
              refine WS_call hz (i := 20) (by omega) dX3_faultInParts_11 ⟨⟨by decide, by decide⟩, zJ0_length_8abf5⟩ lX3_87 vJ0_length_8abf5 (As := []) (rest := [.int v17946]) (j_length hz (i := 20) (by omega)) rfl rfl (Nat.le_of_ble_eq_true rfl) ?_
              intro r Ia Ja Ra hq
              obtain ⟨⟨ea, eb, ec⟩, v17947, rfl, cv17947⟩ := hq
              show WP _ _ _ _ (.int _ :: _) _ _ _ _
              rw [ea, eb, ec]
              clear ea eb ec Ia Ja Ra
              have hv17947 : v17947.toInt = 5 := cv17947.trans rfl
              refine WQ_icmp_ge 125 dX3_faultInParts_14 rfl (fun c17947 => False.elim (by omega)) (fun c17947 => ?_)
              refine WP_iload dX3_faultInParts_17 rfl ?_
              refine WQ_iconst (5) (5) dX3_faultInParts_19 rfl rfl (fun v17949 hv17949 => ?_)
              refine WQ_icmp_ge 125 dX3_faultInParts_20 rfl (fun c17949 => False.elim (by omega)) (fun c17949 => ?_)
              refine WP_aload_n dX3_faultInParts_23 rfl ?_
              refine WP_iload dX3_faultInParts_24 rfl ?_
              refine WS_call hz (i := 20) (by omega) dX3_faultInParts_26 ⟨⟨by decide, by decide⟩, zJ0_charAt_5068e⟩ lX3_92 vJ0_charAt_5068e (As := [.int v17946]) (rest := []) (j_charAt hz (i := 20) (k := v17946) (by omega) (by omega) (by have z9 : ((liN.getD 20 0 : Nat) : Int) = 5 := rfl; omega)) rfl rfl (Nat.le_of_ble_eq_true rfl) ?_
              intro r Ia Ja Ra hq
              obtain ⟨⟨ea, eb, ec⟩, v17951, rfl, cv17951⟩ := hq
              show WP _ _ _ _ (.int _ :: _) _ _ _ _
              rw [ea, eb, ec]
              clear ea eb ec Ia Ja Ra
              have hv17951 : v17951.toInt = 85 := cv17951.trans (by rw [show v17946.toInt.toNat = 3 by omega]; rfl)
              refine WP_istore (ls' := [(0, _), (1, _), (2, _), (3, _), (4, _), (5, _), (6, _), (7, _)]) dX3_faultInParts_29 (by decide) rfl ?_
              refine WP_iload dX3_faultInParts_31 rfl ?_
              refine WQ_bipush (97) (97) dX3_faultInParts_33 rfl rfl (fun v17952 hv17952 => ?_)
              refine WQ_icmp_lt 49 dX3_faultInParts_35 rfl (fun c17952 => ?_) (fun c17952 => False.elim (by omega))
              refine WQ_iconst (0) (0) dX3_faultInParts_49 rfl rfl (fun v17954 hv17954 => ?_)
              refine WP_istore (ls' := [(0, _), (1, _), (2, _), (3, _), (4, _), (5, _), (6, _), (7, _)]) dX3_faultInParts_50 (by decide) rfl ?_
              refine WP_aload_n dX3_faultInParts_52 rfl ?_
              refine WP_getr dX3_faultInParts_53 fX3_15 rfl (lyx_is hy 3 3 rfl) (rfx hr 3 2 1 (by decide)) ?_
              refine WQ_geti dX3_faultInParts_56 fX3_43 rfl (lyx_is hy 1 5 rfl) (BT_get hI17935.1 1 2 3 (0) (0) (4) (by decide) 2 (by decide) (by decide)) (fun v17955 ev17955 av17955 bv17955 => ?_)
              refine WP_iload dX3_faultInParts_59 rfl ?_
              refine WQ_if_eq 68 dX3_faultInParts_61 rfl (fun c17955 => ?_) (fun c17955 => False.elim (by omega))
              refine WQ_iconst (2) (2) dX3_faultInParts_68 rfl rfl (fun v17957 hv17957 => ?_)
              refine WQ_icmp_eq 74 dX3_faultInParts_69 rfl (fun c17957 => ?_) (fun c17957 => ?_)
              · refine WP_iload dX3_faultInParts_74 rfl ?_
                refine WQ_if_eq 92 dX3_faultInParts_76 rfl (fun c17958 => ?_) (fun c17958 => False.elim (by omega))
                refine WP_aload_n dX3_faultInParts_92 rfl ?_
                refine WP_iload dX3_faultInParts_93 rfl ?_
                refine WP_iload_n dX3_faultInParts_95 rfl ?_
                refine WP_iload dX3_faultInParts_96 rfl ?_
                refine WP_aload_n dX3_faultInParts_98 rfl ?_
                refine WP_callV4 (k := 3) dX3_faultInParts_99 ⟨⟨⟨by decide, by decide⟩, zX3_faultOfNumber⟩, lX3_100, by decide, rfl, vX3_faultOfNumber.1, vX3_faultOfNumber.2⟩ (lyx_is hy 3 3 rfl) (sx_part_6_10_3 hy hr hI17935 v17951 cz v17946 (by omega) (by omega) (by omega) (by omega) (by omega) (by omega)) (Nat.le_of_ble_eq_true rfl) ?_
                intro r I17960 J17961 Ra hq
                obtain ⟨⟨hI17960, ec, fiI17960, fjI17960, ⟨pI17960, sI17960_4_0, sI17960_4_1, sI17960_4_2, sI17960_6_1, sI17960_6_2⟩⟩, v17962, rfl, av17962, bv17962, cv17962⟩ := hq
                show WP _ _ _ _ (.int _ :: _) _ _ _ _
                rw [ec]
                clear ec Ra
                have fr17963 : fz 74 g [1, 4] I I17960 := fz_tr fr17937 (fz_mono fiI17960 (by decide))
                have fr17964 : fz 74 g [1] J J17961 := fz_tr fr17938 (fz_mono fjI17960 (by decide))
                have e17965 : I17960 (ad g 4) 0 = w17859 := by rw [sI17960_4_0]; exact e17939
                have e17966 : I17960 (ad g 4) 1 = w17896 := by rw [sI17960_4_1]; exact e17940
                have e17967 : I17960 (ad g 4) 2 = w17933 := by rw [sI17960_4_2]; exact e17943
                have e17968 : I17960 (ad g 6) 1 = w17832 := by rw [sI17960_6_1]; exact e17941
                have e17969 : I17960 (ad g 6) 2 = w17833 := by rw [sI17960_6_2]; exact e17942
                have e17970 : I17960 (ad g 1) 1 = L := hI17960.2
                have b17971 := BT_get hI17960.1 1 1 2 (0) (0) (900) (by decide) 1 (by decide) (by decide)
                rw [e17970] at b17971
                obtain ⟨w17972, ew17972⟩ : ∃ w : Int32, I17960 (ad g 4) 3 = w := ⟨_, rfl⟩
                have bw17972 := BT_get hI17960.1 4 0 5 (0) (0) (1000) (by decide) 3 (by decide) (by decide)
                rw [ew17972] at bw17972
                rw [ew17972] at cv17962
                refine WP_istore (ls' := [(0, _), (1, _), (2, _), (3, _), (4, _), (5, _), (6, _), (7, _)]) dX3_faultInParts_102 (by decide) rfl ?_
                refine WP_iload dX3_faultInParts_104 rfl ?_
                refine WQ_if_eq 112 dX3_faultInParts_106 rfl (fun c17972 => ?_) (fun c17972 => ?_)
                · refine WP_aload_n dX3_faultInParts_112 rfl ?_
                  refine WP_getr dX3_faultInParts_113 fX3_15 rfl (lyx_is hy 3 3 rfl) (rfx hr 3 2 1 (by decide)) ?_
                  refine WP_callV0 (k := 5) dX3_faultInParts_116 ⟨⟨⟨by decide, by decide⟩, zX5_next⟩, lX3_40, by decide, rfl, vX5_next.1, vX5_next.2⟩ (lyx_is hy 1 5 rfl) (sx_nextf hy hr hI17960  ) (Nat.le_of_ble_eq_true rfl) ?_
                  intro r I17974 J17975 Ra hq
                  obtain ⟨⟨hI17974, ec, fiI17974, fjI17974⟩, rfl⟩ := hq
                  rw [ec]
                  clear ec Ra
                  have fr17976 : fz 74 g [1, 4] I I17974 := fz_tr fr17963 (fz_mono fiI17974 (by decide))
                  have fr17977 : fz 74 g [1] J J17975 := fz_tr fr17964 (fz_mono fjI17974 (by decide))
                  have e17978 : I17974 (ad g 4) 0 = w17859 := by rw [fz_at fiI17974 4 (by decide) (by decide)]; exact e17965
                  have e17979 : I17974 (ad g 4) 1 = w17896 := by rw [fz_at fiI17974 4 (by decide) (by decide)]; exact e17966
                  have e17980 : I17974 (ad g 4) 2 = w17933 := by rw [fz_at fiI17974 4 (by decide) (by decide)]; exact e17967
                  have e17981 : I17974 (ad g 6) 1 = w17832 := by rw [fz_at fiI17974 6 (by decide) (by decide)]; exact e17968
                  have e17982 : I17974 (ad g 6) 2 = w17833 := by rw [fz_at fiI17974 6 (by decide) (by decide)]; exact e17969
                  have e17983 : I17974 (ad g 4) 3 = w17972 := by rw [fz_at fiI17974 4 (by decide) (by decide)]; exact ew17972
                  have e17984 : I17974 (ad g 1) 1 = L := hI17974.2
                  have b17985 := BT_get hI17974.1 1 1 2 (0) (0) (900) (by decide) 1 (by decide) (by decide)
                  rw [e17984] at b17985
                  refine WP_iinc (ls' := [(0, _), (1, _), (2, _), (3, _), (4, _), (5, _), (6, _), (7, _)]) dX3_faultInParts_119 rfl (by decide) rfl ?_
                  have hv17986 : (v17946 + Int32.ofInt (1)).toInt = v17946.toInt + (1) := ia_n rfl (by omega) (by omega)
                  generalize v17946 + Int32.ofInt (1) = v17986 at hv17986 ⊢
                  refine WP_goto 8 dX3_faultInParts_122 rfl ?_
                  refine WP_iload dX3_faultInParts_8 rfl ?_
                  refine WP_aload_n dX3_faultInParts_10 rfl ?_
                  refine WS_call hz (i := 20) (by omega) dX3_faultInParts_11 ⟨⟨by decide, by decide⟩, zJ0_length_8abf5⟩ lX3_87 vJ0_length_8abf5 (As := []) (rest := [.int v17986]) (j_length hz (i := 20) (by omega)) rfl rfl (Nat.le_of_ble_eq_true rfl) ?_
                  intro r Ia Ja Ra hq
                  obtain ⟨⟨ea, eb, ec⟩, v17987, rfl, cv17987⟩ := hq
                  show WP _ _ _ _ (.int _ :: _) _ _ _ _
                  rw [ea, eb, ec]
                  clear ea eb ec Ia Ja Ra
                  have hv17987 : v17987.toInt = 5 := cv17987.trans rfl
                  refine WQ_icmp_ge 125 dX3_faultInParts_14 rfl (fun c17987 => False.elim (by omega)) (fun c17987 => ?_)
                  refine WP_iload dX3_faultInParts_17 rfl ?_
                  refine WQ_iconst (5) (5) dX3_faultInParts_19 rfl rfl (fun v17989 hv17989 => ?_)
                  refine WQ_icmp_ge 125 dX3_faultInParts_20 rfl (fun c17989 => False.elim (by omega)) (fun c17989 => ?_)
                  refine WP_aload_n dX3_faultInParts_23 rfl ?_
                  refine WP_iload dX3_faultInParts_24 rfl ?_
                  refine WS_call hz (i := 20) (by omega) dX3_faultInParts_26 ⟨⟨by decide, by decide⟩, zJ0_charAt_5068e⟩ lX3_92 vJ0_charAt_5068e (As := [.int v17986]) (rest := []) (j_charAt hz (i := 20) (k := v17986) (by omega) (by omega) (by have z9 : ((liN.getD 20 0 : Nat) : Int) = 5 := rfl; omega)) rfl rfl (Nat.le_of_ble_eq_true rfl) ?_
                  intro r Ia Ja Ra hq
                  obtain ⟨⟨ea, eb, ec⟩, v17991, rfl, cv17991⟩ := hq
                  show WP _ _ _ _ (.int _ :: _) _ _ _ _
                  rw [ea, eb, ec]
                  clear ea eb ec Ia Ja Ra
                  have hv17991 : v17991.toInt = 80 := cv17991.trans (by rw [show v17986.toInt.toNat = 4 by omega]; rfl)
                  refine WP_istore (ls' := [(0, _), (1, _), (2, _), (3, _), (4, _), (5, _), (6, _), (7, _)]) dX3_faultInParts_29 (by decide) rfl ?_
                  refine WP_iload dX3_faultInParts_31 rfl ?_
                  refine WQ_bipush (97) (97) dX3_faultInParts_33 rfl rfl (fun v17992 hv17992 => ?_)
                  refine WQ_icmp_lt 49 dX3_faultInParts_35 rfl (fun c17992 => ?_) (fun c17992 => False.elim (by omega))
                  refine WQ_iconst (0) (0) dX3_faultInParts_49 rfl rfl (fun v17994 hv17994 => ?_)
                  refine WP_istore (ls' := [(0, _), (1, _), (2, _), (3, _), (4, _), (5, _), (6, _), (7, _)]) dX3_faultInParts_50 (by decide) rfl ?_
                  refine WP_aload_n dX3_faultInParts_52 rfl ?_
                  refine WP_getr dX3_faultInParts_53 fX3_15 rfl (lyx_is hy 3 3 rfl) (rfx hr 3 2 1 (by decide)) ?_
                  refine WQ_geti dX3_faultInParts_56 fX3_43 rfl (lyx_is hy 1 5 rfl) (BT_get hI17974.1 1 2 3 (0) (0) (4) (by decide) 2 (by decide) (by decide)) (fun v17995 ev17995 av17995 bv17995 => ?_)
                  refine WP_iload dX3_faultInParts_59 rfl ?_
                  refine WQ_if_eq 68 dX3_faultInParts_61 rfl (fun c17995 => ?_) (fun c17995 => False.elim (by omega))
                  refine WQ_iconst (2) (2) dX3_faultInParts_68 rfl rfl (fun v17997 hv17997 => ?_)
                  refine WQ_icmp_eq 74 dX3_faultInParts_69 rfl (fun c17997 => ?_) (fun c17997 => ?_)
                  · refine WP_iload dX3_faultInParts_74 rfl ?_
                    refine WQ_if_eq 92 dX3_faultInParts_76 rfl (fun c17998 => ?_) (fun c17998 => False.elim (by omega))
                    refine WP_aload_n dX3_faultInParts_92 rfl ?_
                    refine WP_iload dX3_faultInParts_93 rfl ?_
                    refine WP_iload_n dX3_faultInParts_95 rfl ?_
                    refine WP_iload dX3_faultInParts_96 rfl ?_
                    refine WP_aload_n dX3_faultInParts_98 rfl ?_
                    refine WP_callV4 (k := 3) dX3_faultInParts_99 ⟨⟨⟨by decide, by decide⟩, zX3_faultOfNumber⟩, lX3_100, by decide, rfl, vX3_faultOfNumber.1, vX3_faultOfNumber.2⟩ (lyx_is hy 3 3 rfl) (sx_part_6_10_4 hy hr hI17974 v17991 cz v17986 (by omega) (by omega) (by omega) (by omega) (by omega) (by omega)) (Nat.le_of_ble_eq_true rfl) ?_
                    intro r I18000 J18001 Ra hq
                    obtain ⟨⟨hI18000, ec, fiI18000, fjI18000, ⟨pI18000, sI18000_4_0, sI18000_4_1, sI18000_4_2, sI18000_4_3, sI18000_6_1, sI18000_6_2⟩⟩, v18002, rfl, av18002, bv18002, cv18002⟩ := hq
                    show WP _ _ _ _ (.int _ :: _) _ _ _ _
                    rw [ec]
                    clear ec Ra
                    have fr18003 : fz 74 g [1, 4] I I18000 := fz_tr fr17976 (fz_mono fiI18000 (by decide))
                    have fr18004 : fz 74 g [1] J J18001 := fz_tr fr17977 (fz_mono fjI18000 (by decide))
                    have e18005 : I18000 (ad g 4) 0 = w17859 := by rw [sI18000_4_0]; exact e17978
                    have e18006 : I18000 (ad g 4) 1 = w17896 := by rw [sI18000_4_1]; exact e17979
                    have e18007 : I18000 (ad g 4) 2 = w17933 := by rw [sI18000_4_2]; exact e17980
                    have e18008 : I18000 (ad g 4) 3 = w17972 := by rw [sI18000_4_3]; exact e17983
                    have e18009 : I18000 (ad g 6) 1 = w17832 := by rw [sI18000_6_1]; exact e17981
                    have e18010 : I18000 (ad g 6) 2 = w17833 := by rw [sI18000_6_2]; exact e17982
                    have e18011 : I18000 (ad g 1) 1 = L := hI18000.2
                    have b18012 := BT_get hI18000.1 1 1 2 (0) (0) (900) (by decide) 1 (by decide) (by decide)
                    rw [e18011] at b18012
                    obtain ⟨w18013, ew18013⟩ : ∃ w : Int32, I18000 (ad g 4) 4 = w := ⟨_, rfl⟩
                    have bw18013 := BT_get hI18000.1 4 0 5 (0) (0) (1000) (by decide) 4 (by decide) (by decide)
                    rw [ew18013] at bw18013
                    rw [ew18013] at cv18002
                    refine WP_istore (ls' := [(0, _), (1, _), (2, _), (3, _), (4, _), (5, _), (6, _), (7, _)]) dX3_faultInParts_102 (by decide) rfl ?_
                    refine WP_iload dX3_faultInParts_104 rfl ?_
                    refine WQ_if_eq 112 dX3_faultInParts_106 rfl (fun c18013 => ?_) (fun c18013 => ?_)
                    · refine WP_aload_n dX3_faultInParts_112 rfl ?_
                      refine WP_getr dX3_faultInParts_113 fX3_15 rfl (lyx_is hy 3 3 rfl) (rfx hr 3 2 1 (by decide)) ?_
                      refine WP_callV0 (k := 5) dX3_faultInParts_116 ⟨⟨⟨by decide, by decide⟩, zX5_next⟩, lX3_40, by decide, rfl, vX5_next.1, vX5_next.2⟩ (lyx_is hy 1 5 rfl) (sx_nextf hy hr hI18000  ) (Nat.le_of_ble_eq_true rfl) ?_
                      intro r I18015 J18016 Ra hq
                      obtain ⟨⟨hI18015, ec, fiI18015, fjI18015⟩, rfl⟩ := hq
                      rw [ec]
                      clear ec Ra
                      have fr18017 : fz 74 g [1, 4] I I18015 := fz_tr fr18003 (fz_mono fiI18015 (by decide))
                      have fr18018 : fz 74 g [1] J J18016 := fz_tr fr18004 (fz_mono fjI18015 (by decide))
                      have e18019 : I18015 (ad g 4) 0 = w17859 := by rw [fz_at fiI18015 4 (by decide) (by decide)]; exact e18005
                      have e18020 : I18015 (ad g 4) 1 = w17896 := by rw [fz_at fiI18015 4 (by decide) (by decide)]; exact e18006
                      have e18021 : I18015 (ad g 4) 2 = w17933 := by rw [fz_at fiI18015 4 (by decide) (by decide)]; exact e18007
                      have e18022 : I18015 (ad g 4) 3 = w17972 := by rw [fz_at fiI18015 4 (by decide) (by decide)]; exact e18008
                      have e18023 : I18015 (ad g 6) 1 = w17832 := by rw [fz_at fiI18015 6 (by decide) (by decide)]; exact e18009
                      have e18024 : I18015 (ad g 6) 2 = w17833 := by rw [fz_at fiI18015 6 (by decide) (by decide)]; exact e18010
                      have e18025 : I18015 (ad g 4) 4 = w18013 := by rw [fz_at fiI18015 4 (by decide) (by decide)]; exact ew18013
                      have e18026 : I18015 (ad g 1) 1 = L := hI18015.2
                      have b18027 := BT_get hI18015.1 1 1 2 (0) (0) (900) (by decide) 1 (by decide) (by decide)
                      rw [e18026] at b18027
                      refine WP_iinc (ls' := [(0, _), (1, _), (2, _), (3, _), (4, _), (5, _), (6, _), (7, _)]) dX3_faultInParts_119 rfl (by decide) rfl ?_
                      have hv18028 : (v17986 + Int32.ofInt (1)).toInt = v17986.toInt + (1) := ia_n rfl (by omega) (by omega)
                      generalize v17986 + Int32.ofInt (1) = v18028 at hv18028 ⊢
                      refine WP_goto 8 dX3_faultInParts_122 rfl ?_
                      refine WP_iload dX3_faultInParts_8 rfl ?_
                      refine WP_aload_n dX3_faultInParts_10 rfl ?_
                      refine WS_call hz (i := 20) (by omega) dX3_faultInParts_11 ⟨⟨by decide, by decide⟩, zJ0_length_8abf5⟩ lX3_87 vJ0_length_8abf5 (As := []) (rest := [.int v18028]) (j_length hz (i := 20) (by omega)) rfl rfl (Nat.le_of_ble_eq_true rfl) ?_
                      intro r Ia Ja Ra hq
                      obtain ⟨⟨ea, eb, ec⟩, v18029, rfl, cv18029⟩ := hq
                      show WP _ _ _ _ (.int _ :: _) _ _ _ _
                      rw [ea, eb, ec]
                      clear ea eb ec Ia Ja Ra
                      have hv18029 : v18029.toInt = 5 := cv18029.trans rfl
                      refine WQ_icmp_ge 125 dX3_faultInParts_14 rfl (fun c18029 => ?_) (fun c18029 => False.elim (by omega))
                      refine WP_aload_n dX3_faultInParts_125 rfl ?_
                      refine WP_getr dX3_faultInParts_126 fX3_15 rfl (lyx_is hy 3 3 rfl) (rfx hr 3 2 1 (by decide)) ?_
                      refine WQ_geti dX3_faultInParts_129 fX3_43 rfl (lyx_is hy 1 5 rfl) (BT_get hI18015.1 1 2 3 (0) (0) (4) (by decide) 2 (by decide) (by decide)) (fun v18031 ev18031 av18031 bv18031 => ?_)
                      refine WQ_iconst (3) (3) dX3_faultInParts_132 rfl rfl (fun v18032 hv18032 => ?_)
                      refine WQ_icmp_ne 140 dX3_faultInParts_133 rfl (fun c18032 => ?_) (fun c18032 => ?_)
                      · refine WQ_iconst (1) (1) dX3_faultInParts_140 rfl rfl (fun v18034 hv18034 => ?_)
                        exact WP_iret dX3_faultInParts_141 rfl ⟨⟨hI18015, rfl, fr18017, fr18018, ⟨trivial, (by rw [e18023, ew17832] <;> exact (eq32 _ _).mpr (by omega)), (by rw [e18024, ew17833] <;> exact (eq32 _ _).mpr (by omega))⟩⟩, _, rfl, by omega, by omega, by (try rw [e18019]; try rw [e18020]; try rw [e18021]; try rw [e18022]; try rw [e18025]); omega⟩
                      · refine WQ_iconst (0) (0) dX3_faultInParts_136 rfl rfl (fun v18035 hv18035 => ?_)
                        refine WP_goto 141 dX3_faultInParts_137 rfl ?_
                        exact WP_iret dX3_faultInParts_141 rfl ⟨⟨hI18015, rfl, fr18017, fr18018, ⟨trivial, (by rw [e18023, ew17832] <;> exact (eq32 _ _).mpr (by omega)), (by rw [e18024, ew17833] <;> exact (eq32 _ _).mpr (by omega))⟩⟩, _, rfl, by omega, by omega, by (try rw [e18019]; try rw [e18020]; try rw [e18021]; try rw [e18022]; try rw [e18025]); omega⟩
                    · refine WP_iload dX3_faultInParts_109 rfl ?_
                      exact WP_iret dX3_faultInParts_111 rfl ⟨⟨hI18000, rfl, fr18003, fr18004, ⟨trivial, (by rw [e18009, ew17832] <;> exact (eq32 _ _).mpr (by omega)), (by rw [e18010, ew17833] <;> exact (eq32 _ _).mpr (by omega))⟩⟩, _, rfl, by omega, by omega, by (try rw [e18005]; try rw [e18006]; try rw [e18007]; try rw [e18008]; try rw [ew18013]); omega⟩
                  · refine WQ_iconst (1) (1) dX3_faultInParts_72 rfl rfl (fun v18036 hv18036 => ?_)
                    obtain ⟨w18037, ew18037⟩ : ∃ w : Int32, I17974 (ad g 4) 4 = w := ⟨_, rfl⟩
                    have bw18037 := BT_get hI17974.1 4 0 5 (0) (0) (1000) (by decide) 4 (by decide) (by decide)
                    rw [ew18037] at bw18037
                    exact WP_iret dX3_faultInParts_73 rfl ⟨⟨hI17974, rfl, fr17976, fr17977, ⟨trivial, (by rw [e17981, ew17832] <;> exact (eq32 _ _).mpr (by omega)), (by rw [e17982, ew17833] <;> exact (eq32 _ _).mpr (by omega))⟩⟩, _, rfl, by omega, by omega, by (try rw [e17978]; try rw [e17979]; try rw [e17980]; try rw [e17983]; try rw [ew18037]); omega⟩
                · refine WP_iload dX3_faultInParts_109 rfl ?_
                  obtain ⟨w18038, ew18038⟩ : ∃ w : Int32, I17960 (ad g 4) 4 = w := ⟨_, rfl⟩
                  have bw18038 := BT_get hI17960.1 4 0 5 (0) (0) (1000) (by decide) 4 (by decide) (by decide)
                  rw [ew18038] at bw18038
                  exact WP_iret dX3_faultInParts_111 rfl ⟨⟨hI17960, rfl, fr17963, fr17964, ⟨trivial, (by rw [e17968, ew17832] <;> exact (eq32 _ _).mpr (by omega)), (by rw [e17969, ew17833] <;> exact (eq32 _ _).mpr (by omega))⟩⟩, _, rfl, by omega, by omega, by (try rw [e17965]; try rw [e17966]; try rw [e17967]; try rw [ew17972]; try rw [ew18038]); omega⟩
              · refine WQ_iconst (1) (1) dX3_faultInParts_72 rfl rfl (fun v18039 hv18039 => ?_)
                obtain ⟨w18040, ew18040⟩ : ∃ w : Int32, I17935 (ad g 4) 3 = w := ⟨_, rfl⟩
                have bw18040 := BT_get hI17935.1 4 0 5 (0) (0) (1000) (by decide) 3 (by decide) (by decide)
                rw [ew18040] at bw18040
                obtain ⟨w18041, ew18041⟩ : ∃ w : Int32, I17935 (ad g 4) 4 = w := ⟨_, rfl⟩
                have bw18041 := BT_get hI17935.1 4 0 5 (0) (0) (1000) (by decide) 4 (by decide) (by decide)
                rw [ew18041] at bw18041
                exact WP_iret dX3_faultInParts_73 rfl ⟨⟨hI17935, rfl, fr17937, fr17938, ⟨trivial, (by rw [e17941, ew17832] <;> exact (eq32 _ _).mpr (by omega)), (by rw [e17942, ew17833] <;> exact (eq32 _ _).mpr (by omega))⟩⟩, _, rfl, by omega, by omega, by (try rw [e17939]; try rw [e17940]; try rw [e17943]; try rw [ew18040]; try rw [ew18041]); omega⟩
            · refine WP_iload dX3_faultInParts_109 rfl ?_
              obtain ⟨w18042, ew18042⟩ : ∃ w : Int32, I17922 (ad g 4) 3 = w := ⟨_, rfl⟩
              have bw18042 := BT_get hI17922.1 4 0 5 (0) (0) (1000) (by decide) 3 (by decide) (by decide)
              rw [ew18042] at bw18042
              obtain ⟨w18043, ew18043⟩ : ∃ w : Int32, I17922 (ad g 4) 4 = w := ⟨_, rfl⟩
              have bw18043 := BT_get hI17922.1 4 0 5 (0) (0) (1000) (by decide) 4 (by decide) (by decide)
              rw [ew18043] at bw18043
              exact WP_iret dX3_faultInParts_111 rfl ⟨⟨hI17922, rfl, fr17925, fr17926, ⟨trivial, (by rw [e17929, ew17832] <;> exact (eq32 _ _).mpr (by omega)), (by rw [e17930, ew17833] <;> exact (eq32 _ _).mpr (by omega))⟩⟩, _, rfl, by omega, by omega, by (try rw [e17927]; try rw [e17928]; try rw [ew17933]; try rw [ew18042]; try rw [ew18043]); omega⟩
          · refine WQ_iconst (1) (1) dX3_faultInParts_72 rfl rfl (fun v18044 hv18044 => ?_)
            obtain ⟨w18045, ew18045⟩ : ∃ w : Int32, I17898 (ad g 4) 2 = w := ⟨_, rfl⟩
            have bw18045 := BT_get hI17898.1 4 0 5 (0) (0) (1000) (by decide) 2 (by decide) (by decide)
            rw [ew18045] at bw18045
            obtain ⟨w18046, ew18046⟩ : ∃ w : Int32, I17898 (ad g 4) 3 = w := ⟨_, rfl⟩
            have bw18046 := BT_get hI17898.1 4 0 5 (0) (0) (1000) (by decide) 3 (by decide) (by decide)
            rw [ew18046] at bw18046
            obtain ⟨w18047, ew18047⟩ : ∃ w : Int32, I17898 (ad g 4) 4 = w := ⟨_, rfl⟩
            have bw18047 := BT_get hI17898.1 4 0 5 (0) (0) (1000) (by decide) 4 (by decide) (by decide)
            rw [ew18047] at bw18047
            exact WP_iret dX3_faultInParts_73 rfl ⟨⟨hI17898, rfl, fr17900, fr17901, ⟨trivial, (by rw [e17903, ew17832] <;> exact (eq32 _ _).mpr (by omega)), (by rw [e17904, ew17833] <;> exact (eq32 _ _).mpr (by omega))⟩⟩, _, rfl, by omega, by omega, by (try rw [e17902]; try rw [e17905]; try rw [ew18045]; try rw [ew18046]; try rw [ew18047]); omega⟩
        · refine WP_iload dX3_faultInParts_109 rfl ?_
          obtain ⟨w18048, ew18048⟩ : ∃ w : Int32, I17886 (ad g 4) 2 = w := ⟨_, rfl⟩
          have bw18048 := BT_get hI17886.1 4 0 5 (0) (0) (1000) (by decide) 2 (by decide) (by decide)
          rw [ew18048] at bw18048
          obtain ⟨w18049, ew18049⟩ : ∃ w : Int32, I17886 (ad g 4) 3 = w := ⟨_, rfl⟩
          have bw18049 := BT_get hI17886.1 4 0 5 (0) (0) (1000) (by decide) 3 (by decide) (by decide)
          rw [ew18049] at bw18049
          obtain ⟨w18050, ew18050⟩ : ∃ w : Int32, I17886 (ad g 4) 4 = w := ⟨_, rfl⟩
          have bw18050 := BT_get hI17886.1 4 0 5 (0) (0) (1000) (by decide) 4 (by decide) (by decide)
          rw [ew18050] at bw18050
          exact WP_iret dX3_faultInParts_111 rfl ⟨⟨hI17886, rfl, fr17889, fr17890, ⟨trivial, (by rw [e17892, ew17832] <;> exact (eq32 _ _).mpr (by omega)), (by rw [e17893, ew17833] <;> exact (eq32 _ _).mpr (by omega))⟩⟩, _, rfl, by omega, by omega, by (try rw [e17891]; try rw [ew17896]; try rw [ew18048]; try rw [ew18049]; try rw [ew18050]); omega⟩
      · refine WQ_iconst (1) (1) dX3_faultInParts_72 rfl rfl (fun v18051 hv18051 => ?_)
        obtain ⟨w18052, ew18052⟩ : ∃ w : Int32, I17861 (ad g 4) 1 = w := ⟨_, rfl⟩
        have bw18052 := BT_get hI17861.1 4 0 5 (0) (0) (1000) (by decide) 1 (by decide) (by decide)
        rw [ew18052] at bw18052
        obtain ⟨w18053, ew18053⟩ : ∃ w : Int32, I17861 (ad g 4) 2 = w := ⟨_, rfl⟩
        have bw18053 := BT_get hI17861.1 4 0 5 (0) (0) (1000) (by decide) 2 (by decide) (by decide)
        rw [ew18053] at bw18053
        obtain ⟨w18054, ew18054⟩ : ∃ w : Int32, I17861 (ad g 4) 3 = w := ⟨_, rfl⟩
        have bw18054 := BT_get hI17861.1 4 0 5 (0) (0) (1000) (by decide) 3 (by decide) (by decide)
        rw [ew18054] at bw18054
        obtain ⟨w18055, ew18055⟩ : ∃ w : Int32, I17861 (ad g 4) 4 = w := ⟨_, rfl⟩
        have bw18055 := BT_get hI17861.1 4 0 5 (0) (0) (1000) (by decide) 4 (by decide) (by decide)
        rw [ew18055] at bw18055
        exact WP_iret dX3_faultInParts_73 rfl ⟨⟨hI17861, rfl, fr17863, fr17864, ⟨trivial, (by rw [e17865, ew17832] <;> exact (eq32 _ _).mpr (by omega)), (by rw [e17866, ew17833] <;> exact (eq32 _ _).mpr (by omega))⟩⟩, _, rfl, by omega, by omega, by (try rw [e17867]; try rw [ew18052]; try rw [ew18053]; try rw [ew18054]; try rw [ew18055]); omega⟩
    · refine WP_iload dX3_faultInParts_109 rfl ?_
      obtain ⟨w18056, ew18056⟩ : ∃ w : Int32, I17850 (ad g 4) 1 = w := ⟨_, rfl⟩
      have bw18056 := BT_get hI17850.1 4 0 5 (0) (0) (1000) (by decide) 1 (by decide) (by decide)
      rw [ew18056] at bw18056
      obtain ⟨w18057, ew18057⟩ : ∃ w : Int32, I17850 (ad g 4) 2 = w := ⟨_, rfl⟩
      have bw18057 := BT_get hI17850.1 4 0 5 (0) (0) (1000) (by decide) 2 (by decide) (by decide)
      rw [ew18057] at bw18057
      obtain ⟨w18058, ew18058⟩ : ∃ w : Int32, I17850 (ad g 4) 3 = w := ⟨_, rfl⟩
      have bw18058 := BT_get hI17850.1 4 0 5 (0) (0) (1000) (by decide) 3 (by decide) (by decide)
      rw [ew18058] at bw18058
      obtain ⟨w18059, ew18059⟩ : ∃ w : Int32, I17850 (ad g 4) 4 = w := ⟨_, rfl⟩
      have bw18059 := BT_get hI17850.1 4 0 5 (0) (0) (1000) (by decide) 4 (by decide) (by decide)
      rw [ew18059] at bw18059
      exact WP_iret dX3_faultInParts_111 rfl ⟨⟨hI17850, rfl, fr17853, fr17854, ⟨trivial, (by rw [e17855, ew17832] <;> exact (eq32 _ _).mpr (by omega)), (by rw [e17856, ew17833] <;> exact (eq32 _ _).mpr (by omega))⟩⟩, _, rfl, by omega, by omega, by (try rw [ew17859]; try rw [ew18056]; try rw [ew18057]; try rw [ew18058]; try rw [ew18059]); omega⟩
  · refine WQ_iconst (1) (1) dX3_faultInParts_72 rfl rfl (fun v18060 hv18060 => ?_)
    obtain ⟨w18061, ew18061⟩ : ∃ w : Int32, I (ad g 4) 0 = w := ⟨_, rfl⟩
    have bw18061 := BT_get hI.1 4 0 5 (0) (0) (1000) (by decide) 0 (by decide) (by decide)
    rw [ew18061] at bw18061
    obtain ⟨w18062, ew18062⟩ : ∃ w : Int32, I (ad g 4) 1 = w := ⟨_, rfl⟩
    have bw18062 := BT_get hI.1 4 0 5 (0) (0) (1000) (by decide) 1 (by decide) (by decide)
    rw [ew18062] at bw18062
    obtain ⟨w18063, ew18063⟩ : ∃ w : Int32, I (ad g 4) 2 = w := ⟨_, rfl⟩
    have bw18063 := BT_get hI.1 4 0 5 (0) (0) (1000) (by decide) 2 (by decide) (by decide)
    rw [ew18063] at bw18063
    obtain ⟨w18064, ew18064⟩ : ∃ w : Int32, I (ad g 4) 3 = w := ⟨_, rfl⟩
    have bw18064 := BT_get hI.1 4 0 5 (0) (0) (1000) (by decide) 3 (by decide) (by decide)
    rw [ew18064] at bw18064
    obtain ⟨w18065, ew18065⟩ : ∃ w : Int32, I (ad g 4) 4 = w := ⟨_, rfl⟩
    have bw18065 := BT_get hI.1 4 0 5 (0) (0) (1000) (by decide) 4 (by decide) (by decide)
    rw [ew18065] at bw18065
    exact WP_iret dX3_faultInParts_73 rfl ⟨⟨hI, rfl, fr0, frj0, ⟨trivial, rfl, rfl⟩⟩, _, rfl, by omega, by omega, by (try rw [ew18061]; try rw [ew18062]; try rw [ew18063]; try rw [ew18064]; try rw [ew18065]); omega⟩
set_option maxHeartbeats 4000000 in
set_option maxRecDepth 100000 in
theorem sx_parts_6_11 {g : GG} {n : Int} {L : Int32} (hy : LyX g) {aK aV : Nat → Nat} {fo : Option Nat} (hz : HZ g aK aV fo)  {I : pI} {J : pJ} {R : pR} (hr : RfX g R) (hI : XI g n L I) (cz : Int32) (cz_lo : 11 ≤ cz.toInt) (cz_hi : cz.toInt ≤ 11) : SP g mX3_faultInParts [.ref (ad g 3), .int cz, .ref (ad g 6)] I J R (fun r I' J' R' => (XI g n L I' ∧ R' = R ∧ fz 74 g [1, 4] I I' ∧ fz 74 g [1] J J' ∧ True ∧ I' (ad g 6) 1 = I (ad g 6) 1 ∧ I' (ad g 6) 2 = I (ad g 6) 2) ∧ ∃ v : Int32, r = some (.int v) ∧ 0 ≤ v.toInt ∧ v.toInt ≤ 5 ∧ (v.toInt = 0 → (I' (ad g 4) 0).toInt ≤ 99 ∧ (I' (ad g 4) 1).toInt ≤ 99)) := by
  refine SP_of ⟨by decide, rfl⟩ (Nat.le_of_ble_eq_true rfl) ?_
  have e18066 : I (ad g 1) 1 = L := hI.2
  have b18067 := BT_get hI.1 1 1 2 (0) (0) (900) (by decide) 1 (by decide) (by decide)
  rw [e18066] at b18067
  have fr0 : fz 74 g [1, 4] I I := fz_rf
  have frj0 : fz 74 g [1] J J := fz_rf
  obtain ⟨w18068, ew18068⟩ : ∃ w : Int32, I (ad g 6) 1 = w := ⟨_, rfl⟩
  have bw18068 := BT_get hI.1 6 1 2 (0) (0) (4) (by decide) 1 (by decide) (by decide)
  rw [ew18068] at bw18068
  obtain ⟨w18069, ew18069⟩ : ∃ w : Int32, I (ad g 6) 2 = w := ⟨_, rfl⟩
  have bw18069 := BT_get hI.1 6 2 3 (0) (0) (3) (by decide) 2 (by decide) (by decide)
  rw [ew18069] at bw18069
  refine WP_iload_n dX3_faultInParts_0 rfl ?_
  refine WP_callS1 dX3_faultInParts_1 ⟨⟨⟨by decide, by decide⟩, zX3_shapeOf⟩, lX3_84, tX3_shapeOf⟩ (sx_shapeOf hy hz hr hI cz (by omega) (by omega)) (Nat.le_of_ble_eq_true rfl) ?_
  intro r Ia Ja Ra hq
  obtain ⟨⟨ea, eb, ec⟩, rfl⟩ := hq
  show WP _ _ _ _ (.ref _ :: _) _ _ _ _
  rw [show 10 + cz.toInt.toNat = 21 by omega]
  rw [ea, eb, ec]
  clear ea eb ec Ia Ja Ra
  refine WP_astore_n (ls' := [(0, _), (1, _), (2, _), (3, _)]) dX3_faultInParts_4 (by decide) rfl ?_
  refine WQ_iconst (0) (0) dX3_faultInParts_5 rfl rfl (fun v18070 hv18070 => ?_)
  refine WP_istore (ls' := [(0, _), (1, _), (2, _), (3, _), (4, _)]) dX3_faultInParts_6 (by decide) rfl ?_
  refine WP_iload dX3_faultInParts_8 rfl ?_
  refine WP_aload_n dX3_faultInParts_10 rfl ?_
  refine WS_call hz (i := 21) (by omega) dX3_faultInParts_11 ⟨⟨by decide, by decide⟩, zJ0_length_8abf5⟩ lX3_87 vJ0_length_8abf5 (As := []) (rest := [.int v18070]) (j_length hz (i := 21) (by omega)) rfl rfl (Nat.le_of_ble_eq_true rfl) ?_
  intro r Ia Ja Ra hq
  obtain ⟨⟨ea, eb, ec⟩, v18071, rfl, cv18071⟩ := hq
  show WP _ _ _ _ (.int _ :: _) _ _ _ _
  rw [ea, eb, ec]
  clear ea eb ec Ia Ja Ra
  have hv18071 : v18071.toInt = 2 := cv18071.trans rfl
  refine WQ_icmp_ge 125 dX3_faultInParts_14 rfl (fun c18071 => False.elim (by omega)) (fun c18071 => ?_)
  refine WP_iload dX3_faultInParts_17 rfl ?_
  refine WQ_iconst (5) (5) dX3_faultInParts_19 rfl rfl (fun v18073 hv18073 => ?_)
  refine WQ_icmp_ge 125 dX3_faultInParts_20 rfl (fun c18073 => False.elim (by omega)) (fun c18073 => ?_)
  refine WP_aload_n dX3_faultInParts_23 rfl ?_
  refine WP_iload dX3_faultInParts_24 rfl ?_
  refine WS_call hz (i := 21) (by omega) dX3_faultInParts_26 ⟨⟨by decide, by decide⟩, zJ0_charAt_5068e⟩ lX3_92 vJ0_charAt_5068e (As := [.int v18070]) (rest := []) (j_charAt hz (i := 21) (k := v18070) (by omega) (by omega) (by have z9 : ((liN.getD 21 0 : Nat) : Int) = 2 := rfl; omega)) rfl rfl (Nat.le_of_ble_eq_true rfl) ?_
  intro r Ia Ja Ra hq
  obtain ⟨⟨ea, eb, ec⟩, v18075, rfl, cv18075⟩ := hq
  show WP _ _ _ _ (.int _ :: _) _ _ _ _
  rw [ea, eb, ec]
  clear ea eb ec Ia Ja Ra
  have hv18075 : v18075.toInt = 86 := cv18075.trans (by rw [show v18070.toInt.toNat = 0 by omega]; rfl)
  refine WP_istore (ls' := [(0, _), (1, _), (2, _), (3, _), (4, _), (5, _)]) dX3_faultInParts_29 (by decide) rfl ?_
  refine WP_iload dX3_faultInParts_31 rfl ?_
  refine WQ_bipush (97) (97) dX3_faultInParts_33 rfl rfl (fun v18076 hv18076 => ?_)
  refine WQ_icmp_lt 49 dX3_faultInParts_35 rfl (fun c18076 => ?_) (fun c18076 => False.elim (by omega))
  refine WQ_iconst (0) (0) dX3_faultInParts_49 rfl rfl (fun v18078 hv18078 => ?_)
  refine WP_istore (ls' := [(0, _), (1, _), (2, _), (3, _), (4, _), (5, _), (6, _)]) dX3_faultInParts_50 (by decide) rfl ?_
  refine WP_aload_n dX3_faultInParts_52 rfl ?_
  refine WP_getr dX3_faultInParts_53 fX3_15 rfl (lyx_is hy 3 3 rfl) (rfx hr 3 2 1 (by decide)) ?_
  refine WQ_geti dX3_faultInParts_56 fX3_43 rfl (lyx_is hy 1 5 rfl) (BT_get hI.1 1 2 3 (0) (0) (4) (by decide) 2 (by decide) (by decide)) (fun v18079 ev18079 av18079 bv18079 => ?_)
  refine WP_iload dX3_faultInParts_59 rfl ?_
  refine WQ_if_eq 68 dX3_faultInParts_61 rfl (fun c18079 => ?_) (fun c18079 => False.elim (by omega))
  refine WQ_iconst (2) (2) dX3_faultInParts_68 rfl rfl (fun v18081 hv18081 => ?_)
  refine WQ_icmp_eq 74 dX3_faultInParts_69 rfl (fun c18081 => ?_) (fun c18081 => ?_)
  · refine WP_iload dX3_faultInParts_74 rfl ?_
    refine WQ_if_eq 92 dX3_faultInParts_76 rfl (fun c18082 => ?_) (fun c18082 => False.elim (by omega))
    refine WP_aload_n dX3_faultInParts_92 rfl ?_
    refine WP_iload dX3_faultInParts_93 rfl ?_
    refine WP_iload_n dX3_faultInParts_95 rfl ?_
    refine WP_iload dX3_faultInParts_96 rfl ?_
    refine WP_aload_n dX3_faultInParts_98 rfl ?_
    refine WP_callV4 (k := 3) dX3_faultInParts_99 ⟨⟨⟨by decide, by decide⟩, zX3_faultOfNumber⟩, lX3_100, by decide, rfl, vX3_faultOfNumber.1, vX3_faultOfNumber.2⟩ (lyx_is hy 3 3 rfl) (sx_part_6_11_0 hy hr hI v18075 cz v18070 (by omega) (by omega) (by omega) (by omega) (by omega) (by omega)) (Nat.le_of_ble_eq_true rfl) ?_
    intro r I18084 J18085 Ra hq
    obtain ⟨⟨hI18084, ec, fiI18084, fjI18084, ⟨pI18084, sI18084_6_1, sI18084_6_2⟩⟩, v18086, rfl, av18086, bv18086, cv18086⟩ := hq
    show WP _ _ _ _ (.int _ :: _) _ _ _ _
    rw [ec]
    clear ec Ra
    have fr18087 : fz 74 g [1, 4] I I18084 := fz_tr fr0 (fz_mono fiI18084 (by decide))
    have fr18088 : fz 74 g [1] J J18085 := fz_tr frj0 (fz_mono fjI18084 (by decide))
    have e18089 : I18084 (ad g 6) 1 = w18068 := by rw [sI18084_6_1]; exact ew18068
    have e18090 : I18084 (ad g 6) 2 = w18069 := by rw [sI18084_6_2]; exact ew18069
    have e18091 : I18084 (ad g 1) 1 = L := hI18084.2
    have b18092 := BT_get hI18084.1 1 1 2 (0) (0) (900) (by decide) 1 (by decide) (by decide)
    rw [e18091] at b18092
    obtain ⟨w18093, ew18093⟩ : ∃ w : Int32, I18084 (ad g 4) 0 = w := ⟨_, rfl⟩
    have bw18093 := BT_get hI18084.1 4 0 5 (0) (0) (1000) (by decide) 0 (by decide) (by decide)
    rw [ew18093] at bw18093
    rw [ew18093] at cv18086
    refine WP_istore (ls' := [(0, _), (1, _), (2, _), (3, _), (4, _), (5, _), (6, _), (7, _)]) dX3_faultInParts_102 (by decide) rfl ?_
    refine WP_iload dX3_faultInParts_104 rfl ?_
    refine WQ_if_eq 112 dX3_faultInParts_106 rfl (fun c18093 => ?_) (fun c18093 => ?_)
    · refine WP_aload_n dX3_faultInParts_112 rfl ?_
      refine WP_getr dX3_faultInParts_113 fX3_15 rfl (lyx_is hy 3 3 rfl) (rfx hr 3 2 1 (by decide)) ?_
      refine WP_callV0 (k := 5) dX3_faultInParts_116 ⟨⟨⟨by decide, by decide⟩, zX5_next⟩, lX3_40, by decide, rfl, vX5_next.1, vX5_next.2⟩ (lyx_is hy 1 5 rfl) (sx_nextf hy hr hI18084  ) (Nat.le_of_ble_eq_true rfl) ?_
      intro r I18095 J18096 Ra hq
      obtain ⟨⟨hI18095, ec, fiI18095, fjI18095⟩, rfl⟩ := hq
      rw [ec]
      clear ec Ra
      have fr18097 : fz 74 g [1, 4] I I18095 := fz_tr fr18087 (fz_mono fiI18095 (by decide))
      have fr18098 : fz 74 g [1] J J18096 := fz_tr fr18088 (fz_mono fjI18095 (by decide))
      have e18099 : I18095 (ad g 6) 1 = w18068 := by rw [fz_at fiI18095 6 (by decide) (by decide)]; exact e18089
      have e18100 : I18095 (ad g 6) 2 = w18069 := by rw [fz_at fiI18095 6 (by decide) (by decide)]; exact e18090
      have e18101 : I18095 (ad g 4) 0 = w18093 := by rw [fz_at fiI18095 4 (by decide) (by decide)]; exact ew18093
      have e18102 : I18095 (ad g 1) 1 = L := hI18095.2
      have b18103 := BT_get hI18095.1 1 1 2 (0) (0) (900) (by decide) 1 (by decide) (by decide)
      rw [e18102] at b18103
      refine WP_iinc (ls' := [(0, _), (1, _), (2, _), (3, _), (4, _), (5, _), (6, _), (7, _)]) dX3_faultInParts_119 rfl (by decide) rfl ?_
      have hv18104 : (v18070 + Int32.ofInt (1)).toInt = v18070.toInt + (1) := ia_n rfl (by omega) (by omega)
      generalize v18070 + Int32.ofInt (1) = v18104 at hv18104 ⊢
      refine WP_goto 8 dX3_faultInParts_122 rfl ?_
      refine WP_iload dX3_faultInParts_8 rfl ?_
      refine WP_aload_n dX3_faultInParts_10 rfl ?_
      refine WS_call hz (i := 21) (by omega) dX3_faultInParts_11 ⟨⟨by decide, by decide⟩, zJ0_length_8abf5⟩ lX3_87 vJ0_length_8abf5 (As := []) (rest := [.int v18104]) (j_length hz (i := 21) (by omega)) rfl rfl (Nat.le_of_ble_eq_true rfl) ?_
      intro r Ia Ja Ra hq
      obtain ⟨⟨ea, eb, ec⟩, v18105, rfl, cv18105⟩ := hq
      show WP _ _ _ _ (.int _ :: _) _ _ _ _
      rw [ea, eb, ec]
      clear ea eb ec Ia Ja Ra
      have hv18105 : v18105.toInt = 2 := cv18105.trans rfl
      refine WQ_icmp_ge 125 dX3_faultInParts_14 rfl (fun c18105 => False.elim (by omega)) (fun c18105 => ?_)
      refine WP_iload dX3_faultInParts_17 rfl ?_
      refine WQ_iconst (5) (5) dX3_faultInParts_19 rfl rfl (fun v18107 hv18107 => ?_)
      refine WQ_icmp_ge 125 dX3_faultInParts_20 rfl (fun c18107 => False.elim (by omega)) (fun c18107 => ?_)
      refine WP_aload_n dX3_faultInParts_23 rfl ?_
      refine WP_iload dX3_faultInParts_24 rfl ?_
      refine WS_call hz (i := 21) (by omega) dX3_faultInParts_26 ⟨⟨by decide, by decide⟩, zJ0_charAt_5068e⟩ lX3_92 vJ0_charAt_5068e (As := [.int v18104]) (rest := []) (j_charAt hz (i := 21) (k := v18104) (by omega) (by omega) (by have z9 : ((liN.getD 21 0 : Nat) : Int) = 2 := rfl; omega)) rfl rfl (Nat.le_of_ble_eq_true rfl) ?_
      intro r Ia Ja Ra hq
      obtain ⟨⟨ea, eb, ec⟩, v18109, rfl, cv18109⟩ := hq
      show WP _ _ _ _ (.int _ :: _) _ _ _ _
      rw [ea, eb, ec]
      clear ea eb ec Ia Ja Ra
      have hv18109 : v18109.toInt = 86 := cv18109.trans (by rw [show v18104.toInt.toNat = 1 by omega]; rfl)
      refine WP_istore (ls' := [(0, _), (1, _), (2, _), (3, _), (4, _), (5, _), (6, _), (7, _)]) dX3_faultInParts_29 (by decide) rfl ?_
      refine WP_iload dX3_faultInParts_31 rfl ?_
      refine WQ_bipush (97) (97) dX3_faultInParts_33 rfl rfl (fun v18110 hv18110 => ?_)
      refine WQ_icmp_lt 49 dX3_faultInParts_35 rfl (fun c18110 => ?_) (fun c18110 => False.elim (by omega))
      refine WQ_iconst (0) (0) dX3_faultInParts_49 rfl rfl (fun v18112 hv18112 => ?_)
      refine WP_istore (ls' := [(0, _), (1, _), (2, _), (3, _), (4, _), (5, _), (6, _), (7, _)]) dX3_faultInParts_50 (by decide) rfl ?_
      refine WP_aload_n dX3_faultInParts_52 rfl ?_
      refine WP_getr dX3_faultInParts_53 fX3_15 rfl (lyx_is hy 3 3 rfl) (rfx hr 3 2 1 (by decide)) ?_
      refine WQ_geti dX3_faultInParts_56 fX3_43 rfl (lyx_is hy 1 5 rfl) (BT_get hI18095.1 1 2 3 (0) (0) (4) (by decide) 2 (by decide) (by decide)) (fun v18113 ev18113 av18113 bv18113 => ?_)
      refine WP_iload dX3_faultInParts_59 rfl ?_
      refine WQ_if_eq 68 dX3_faultInParts_61 rfl (fun c18113 => ?_) (fun c18113 => False.elim (by omega))
      refine WQ_iconst (2) (2) dX3_faultInParts_68 rfl rfl (fun v18115 hv18115 => ?_)
      refine WQ_icmp_eq 74 dX3_faultInParts_69 rfl (fun c18115 => ?_) (fun c18115 => ?_)
      · refine WP_iload dX3_faultInParts_74 rfl ?_
        refine WQ_if_eq 92 dX3_faultInParts_76 rfl (fun c18116 => ?_) (fun c18116 => False.elim (by omega))
        refine WP_aload_n dX3_faultInParts_92 rfl ?_
        refine WP_iload dX3_faultInParts_93 rfl ?_
        refine WP_iload_n dX3_faultInParts_95 rfl ?_
        refine WP_iload dX3_faultInParts_96 rfl ?_
        refine WP_aload_n dX3_faultInParts_98 rfl ?_
        refine WP_callV4 (k := 3) dX3_faultInParts_99 ⟨⟨⟨by decide, by decide⟩, zX3_faultOfNumber⟩, lX3_100, by decide, rfl, vX3_faultOfNumber.1, vX3_faultOfNumber.2⟩ (lyx_is hy 3 3 rfl) (sx_part_6_11_1 hy hr hI18095 v18109 cz v18104 (by omega) (by omega) (by omega) (by omega) (by omega) (by omega)) (Nat.le_of_ble_eq_true rfl) ?_
        intro r I18118 J18119 Ra hq
        obtain ⟨⟨hI18118, ec, fiI18118, fjI18118, ⟨pI18118, sI18118_4_0, sI18118_6_1, sI18118_6_2⟩⟩, v18120, rfl, av18120, bv18120, cv18120⟩ := hq
        show WP _ _ _ _ (.int _ :: _) _ _ _ _
        rw [ec]
        clear ec Ra
        have fr18121 : fz 74 g [1, 4] I I18118 := fz_tr fr18097 (fz_mono fiI18118 (by decide))
        have fr18122 : fz 74 g [1] J J18119 := fz_tr fr18098 (fz_mono fjI18118 (by decide))
        have e18123 : I18118 (ad g 4) 0 = w18093 := by rw [sI18118_4_0]; exact e18101
        have e18124 : I18118 (ad g 6) 1 = w18068 := by rw [sI18118_6_1]; exact e18099
        have e18125 : I18118 (ad g 6) 2 = w18069 := by rw [sI18118_6_2]; exact e18100
        have e18126 : I18118 (ad g 1) 1 = L := hI18118.2
        have b18127 := BT_get hI18118.1 1 1 2 (0) (0) (900) (by decide) 1 (by decide) (by decide)
        rw [e18126] at b18127
        obtain ⟨w18128, ew18128⟩ : ∃ w : Int32, I18118 (ad g 4) 1 = w := ⟨_, rfl⟩
        have bw18128 := BT_get hI18118.1 4 0 5 (0) (0) (1000) (by decide) 1 (by decide) (by decide)
        rw [ew18128] at bw18128
        rw [ew18128] at cv18120
        refine WP_istore (ls' := [(0, _), (1, _), (2, _), (3, _), (4, _), (5, _), (6, _), (7, _)]) dX3_faultInParts_102 (by decide) rfl ?_
        refine WP_iload dX3_faultInParts_104 rfl ?_
        refine WQ_if_eq 112 dX3_faultInParts_106 rfl (fun c18128 => ?_) (fun c18128 => ?_)
        · refine WP_aload_n dX3_faultInParts_112 rfl ?_
          refine WP_getr dX3_faultInParts_113 fX3_15 rfl (lyx_is hy 3 3 rfl) (rfx hr 3 2 1 (by decide)) ?_
          refine WP_callV0 (k := 5) dX3_faultInParts_116 ⟨⟨⟨by decide, by decide⟩, zX5_next⟩, lX3_40, by decide, rfl, vX5_next.1, vX5_next.2⟩ (lyx_is hy 1 5 rfl) (sx_nextf hy hr hI18118  ) (Nat.le_of_ble_eq_true rfl) ?_
          intro r I18130 J18131 Ra hq
          obtain ⟨⟨hI18130, ec, fiI18130, fjI18130⟩, rfl⟩ := hq
          rw [ec]
          clear ec Ra
          have fr18132 : fz 74 g [1, 4] I I18130 := fz_tr fr18121 (fz_mono fiI18130 (by decide))
          have fr18133 : fz 74 g [1] J J18131 := fz_tr fr18122 (fz_mono fjI18130 (by decide))
          have e18134 : I18130 (ad g 4) 0 = w18093 := by rw [fz_at fiI18130 4 (by decide) (by decide)]; exact e18123
          have e18135 : I18130 (ad g 6) 1 = w18068 := by rw [fz_at fiI18130 6 (by decide) (by decide)]; exact e18124
          have e18136 : I18130 (ad g 6) 2 = w18069 := by rw [fz_at fiI18130 6 (by decide) (by decide)]; exact e18125
          have e18137 : I18130 (ad g 4) 1 = w18128 := by rw [fz_at fiI18130 4 (by decide) (by decide)]; exact ew18128
          have e18138 : I18130 (ad g 1) 1 = L := hI18130.2
          have b18139 := BT_get hI18130.1 1 1 2 (0) (0) (900) (by decide) 1 (by decide) (by decide)
          rw [e18138] at b18139
          refine WP_iinc (ls' := [(0, _), (1, _), (2, _), (3, _), (4, _), (5, _), (6, _), (7, _)]) dX3_faultInParts_119 rfl (by decide) rfl ?_
          have hv18140 : (v18104 + Int32.ofInt (1)).toInt = v18104.toInt + (1) := ia_n rfl (by omega) (by omega)
          generalize v18104 + Int32.ofInt (1) = v18140 at hv18140 ⊢
          refine WP_goto 8 dX3_faultInParts_122 rfl ?_
          refine WP_iload dX3_faultInParts_8 rfl ?_
          refine WP_aload_n dX3_faultInParts_10 rfl ?_
          refine WS_call hz (i := 21) (by omega) dX3_faultInParts_11 ⟨⟨by decide, by decide⟩, zJ0_length_8abf5⟩ lX3_87 vJ0_length_8abf5 (As := []) (rest := [.int v18140]) (j_length hz (i := 21) (by omega)) rfl rfl (Nat.le_of_ble_eq_true rfl) ?_
          intro r Ia Ja Ra hq
          obtain ⟨⟨ea, eb, ec⟩, v18141, rfl, cv18141⟩ := hq
          show WP _ _ _ _ (.int _ :: _) _ _ _ _
          rw [ea, eb, ec]
          clear ea eb ec Ia Ja Ra
          have hv18141 : v18141.toInt = 2 := cv18141.trans rfl
          refine WQ_icmp_ge 125 dX3_faultInParts_14 rfl (fun c18141 => ?_) (fun c18141 => False.elim (by omega))
          refine WP_aload_n dX3_faultInParts_125 rfl ?_
          refine WP_getr dX3_faultInParts_126 fX3_15 rfl (lyx_is hy 3 3 rfl) (rfx hr 3 2 1 (by decide)) ?_
          refine WQ_geti dX3_faultInParts_129 fX3_43 rfl (lyx_is hy 1 5 rfl) (BT_get hI18130.1 1 2 3 (0) (0) (4) (by decide) 2 (by decide) (by decide)) (fun v18143 ev18143 av18143 bv18143 => ?_)
          refine WQ_iconst (3) (3) dX3_faultInParts_132 rfl rfl (fun v18144 hv18144 => ?_)
          refine WQ_icmp_ne 140 dX3_faultInParts_133 rfl (fun c18144 => ?_) (fun c18144 => ?_)
          · refine WQ_iconst (1) (1) dX3_faultInParts_140 rfl rfl (fun v18146 hv18146 => ?_)
            exact WP_iret dX3_faultInParts_141 rfl ⟨⟨hI18130, rfl, fr18132, fr18133, ⟨trivial, (by rw [e18135, ew18068] <;> exact (eq32 _ _).mpr (by omega)), (by rw [e18136, ew18069] <;> exact (eq32 _ _).mpr (by omega))⟩⟩, _, rfl, by omega, by omega, by (try rw [e18134]; try rw [e18137]); omega⟩
          · refine WQ_iconst (0) (0) dX3_faultInParts_136 rfl rfl (fun v18147 hv18147 => ?_)
            refine WP_goto 141 dX3_faultInParts_137 rfl ?_
            exact WP_iret dX3_faultInParts_141 rfl ⟨⟨hI18130, rfl, fr18132, fr18133, ⟨trivial, (by rw [e18135, ew18068] <;> exact (eq32 _ _).mpr (by omega)), (by rw [e18136, ew18069] <;> exact (eq32 _ _).mpr (by omega))⟩⟩, _, rfl, by omega, by omega, by (try rw [e18134]; try rw [e18137]); omega⟩
        · refine WP_iload dX3_faultInParts_109 rfl ?_
          exact WP_iret dX3_faultInParts_111 rfl ⟨⟨hI18118, rfl, fr18121, fr18122, ⟨trivial, (by rw [e18124, ew18068] <;> exact (eq32 _ _).mpr (by omega)), (by rw [e18125, ew18069] <;> exact (eq32 _ _).mpr (by omega))⟩⟩, _, rfl, by omega, by omega, by (try rw [e18123]; try rw [ew18128]); omega⟩
      · refine WQ_iconst (1) (1) dX3_faultInParts_72 rfl rfl (fun v18148 hv18148 => ?_)
        obtain ⟨w18149, ew18149⟩ : ∃ w : Int32, I18095 (ad g 4) 1 = w := ⟨_, rfl⟩
        have bw18149 := BT_get hI18095.1 4 0 5 (0) (0) (1000) (by decide) 1 (by decide) (by decide)
        rw [ew18149] at bw18149
        exact WP_iret dX3_faultInParts_73 rfl ⟨⟨hI18095, rfl, fr18097, fr18098, ⟨trivial, (by rw [e18099, ew18068] <;> exact (eq32 _ _).mpr (by omega)), (by rw [e18100, ew18069] <;> exact (eq32 _ _).mpr (by omega))⟩⟩, _, rfl, by omega, by omega, by (try rw [e18101]; try rw [ew18149]); omega⟩
    · refine WP_iload dX3_faultInParts_109 rfl ?_
      obtain ⟨w18150, ew18150⟩ : ∃ w : Int32, I18084 (ad g 4) 1 = w := ⟨_, rfl⟩
      have bw18150 := BT_get hI18084.1 4 0 5 (0) (0) (1000) (by decide) 1 (by decide) (by decide)
      rw [ew18150] at bw18150
      exact WP_iret dX3_faultInParts_111 rfl ⟨⟨hI18084, rfl, fr18087, fr18088, ⟨trivial, (by rw [e18089, ew18068] <;> exact (eq32 _ _).mpr (by omega)), (by rw [e18090, ew18069] <;> exact (eq32 _ _).mpr (by omega))⟩⟩, _, rfl, by omega, by omega, by (try rw [ew18093]; try rw [ew18150]); omega⟩
  · refine WQ_iconst (1) (1) dX3_faultInParts_72 rfl rfl (fun v18151 hv18151 => ?_)
    obtain ⟨w18152, ew18152⟩ : ∃ w : Int32, I (ad g 4) 0 = w := ⟨_, rfl⟩
    have bw18152 := BT_get hI.1 4 0 5 (0) (0) (1000) (by decide) 0 (by decide) (by decide)
    rw [ew18152] at bw18152
    obtain ⟨w18153, ew18153⟩ : ∃ w : Int32, I (ad g 4) 1 = w := ⟨_, rfl⟩
    have bw18153 := BT_get hI.1 4 0 5 (0) (0) (1000) (by decide) 1 (by decide) (by decide)
    rw [ew18153] at bw18153
    exact WP_iret dX3_faultInParts_73 rfl ⟨⟨hI, rfl, fr0, frj0, ⟨trivial, rfl, rfl⟩⟩, _, rfl, by omega, by omega, by (try rw [ew18152]; try rw [ew18153]); omega⟩
set_option maxHeartbeats 4000000 in
set_option maxRecDepth 100000 in
theorem sx_faultAhead_27_0 {g : GG} {n : Int} {L : Int32} (hy : LyX g)  {I : pI} {J : pJ} {R : pR} (hr : RfX g R) (hI : XI g n L I) (cz : Int32) (cz_lo : 0 ≤ cz.toInt) (cz_hi : cz.toInt ≤ 0) : SP g mX7_faultAhead [.ref (ad g 27), .int cz] I J R (fun r I' J' R' => (I' = I ∧ J' = J ∧ R' = R) ∧ ∃ v : Int32, r = some (.int v) ∧ 0 ≤ v.toInt ∧ v.toInt ≤ 4) := by
  refine SP_of ⟨by decide, rfl⟩ (Nat.le_of_ble_eq_true rfl) ?_
  have e18154 : I (ad g 1) 1 = L := hI.2
  have b18155 := BT_get hI.1 1 1 2 (0) (0) (900) (by decide) 1 (by decide) (by decide)
  rw [e18154] at b18155
  refine WP_iload_n dX7_faultAhead_0 rfl ?_
  refine WQ_iconst (1) (1) dX7_faultAhead_1 rfl rfl (fun v18156 hv18156 => ?_)
  refine WQ_icmp_ne 13 dX7_faultAhead_2 rfl (fun c18156 => ?_) (fun c18156 => False.elim (by omega))
  refine WP_iload_n dX7_faultAhead_13 rfl ?_
  refine WQ_iconst (2) (2) dX7_faultAhead_14 rfl rfl (fun v18158 hv18158 => ?_)
  refine WQ_icmp_ne 28 dX7_faultAhead_15 rfl (fun c18158 => ?_) (fun c18158 => False.elim (by omega))
  refine WP_iload_n dX7_faultAhead_28 rfl ?_
  refine WQ_bipush (8) (8) dX7_faultAhead_29 rfl rfl (fun v18160 hv18160 => ?_)
  have jn55_18164 : ∀ (v18164 : Int32), 0 ≤ v18164.toInt → v18164.toInt ≤ 0 → WP g mX7_faultAhead 55 [(0, .ref (ad g 27)), (1, .int cz)] [.int v18164] I J R (fun r I' J' R' => (I' = I ∧ J' = J ∧ R' = R) ∧ ∃ v : Int32, r = some (.int v) ∧ 0 ≤ v.toInt ∧ v.toInt ≤ 4) := by
    intro v18164 av18164 bv18164
    exact WP_iret dX7_faultAhead_55 rfl ⟨⟨rfl, rfl, rfl⟩, _, rfl, by omega, by omega⟩
  refine WQ_icmp_eq 40 dX7_faultAhead_31 rfl (fun c18165 => False.elim (by omega)) (fun c18165 => ?_)
  refine WP_iload_n dX7_faultAhead_34 rfl ?_
  refine WQ_bipush (9) (9) dX7_faultAhead_35 rfl rfl (fun v18167 hv18167 => ?_)
  refine WQ_icmp_ne 54 dX7_faultAhead_37 rfl (fun c18167 => ?_) (fun c18167 => False.elim (by omega))
  refine WQ_iconst (0) (0) dX7_faultAhead_54 rfl rfl (fun v18169 hv18169 => ?_)
  exact WP_sub (fc rfl (fc rfl fn)) (jn55_18164 v18169 (by omega) (by omega))
set_option maxHeartbeats 4000000 in
set_option maxRecDepth 100000 in
theorem sx_faultAhead_27_1 {g : GG} {n : Int} {L : Int32} (hy : LyX g)  {I : pI} {J : pJ} {R : pR} (hr : RfX g R) (hI : XI g n L I) (cz : Int32) (cz_lo : 1 ≤ cz.toInt) (cz_hi : cz.toInt ≤ 1) : SP g mX7_faultAhead [.ref (ad g 27), .int cz] I J R (fun r I' J' R' => (I' = I ∧ J' = J ∧ R' = R) ∧ ∃ v : Int32, r = some (.int v) ∧ 0 ≤ v.toInt ∧ v.toInt ≤ 4 ∧ (v.toInt = 0 → (I (ad g 27) 1).toInt ≤ 3)) := by
  refine SP_of ⟨by decide, rfl⟩ (Nat.le_of_ble_eq_true rfl) ?_
  have e18170 : I (ad g 1) 1 = L := hI.2
  have b18171 := BT_get hI.1 1 1 2 (0) (0) (900) (by decide) 1 (by decide) (by decide)
  rw [e18170] at b18171
  refine WP_iload_n dX7_faultAhead_0 rfl ?_
  refine WQ_iconst (1) (1) dX7_faultAhead_1 rfl rfl (fun v18172 hv18172 => ?_)
  refine WQ_icmp_ne 13 dX7_faultAhead_2 rfl (fun c18172 => False.elim (by omega)) (fun c18172 => ?_)
  refine WP_aload_n dX7_faultAhead_5 rfl ?_
  refine WQ_geti dX7_faultAhead_6 fX7_65 rfl (lyx_is hy 27 7 rfl) (BT_get hI.1 27 1 2 (0) (0) (4) (by decide) 1 (by decide) (by decide)) (fun v18174 ev18174 av18174 bv18174 => ?_)
  refine WQ_iconst (4) (4) dX7_faultAhead_9 rfl rfl (fun v18175 hv18175 => ?_)
  refine WQ_icmp_eq 26 dX7_faultAhead_10 rfl (fun c18175 => ?_) (fun c18175 => ?_)
  · refine WQ_iconst (4) (4) dX7_faultAhead_26 rfl rfl (fun v18177 hv18177 => ?_)
    exact WP_iret dX7_faultAhead_27 rfl ⟨⟨rfl, rfl, rfl⟩, _, rfl, by omega, by omega, by (try rw [ev18174]); omega⟩
  · refine WP_iload_n dX7_faultAhead_13 rfl ?_
    refine WQ_iconst (2) (2) dX7_faultAhead_14 rfl rfl (fun v18178 hv18178 => ?_)
    refine WQ_icmp_ne 28 dX7_faultAhead_15 rfl (fun c18178 => ?_) (fun c18178 => False.elim (by omega))
    refine WP_iload_n dX7_faultAhead_28 rfl ?_
    refine WQ_bipush (8) (8) dX7_faultAhead_29 rfl rfl (fun v18180 hv18180 => ?_)
    refine WQ_icmp_eq 40 dX7_faultAhead_31 rfl (fun c18180 => False.elim (by omega)) (fun c18180 => ?_)
    refine WP_iload_n dX7_faultAhead_34 rfl ?_
    refine WQ_bipush (9) (9) dX7_faultAhead_35 rfl rfl (fun v18182 hv18182 => ?_)
    refine WQ_icmp_ne 54 dX7_faultAhead_37 rfl (fun c18182 => ?_) (fun c18182 => False.elim (by omega))
    refine WQ_iconst (0) (0) dX7_faultAhead_54 rfl rfl (fun v18184 hv18184 => ?_)
    exact WP_iret dX7_faultAhead_55 rfl ⟨⟨rfl, rfl, rfl⟩, _, rfl, by omega, by omega, by (try rw [ev18174]); omega⟩
set_option maxHeartbeats 4000000 in
set_option maxRecDepth 100000 in
theorem sx_faultAhead_27_2 {g : GG} {n : Int} {L : Int32} (hy : LyX g)  {I : pI} {J : pJ} {R : pR} (hr : RfX g R) (hI : XI g n L I) (cz : Int32) (cz_lo : 2 ≤ cz.toInt) (cz_hi : cz.toInt ≤ 2) : SP g mX7_faultAhead [.ref (ad g 27), .int cz] I J R (fun r I' J' R' => (I' = I ∧ J' = J ∧ R' = R) ∧ ∃ v : Int32, r = some (.int v) ∧ 0 ≤ v.toInt ∧ v.toInt ≤ 4 ∧ (v.toInt = 0 → (I (ad g 27) 2).toInt ≤ 2)) := by
  refine SP_of ⟨by decide, rfl⟩ (Nat.le_of_ble_eq_true rfl) ?_
  have e18185 : I (ad g 1) 1 = L := hI.2
  have b18186 := BT_get hI.1 1 1 2 (0) (0) (900) (by decide) 1 (by decide) (by decide)
  rw [e18185] at b18186
  refine WP_iload_n dX7_faultAhead_0 rfl ?_
  refine WQ_iconst (1) (1) dX7_faultAhead_1 rfl rfl (fun v18187 hv18187 => ?_)
  refine WQ_icmp_ne 13 dX7_faultAhead_2 rfl (fun c18187 => ?_) (fun c18187 => False.elim (by omega))
  refine WP_iload_n dX7_faultAhead_13 rfl ?_
  refine WQ_iconst (2) (2) dX7_faultAhead_14 rfl rfl (fun v18189 hv18189 => ?_)
  refine WQ_icmp_ne 28 dX7_faultAhead_15 rfl (fun c18189 => False.elim (by omega)) (fun c18189 => ?_)
  refine WP_aload_n dX7_faultAhead_18 rfl ?_
  refine WQ_geti dX7_faultAhead_19 fX7_68 rfl (lyx_is hy 27 7 rfl) (BT_get hI.1 27 2 3 (0) (0) (3) (by decide) 2 (by decide) (by decide)) (fun v18191 ev18191 av18191 bv18191 => ?_)
  refine WQ_iconst (3) (3) dX7_faultAhead_22 rfl rfl (fun v18192 hv18192 => ?_)
  refine WQ_icmp_ne 28 dX7_faultAhead_23 rfl (fun c18192 => ?_) (fun c18192 => ?_)
  · refine WP_iload_n dX7_faultAhead_28 rfl ?_
    refine WQ_bipush (8) (8) dX7_faultAhead_29 rfl rfl (fun v18194 hv18194 => ?_)
    refine WQ_icmp_eq 40 dX7_faultAhead_31 rfl (fun c18194 => False.elim (by omega)) (fun c18194 => ?_)
    refine WP_iload_n dX7_faultAhead_34 rfl ?_
    refine WQ_bipush (9) (9) dX7_faultAhead_35 rfl rfl (fun v18196 hv18196 => ?_)
    refine WQ_icmp_ne 54 dX7_faultAhead_37 rfl (fun c18196 => ?_) (fun c18196 => False.elim (by omega))
    refine WQ_iconst (0) (0) dX7_faultAhead_54 rfl rfl (fun v18198 hv18198 => ?_)
    exact WP_iret dX7_faultAhead_55 rfl ⟨⟨rfl, rfl, rfl⟩, _, rfl, by omega, by omega, by (try rw [ev18191]); omega⟩
  · refine WQ_iconst (4) (4) dX7_faultAhead_26 rfl rfl (fun v18199 hv18199 => ?_)
    exact WP_iret dX7_faultAhead_27 rfl ⟨⟨rfl, rfl, rfl⟩, _, rfl, by omega, by omega, by (try rw [ev18191]); omega⟩
set_option maxHeartbeats 4000000 in
set_option maxRecDepth 100000 in
theorem sx_faultAhead_27_3 {g : GG} {n : Int} {L : Int32} (hy : LyX g)  {I : pI} {J : pJ} {R : pR} (hr : RfX g R) (hI : XI g n L I) (cz : Int32) (cz_lo : 3 ≤ cz.toInt) (cz_hi : cz.toInt ≤ 3) : SP g mX7_faultAhead [.ref (ad g 27), .int cz] I J R (fun r I' J' R' => (I' = I ∧ J' = J ∧ R' = R) ∧ ∃ v : Int32, r = some (.int v) ∧ 0 ≤ v.toInt ∧ v.toInt ≤ 4) := by
  refine SP_of ⟨by decide, rfl⟩ (Nat.le_of_ble_eq_true rfl) ?_
  have e18200 : I (ad g 1) 1 = L := hI.2
  have b18201 := BT_get hI.1 1 1 2 (0) (0) (900) (by decide) 1 (by decide) (by decide)
  rw [e18200] at b18201
  refine WP_iload_n dX7_faultAhead_0 rfl ?_
  refine WQ_iconst (1) (1) dX7_faultAhead_1 rfl rfl (fun v18202 hv18202 => ?_)
  refine WQ_icmp_ne 13 dX7_faultAhead_2 rfl (fun c18202 => ?_) (fun c18202 => False.elim (by omega))
  refine WP_iload_n dX7_faultAhead_13 rfl ?_
  refine WQ_iconst (2) (2) dX7_faultAhead_14 rfl rfl (fun v18204 hv18204 => ?_)
  refine WQ_icmp_ne 28 dX7_faultAhead_15 rfl (fun c18204 => ?_) (fun c18204 => False.elim (by omega))
  refine WP_iload_n dX7_faultAhead_28 rfl ?_
  refine WQ_bipush (8) (8) dX7_faultAhead_29 rfl rfl (fun v18206 hv18206 => ?_)
  have jn55_18210 : ∀ (v18210 : Int32), 0 ≤ v18210.toInt → v18210.toInt ≤ 0 → WP g mX7_faultAhead 55 [(0, .ref (ad g 27)), (1, .int cz)] [.int v18210] I J R (fun r I' J' R' => (I' = I ∧ J' = J ∧ R' = R) ∧ ∃ v : Int32, r = some (.int v) ∧ 0 ≤ v.toInt ∧ v.toInt ≤ 4) := by
    intro v18210 av18210 bv18210
    exact WP_iret dX7_faultAhead_55 rfl ⟨⟨rfl, rfl, rfl⟩, _, rfl, by omega, by omega⟩
  refine WQ_icmp_eq 40 dX7_faultAhead_31 rfl (fun c18211 => False.elim (by omega)) (fun c18211 => ?_)
  refine WP_iload_n dX7_faultAhead_34 rfl ?_
  refine WQ_bipush (9) (9) dX7_faultAhead_35 rfl rfl (fun v18213 hv18213 => ?_)
  refine WQ_icmp_ne 54 dX7_faultAhead_37 rfl (fun c18213 => ?_) (fun c18213 => False.elim (by omega))
  refine WQ_iconst (0) (0) dX7_faultAhead_54 rfl rfl (fun v18215 hv18215 => ?_)
  exact WP_sub (fc rfl (fc rfl fn)) (jn55_18210 v18215 (by omega) (by omega))
set_option maxHeartbeats 4000000 in
set_option maxRecDepth 100000 in
theorem sx_faultAhead_27_4 {g : GG} {n : Int} {L : Int32} (hy : LyX g)  {I : pI} {J : pJ} {R : pR} (hr : RfX g R) (hI : XI g n L I) (cz : Int32) (cz_lo : 4 ≤ cz.toInt) (cz_hi : cz.toInt ≤ 4) : SP g mX7_faultAhead [.ref (ad g 27), .int cz] I J R (fun r I' J' R' => (I' = I ∧ J' = J ∧ R' = R) ∧ ∃ v : Int32, r = some (.int v) ∧ 0 ≤ v.toInt ∧ v.toInt ≤ 4) := by
  refine SP_of ⟨by decide, rfl⟩ (Nat.le_of_ble_eq_true rfl) ?_
  have e18216 : I (ad g 1) 1 = L := hI.2
  have b18217 := BT_get hI.1 1 1 2 (0) (0) (900) (by decide) 1 (by decide) (by decide)
  rw [e18216] at b18217
  refine WP_iload_n dX7_faultAhead_0 rfl ?_
  refine WQ_iconst (1) (1) dX7_faultAhead_1 rfl rfl (fun v18218 hv18218 => ?_)
  refine WQ_icmp_ne 13 dX7_faultAhead_2 rfl (fun c18218 => ?_) (fun c18218 => False.elim (by omega))
  refine WP_iload_n dX7_faultAhead_13 rfl ?_
  refine WQ_iconst (2) (2) dX7_faultAhead_14 rfl rfl (fun v18220 hv18220 => ?_)
  refine WQ_icmp_ne 28 dX7_faultAhead_15 rfl (fun c18220 => ?_) (fun c18220 => False.elim (by omega))
  refine WP_iload_n dX7_faultAhead_28 rfl ?_
  refine WQ_bipush (8) (8) dX7_faultAhead_29 rfl rfl (fun v18222 hv18222 => ?_)
  have jn55_18226 : ∀ (v18226 : Int32), 0 ≤ v18226.toInt → v18226.toInt ≤ 0 → WP g mX7_faultAhead 55 [(0, .ref (ad g 27)), (1, .int cz)] [.int v18226] I J R (fun r I' J' R' => (I' = I ∧ J' = J ∧ R' = R) ∧ ∃ v : Int32, r = some (.int v) ∧ 0 ≤ v.toInt ∧ v.toInt ≤ 4) := by
    intro v18226 av18226 bv18226
    exact WP_iret dX7_faultAhead_55 rfl ⟨⟨rfl, rfl, rfl⟩, _, rfl, by omega, by omega⟩
  refine WQ_icmp_eq 40 dX7_faultAhead_31 rfl (fun c18227 => False.elim (by omega)) (fun c18227 => ?_)
  refine WP_iload_n dX7_faultAhead_34 rfl ?_
  refine WQ_bipush (9) (9) dX7_faultAhead_35 rfl rfl (fun v18229 hv18229 => ?_)
  refine WQ_icmp_ne 54 dX7_faultAhead_37 rfl (fun c18229 => ?_) (fun c18229 => False.elim (by omega))
  refine WQ_iconst (0) (0) dX7_faultAhead_54 rfl rfl (fun v18231 hv18231 => ?_)
  exact WP_sub (fc rfl (fc rfl fn)) (jn55_18226 v18231 (by omega) (by omega))
set_option maxHeartbeats 4000000 in
set_option maxRecDepth 100000 in
theorem sx_faultAhead_27_5 {g : GG} {n : Int} {L : Int32} (hy : LyX g)  {I : pI} {J : pJ} {R : pR} (hr : RfX g R) (hI : XI g n L I) (cz : Int32) (cz_lo : 5 ≤ cz.toInt) (cz_hi : cz.toInt ≤ 5) : SP g mX7_faultAhead [.ref (ad g 27), .int cz] I J R (fun r I' J' R' => (I' = I ∧ J' = J ∧ R' = R) ∧ ∃ v : Int32, r = some (.int v) ∧ 0 ≤ v.toInt ∧ v.toInt ≤ 4) := by
  refine SP_of ⟨by decide, rfl⟩ (Nat.le_of_ble_eq_true rfl) ?_
  have e18232 : I (ad g 1) 1 = L := hI.2
  have b18233 := BT_get hI.1 1 1 2 (0) (0) (900) (by decide) 1 (by decide) (by decide)
  rw [e18232] at b18233
  refine WP_iload_n dX7_faultAhead_0 rfl ?_
  refine WQ_iconst (1) (1) dX7_faultAhead_1 rfl rfl (fun v18234 hv18234 => ?_)
  refine WQ_icmp_ne 13 dX7_faultAhead_2 rfl (fun c18234 => ?_) (fun c18234 => False.elim (by omega))
  refine WP_iload_n dX7_faultAhead_13 rfl ?_
  refine WQ_iconst (2) (2) dX7_faultAhead_14 rfl rfl (fun v18236 hv18236 => ?_)
  refine WQ_icmp_ne 28 dX7_faultAhead_15 rfl (fun c18236 => ?_) (fun c18236 => False.elim (by omega))
  refine WP_iload_n dX7_faultAhead_28 rfl ?_
  refine WQ_bipush (8) (8) dX7_faultAhead_29 rfl rfl (fun v18238 hv18238 => ?_)
  have jn55_18242 : ∀ (v18242 : Int32), 0 ≤ v18242.toInt → v18242.toInt ≤ 0 → WP g mX7_faultAhead 55 [(0, .ref (ad g 27)), (1, .int cz)] [.int v18242] I J R (fun r I' J' R' => (I' = I ∧ J' = J ∧ R' = R) ∧ ∃ v : Int32, r = some (.int v) ∧ 0 ≤ v.toInt ∧ v.toInt ≤ 4) := by
    intro v18242 av18242 bv18242
    exact WP_iret dX7_faultAhead_55 rfl ⟨⟨rfl, rfl, rfl⟩, _, rfl, by omega, by omega⟩
  refine WQ_icmp_eq 40 dX7_faultAhead_31 rfl (fun c18243 => False.elim (by omega)) (fun c18243 => ?_)
  refine WP_iload_n dX7_faultAhead_34 rfl ?_
  refine WQ_bipush (9) (9) dX7_faultAhead_35 rfl rfl (fun v18245 hv18245 => ?_)
  refine WQ_icmp_ne 54 dX7_faultAhead_37 rfl (fun c18245 => ?_) (fun c18245 => False.elim (by omega))
  refine WQ_iconst (0) (0) dX7_faultAhead_54 rfl rfl (fun v18247 hv18247 => ?_)
  exact WP_sub (fc rfl (fc rfl fn)) (jn55_18242 v18247 (by omega) (by omega))
set_option maxHeartbeats 4000000 in
set_option maxRecDepth 100000 in
theorem sx_faultAhead_27_6 {g : GG} {n : Int} {L : Int32} (hy : LyX g)  {I : pI} {J : pJ} {R : pR} (hr : RfX g R) (hI : XI g n L I) (cz : Int32) (cz_lo : 6 ≤ cz.toInt) (cz_hi : cz.toInt ≤ 6) : SP g mX7_faultAhead [.ref (ad g 27), .int cz] I J R (fun r I' J' R' => (I' = I ∧ J' = J ∧ R' = R) ∧ ∃ v : Int32, r = some (.int v) ∧ 0 ≤ v.toInt ∧ v.toInt ≤ 4) := by
  refine SP_of ⟨by decide, rfl⟩ (Nat.le_of_ble_eq_true rfl) ?_
  have e18248 : I (ad g 1) 1 = L := hI.2
  have b18249 := BT_get hI.1 1 1 2 (0) (0) (900) (by decide) 1 (by decide) (by decide)
  rw [e18248] at b18249
  refine WP_iload_n dX7_faultAhead_0 rfl ?_
  refine WQ_iconst (1) (1) dX7_faultAhead_1 rfl rfl (fun v18250 hv18250 => ?_)
  refine WQ_icmp_ne 13 dX7_faultAhead_2 rfl (fun c18250 => ?_) (fun c18250 => False.elim (by omega))
  refine WP_iload_n dX7_faultAhead_13 rfl ?_
  refine WQ_iconst (2) (2) dX7_faultAhead_14 rfl rfl (fun v18252 hv18252 => ?_)
  refine WQ_icmp_ne 28 dX7_faultAhead_15 rfl (fun c18252 => ?_) (fun c18252 => False.elim (by omega))
  refine WP_iload_n dX7_faultAhead_28 rfl ?_
  refine WQ_bipush (8) (8) dX7_faultAhead_29 rfl rfl (fun v18254 hv18254 => ?_)
  have jn55_18258 : ∀ (v18258 : Int32), 0 ≤ v18258.toInt → v18258.toInt ≤ 0 → WP g mX7_faultAhead 55 [(0, .ref (ad g 27)), (1, .int cz)] [.int v18258] I J R (fun r I' J' R' => (I' = I ∧ J' = J ∧ R' = R) ∧ ∃ v : Int32, r = some (.int v) ∧ 0 ≤ v.toInt ∧ v.toInt ≤ 4) := by
    intro v18258 av18258 bv18258
    exact WP_iret dX7_faultAhead_55 rfl ⟨⟨rfl, rfl, rfl⟩, _, rfl, by omega, by omega⟩
  refine WQ_icmp_eq 40 dX7_faultAhead_31 rfl (fun c18259 => False.elim (by omega)) (fun c18259 => ?_)
  refine WP_iload_n dX7_faultAhead_34 rfl ?_
  refine WQ_bipush (9) (9) dX7_faultAhead_35 rfl rfl (fun v18261 hv18261 => ?_)
  refine WQ_icmp_ne 54 dX7_faultAhead_37 rfl (fun c18261 => ?_) (fun c18261 => False.elim (by omega))
  refine WQ_iconst (0) (0) dX7_faultAhead_54 rfl rfl (fun v18263 hv18263 => ?_)
  exact WP_sub (fc rfl (fc rfl fn)) (jn55_18258 v18263 (by omega) (by omega))
set_option maxHeartbeats 4000000 in
set_option maxRecDepth 100000 in
theorem sx_faultAhead_27_7 {g : GG} {n : Int} {L : Int32} (hy : LyX g)  {I : pI} {J : pJ} {R : pR} (hr : RfX g R) (hI : XI g n L I) (cz : Int32) (cz_lo : 7 ≤ cz.toInt) (cz_hi : cz.toInt ≤ 7) : SP g mX7_faultAhead [.ref (ad g 27), .int cz] I J R (fun r I' J' R' => (I' = I ∧ J' = J ∧ R' = R) ∧ ∃ v : Int32, r = some (.int v) ∧ 0 ≤ v.toInt ∧ v.toInt ≤ 4) := by
  refine SP_of ⟨by decide, rfl⟩ (Nat.le_of_ble_eq_true rfl) ?_
  have e18264 : I (ad g 1) 1 = L := hI.2
  have b18265 := BT_get hI.1 1 1 2 (0) (0) (900) (by decide) 1 (by decide) (by decide)
  rw [e18264] at b18265
  refine WP_iload_n dX7_faultAhead_0 rfl ?_
  refine WQ_iconst (1) (1) dX7_faultAhead_1 rfl rfl (fun v18266 hv18266 => ?_)
  refine WQ_icmp_ne 13 dX7_faultAhead_2 rfl (fun c18266 => ?_) (fun c18266 => False.elim (by omega))
  refine WP_iload_n dX7_faultAhead_13 rfl ?_
  refine WQ_iconst (2) (2) dX7_faultAhead_14 rfl rfl (fun v18268 hv18268 => ?_)
  refine WQ_icmp_ne 28 dX7_faultAhead_15 rfl (fun c18268 => ?_) (fun c18268 => False.elim (by omega))
  refine WP_iload_n dX7_faultAhead_28 rfl ?_
  refine WQ_bipush (8) (8) dX7_faultAhead_29 rfl rfl (fun v18270 hv18270 => ?_)
  have jn55_18274 : ∀ (v18274 : Int32), 0 ≤ v18274.toInt → v18274.toInt ≤ 0 → WP g mX7_faultAhead 55 [(0, .ref (ad g 27)), (1, .int cz)] [.int v18274] I J R (fun r I' J' R' => (I' = I ∧ J' = J ∧ R' = R) ∧ ∃ v : Int32, r = some (.int v) ∧ 0 ≤ v.toInt ∧ v.toInt ≤ 4) := by
    intro v18274 av18274 bv18274
    exact WP_iret dX7_faultAhead_55 rfl ⟨⟨rfl, rfl, rfl⟩, _, rfl, by omega, by omega⟩
  refine WQ_icmp_eq 40 dX7_faultAhead_31 rfl (fun c18275 => False.elim (by omega)) (fun c18275 => ?_)
  refine WP_iload_n dX7_faultAhead_34 rfl ?_
  refine WQ_bipush (9) (9) dX7_faultAhead_35 rfl rfl (fun v18277 hv18277 => ?_)
  refine WQ_icmp_ne 54 dX7_faultAhead_37 rfl (fun c18277 => ?_) (fun c18277 => False.elim (by omega))
  refine WQ_iconst (0) (0) dX7_faultAhead_54 rfl rfl (fun v18279 hv18279 => ?_)
  exact WP_sub (fc rfl (fc rfl fn)) (jn55_18274 v18279 (by omega) (by omega))
set_option maxHeartbeats 4000000 in
set_option maxRecDepth 100000 in
theorem sx_faultAhead_27_8 {g : GG} {n : Int} {L : Int32} (hy : LyX g)  {I : pI} {J : pJ} {R : pR} (hr : RfX g R) (hI : XI g n L I) (cz : Int32) (cz_lo : 8 ≤ cz.toInt) (cz_hi : cz.toInt ≤ 8) : SP g mX7_faultAhead [.ref (ad g 27), .int cz] I J R (fun r I' J' R' => (I' = I ∧ J' = J ∧ R' = R) ∧ ∃ v : Int32, r = some (.int v) ∧ 0 ≤ v.toInt ∧ v.toInt ≤ 4) := by
  refine SP_of ⟨by decide, rfl⟩ (Nat.le_of_ble_eq_true rfl) ?_
  have e18280 : I (ad g 1) 1 = L := hI.2
  have b18281 := BT_get hI.1 1 1 2 (0) (0) (900) (by decide) 1 (by decide) (by decide)
  rw [e18280] at b18281
  refine WP_iload_n dX7_faultAhead_0 rfl ?_
  refine WQ_iconst (1) (1) dX7_faultAhead_1 rfl rfl (fun v18282 hv18282 => ?_)
  refine WQ_icmp_ne 13 dX7_faultAhead_2 rfl (fun c18282 => ?_) (fun c18282 => False.elim (by omega))
  refine WP_iload_n dX7_faultAhead_13 rfl ?_
  refine WQ_iconst (2) (2) dX7_faultAhead_14 rfl rfl (fun v18284 hv18284 => ?_)
  refine WQ_icmp_ne 28 dX7_faultAhead_15 rfl (fun c18284 => ?_) (fun c18284 => False.elim (by omega))
  refine WP_iload_n dX7_faultAhead_28 rfl ?_
  refine WQ_bipush (8) (8) dX7_faultAhead_29 rfl rfl (fun v18286 hv18286 => ?_)
  have jn55_18293 : ∀ (v18293 : Int32), 0 ≤ v18293.toInt → v18293.toInt ≤ 3 → WP g mX7_faultAhead 55 [(0, .ref (ad g 27)), (1, .int cz)] [.int v18293] I J R (fun r I' J' R' => (I' = I ∧ J' = J ∧ R' = R) ∧ ∃ v : Int32, r = some (.int v) ∧ 0 ≤ v.toInt ∧ v.toInt ≤ 4) := by
    intro v18293 av18293 bv18293
    exact WP_iret dX7_faultAhead_55 rfl ⟨⟨rfl, rfl, rfl⟩, _, rfl, by omega, by omega⟩
  refine WQ_icmp_eq 40 dX7_faultAhead_31 rfl (fun c18294 => ?_) (fun c18294 => False.elim (by omega))
  refine WP_aload_n dX7_faultAhead_40 rfl ?_
  refine WP_iload_n dX7_faultAhead_41 rfl ?_
  refine WQ_iconst (0) (0) dX7_faultAhead_42 rfl rfl (fun v18296 hv18296 => ?_)
  refine WQ_iconst (0) (0) dX7_faultAhead_43 rfl rfl (fun v18297 hv18297 => ?_)
  refine WP_callV3 (k := 7) dX7_faultAhead_44 ⟨⟨⟨by decide, by decide⟩, zX7_isTold⟩, lX7_87, by decide, rfl, vX7_isTold.1, vX7_isTold.2⟩ (lyx_is hy 27 7 rfl) (sx_isTold_27 hy hr hI cz v18296 v18297 (by omega) (by omega) (by omega) (by omega) ) (Nat.le_of_ble_eq_true rfl) ?_
  intro r Ia Ja Ra hq
  obtain ⟨⟨ea, eb, ec⟩, v18298, rfl, av18298, bv18298⟩ := hq
  show WP _ _ _ _ (.int _ :: _) _ _ _ _
  rw [ea, eb, ec]
  clear ea eb ec Ia Ja Ra
  refine WQ_if_eq 54 dX7_faultAhead_47 rfl (fun c18298 => ?_) (fun c18298 => ?_)
  · refine WQ_iconst (0) (0) dX7_faultAhead_54 rfl rfl (fun v18300 hv18300 => ?_)
    exact WP_sub (fc rfl (fc rfl fn)) (jn55_18293 v18300 (by omega) (by omega))
  · refine WQ_iconst (3) (3) dX7_faultAhead_50 rfl rfl (fun v18301 hv18301 => ?_)
    refine WP_goto 55 dX7_faultAhead_51 rfl ?_
    exact WP_sub (fc rfl (fc rfl fn)) (jn55_18293 v18301 (by omega) (by omega))
set_option maxHeartbeats 4000000 in
set_option maxRecDepth 100000 in
theorem sx_faultAhead_27_9 {g : GG} {n : Int} {L : Int32} (hy : LyX g)  {I : pI} {J : pJ} {R : pR} (hr : RfX g R) (hI : XI g n L I) (cz : Int32) (cz_lo : 9 ≤ cz.toInt) (cz_hi : cz.toInt ≤ 9) : SP g mX7_faultAhead [.ref (ad g 27), .int cz] I J R (fun r I' J' R' => (I' = I ∧ J' = J ∧ R' = R) ∧ ∃ v : Int32, r = some (.int v) ∧ 0 ≤ v.toInt ∧ v.toInt ≤ 4) := by
  refine SP_of ⟨by decide, rfl⟩ (Nat.le_of_ble_eq_true rfl) ?_
  have e18302 : I (ad g 1) 1 = L := hI.2
  have b18303 := BT_get hI.1 1 1 2 (0) (0) (900) (by decide) 1 (by decide) (by decide)
  rw [e18302] at b18303
  refine WP_iload_n dX7_faultAhead_0 rfl ?_
  refine WQ_iconst (1) (1) dX7_faultAhead_1 rfl rfl (fun v18304 hv18304 => ?_)
  refine WQ_icmp_ne 13 dX7_faultAhead_2 rfl (fun c18304 => ?_) (fun c18304 => False.elim (by omega))
  refine WP_iload_n dX7_faultAhead_13 rfl ?_
  refine WQ_iconst (2) (2) dX7_faultAhead_14 rfl rfl (fun v18306 hv18306 => ?_)
  refine WQ_icmp_ne 28 dX7_faultAhead_15 rfl (fun c18306 => ?_) (fun c18306 => False.elim (by omega))
  refine WP_iload_n dX7_faultAhead_28 rfl ?_
  refine WQ_bipush (8) (8) dX7_faultAhead_29 rfl rfl (fun v18308 hv18308 => ?_)
  have jn55_18317 : ∀ (v18317 : Int32), 0 ≤ v18317.toInt → v18317.toInt ≤ 3 → WP g mX7_faultAhead 55 [(0, .ref (ad g 27)), (1, .int cz)] [.int v18317] I J R (fun r I' J' R' => (I' = I ∧ J' = J ∧ R' = R) ∧ ∃ v : Int32, r = some (.int v) ∧ 0 ≤ v.toInt ∧ v.toInt ≤ 4) := by
    intro v18317 av18317 bv18317
    exact WP_iret dX7_faultAhead_55 rfl ⟨⟨rfl, rfl, rfl⟩, _, rfl, by omega, by omega⟩
  refine WQ_icmp_eq 40 dX7_faultAhead_31 rfl (fun c18318 => False.elim (by omega)) (fun c18318 => ?_)
  refine WP_iload_n dX7_faultAhead_34 rfl ?_
  refine WQ_bipush (9) (9) dX7_faultAhead_35 rfl rfl (fun v18320 hv18320 => ?_)
  refine WQ_icmp_ne 54 dX7_faultAhead_37 rfl (fun c18320 => False.elim (by omega)) (fun c18320 => ?_)
  refine WP_aload_n dX7_faultAhead_40 rfl ?_
  refine WP_iload_n dX7_faultAhead_41 rfl ?_
  refine WQ_iconst (0) (0) dX7_faultAhead_42 rfl rfl (fun v18322 hv18322 => ?_)
  refine WQ_iconst (0) (0) dX7_faultAhead_43 rfl rfl (fun v18323 hv18323 => ?_)
  refine WP_callV3 (k := 7) dX7_faultAhead_44 ⟨⟨⟨by decide, by decide⟩, zX7_isTold⟩, lX7_87, by decide, rfl, vX7_isTold.1, vX7_isTold.2⟩ (lyx_is hy 27 7 rfl) (sx_isTold_27 hy hr hI cz v18322 v18323 (by omega) (by omega) (by omega) (by omega) ) (Nat.le_of_ble_eq_true rfl) ?_
  intro r Ia Ja Ra hq
  obtain ⟨⟨ea, eb, ec⟩, v18324, rfl, av18324, bv18324⟩ := hq
  show WP _ _ _ _ (.int _ :: _) _ _ _ _
  rw [ea, eb, ec]
  clear ea eb ec Ia Ja Ra
  refine WQ_if_eq 54 dX7_faultAhead_47 rfl (fun c18324 => ?_) (fun c18324 => ?_)
  · refine WQ_iconst (0) (0) dX7_faultAhead_54 rfl rfl (fun v18326 hv18326 => ?_)
    exact WP_sub (fc rfl (fc rfl fn)) (jn55_18317 v18326 (by omega) (by omega))
  · refine WQ_iconst (3) (3) dX7_faultAhead_50 rfl rfl (fun v18327 hv18327 => ?_)
    refine WP_goto 55 dX7_faultAhead_51 rfl ?_
    exact WP_sub (fc rfl (fc rfl fn)) (jn55_18317 v18327 (by omega) (by omega))
set_option maxHeartbeats 4000000 in
set_option maxRecDepth 100000 in
theorem sx_parts_27_0 {g : GG} {n : Int} {L : Int32} (hy : LyX g) {aK aV : Nat → Nat} {fo : Option Nat} (hz : HZ g aK aV fo)  {I : pI} {J : pJ} {R : pR} (hr : RfX g R) (hI : XI g n L I) (cz : Int32) (cz_lo : 0 ≤ cz.toInt) (cz_hi : cz.toInt ≤ 0) : SP g mX3_faultInParts [.ref (ad g 3), .int cz, .ref (ad g 27)] I J R (fun r I' J' R' => (XI g n L I' ∧ R' = R ∧ fz 74 g [1, 4] I I' ∧ fz 74 g [1] J J' ∧ True ∧ I' (ad g 27) 1 = I (ad g 27) 1 ∧ I' (ad g 27) 2 = I (ad g 27) 2) ∧ ∃ v : Int32, r = some (.int v) ∧ 0 ≤ v.toInt ∧ v.toInt ≤ 5 ∧ (v.toInt = 0 → (I' (ad g 4) 0).toInt ≤ 6 ∧ (I' (ad g 4) 1).toInt ≤ 900)) := by
  refine SP_of ⟨by decide, rfl⟩ (Nat.le_of_ble_eq_true rfl) ?_
  have e18328 : I (ad g 1) 1 = L := hI.2
  have b18329 := BT_get hI.1 1 1 2 (0) (0) (900) (by decide) 1 (by decide) (by decide)
  rw [e18328] at b18329
  have fr0 : fz 74 g [1, 4] I I := fz_rf
  have frj0 : fz 74 g [1] J J := fz_rf
  obtain ⟨w18330, ew18330⟩ : ∃ w : Int32, I (ad g 27) 1 = w := ⟨_, rfl⟩
  have bw18330 := BT_get hI.1 27 1 2 (0) (0) (4) (by decide) 1 (by decide) (by decide)
  rw [ew18330] at bw18330
  obtain ⟨w18331, ew18331⟩ : ∃ w : Int32, I (ad g 27) 2 = w := ⟨_, rfl⟩
  have bw18331 := BT_get hI.1 27 2 3 (0) (0) (3) (by decide) 2 (by decide) (by decide)
  rw [ew18331] at bw18331
  refine WP_iload_n dX3_faultInParts_0 rfl ?_
  refine WP_callS1 dX3_faultInParts_1 ⟨⟨⟨by decide, by decide⟩, zX3_shapeOf⟩, lX3_84, tX3_shapeOf⟩ (sx_shapeOf hy hz hr hI cz (by omega) (by omega)) (Nat.le_of_ble_eq_true rfl) ?_
  intro r Ia Ja Ra hq
  obtain ⟨⟨ea, eb, ec⟩, rfl⟩ := hq
  show WP _ _ _ _ (.ref _ :: _) _ _ _ _
  rw [show 10 + cz.toInt.toNat = 10 by omega]
  rw [ea, eb, ec]
  clear ea eb ec Ia Ja Ra
  refine WP_astore_n (ls' := [(0, _), (1, _), (2, _), (3, _)]) dX3_faultInParts_4 (by decide) rfl ?_
  refine WQ_iconst (0) (0) dX3_faultInParts_5 rfl rfl (fun v18332 hv18332 => ?_)
  refine WP_istore (ls' := [(0, _), (1, _), (2, _), (3, _), (4, _)]) dX3_faultInParts_6 (by decide) rfl ?_
  refine WP_iload dX3_faultInParts_8 rfl ?_
  refine WP_aload_n dX3_faultInParts_10 rfl ?_
  refine WS_call hz (i := 10) (by omega) dX3_faultInParts_11 ⟨⟨by decide, by decide⟩, zJ0_length_8abf5⟩ lX3_87 vJ0_length_8abf5 (As := []) (rest := [.int v18332]) (j_length hz (i := 10) (by omega)) rfl rfl (Nat.le_of_ble_eq_true rfl) ?_
  intro r Ia Ja Ra hq
  obtain ⟨⟨ea, eb, ec⟩, v18333, rfl, cv18333⟩ := hq
  show WP _ _ _ _ (.int _ :: _) _ _ _ _
  rw [ea, eb, ec]
  clear ea eb ec Ia Ja Ra
  have hv18333 : v18333.toInt = 2 := cv18333.trans rfl
  refine WQ_icmp_ge 125 dX3_faultInParts_14 rfl (fun c18333 => False.elim (by omega)) (fun c18333 => ?_)
  refine WP_iload dX3_faultInParts_17 rfl ?_
  refine WQ_iconst (5) (5) dX3_faultInParts_19 rfl rfl (fun v18335 hv18335 => ?_)
  refine WQ_icmp_ge 125 dX3_faultInParts_20 rfl (fun c18335 => False.elim (by omega)) (fun c18335 => ?_)
  refine WP_aload_n dX3_faultInParts_23 rfl ?_
  refine WP_iload dX3_faultInParts_24 rfl ?_
  refine WS_call hz (i := 10) (by omega) dX3_faultInParts_26 ⟨⟨by decide, by decide⟩, zJ0_charAt_5068e⟩ lX3_92 vJ0_charAt_5068e (As := [.int v18332]) (rest := []) (j_charAt hz (i := 10) (k := v18332) (by omega) (by omega) (by have z9 : ((liN.getD 10 0 : Nat) : Int) = 2 := rfl; omega)) rfl rfl (Nat.le_of_ble_eq_true rfl) ?_
  intro r Ia Ja Ra hq
  obtain ⟨⟨ea, eb, ec⟩, v18337, rfl, cv18337⟩ := hq
  show WP _ _ _ _ (.int _ :: _) _ _ _ _
  rw [ea, eb, ec]
  clear ea eb ec Ia Ja Ra
  have hv18337 : v18337.toInt = 68 := cv18337.trans (by rw [show v18332.toInt.toNat = 0 by omega]; rfl)
  refine WP_istore (ls' := [(0, _), (1, _), (2, _), (3, _), (4, _), (5, _)]) dX3_faultInParts_29 (by decide) rfl ?_
  refine WP_iload dX3_faultInParts_31 rfl ?_
  refine WQ_bipush (97) (97) dX3_faultInParts_33 rfl rfl (fun v18338 hv18338 => ?_)
  refine WQ_icmp_lt 49 dX3_faultInParts_35 rfl (fun c18338 => ?_) (fun c18338 => False.elim (by omega))
  refine WQ_iconst (0) (0) dX3_faultInParts_49 rfl rfl (fun v18340 hv18340 => ?_)
  refine WP_istore (ls' := [(0, _), (1, _), (2, _), (3, _), (4, _), (5, _), (6, _)]) dX3_faultInParts_50 (by decide) rfl ?_
  refine WP_aload_n dX3_faultInParts_52 rfl ?_
  refine WP_getr dX3_faultInParts_53 fX3_15 rfl (lyx_is hy 3 3 rfl) (rfx hr 3 2 1 (by decide)) ?_
  refine WQ_geti dX3_faultInParts_56 fX3_43 rfl (lyx_is hy 1 5 rfl) (BT_get hI.1 1 2 3 (0) (0) (4) (by decide) 2 (by decide) (by decide)) (fun v18341 ev18341 av18341 bv18341 => ?_)
  refine WP_iload dX3_faultInParts_59 rfl ?_
  refine WQ_if_eq 68 dX3_faultInParts_61 rfl (fun c18341 => ?_) (fun c18341 => False.elim (by omega))
  refine WQ_iconst (2) (2) dX3_faultInParts_68 rfl rfl (fun v18343 hv18343 => ?_)
  refine WQ_icmp_eq 74 dX3_faultInParts_69 rfl (fun c18343 => ?_) (fun c18343 => ?_)
  · refine WP_iload dX3_faultInParts_74 rfl ?_
    refine WQ_if_eq 92 dX3_faultInParts_76 rfl (fun c18344 => ?_) (fun c18344 => False.elim (by omega))
    refine WP_aload_n dX3_faultInParts_92 rfl ?_
    refine WP_iload dX3_faultInParts_93 rfl ?_
    refine WP_iload_n dX3_faultInParts_95 rfl ?_
    refine WP_iload dX3_faultInParts_96 rfl ?_
    refine WP_aload_n dX3_faultInParts_98 rfl ?_
    refine WP_callV4 (k := 3) dX3_faultInParts_99 ⟨⟨⟨by decide, by decide⟩, zX3_faultOfNumber⟩, lX3_100, by decide, rfl, vX3_faultOfNumber.1, vX3_faultOfNumber.2⟩ (lyx_is hy 3 3 rfl) (sx_part_27_0_0 hy hr hI v18337 cz v18332 (by omega) (by omega) (by omega) (by omega) (by omega) (by omega)) (Nat.le_of_ble_eq_true rfl) ?_
    intro r I18346 J18347 Ra hq
    obtain ⟨⟨hI18346, ec, fiI18346, fjI18346, ⟨pI18346, sI18346_27_1, sI18346_27_2⟩⟩, v18348, rfl, av18348, bv18348, cv18348⟩ := hq
    show WP _ _ _ _ (.int _ :: _) _ _ _ _
    rw [ec]
    clear ec Ra
    have fr18349 : fz 74 g [1, 4] I I18346 := fz_tr fr0 (fz_mono fiI18346 (by decide))
    have fr18350 : fz 74 g [1] J J18347 := fz_tr frj0 (fz_mono fjI18346 (by decide))
    have e18351 : I18346 (ad g 27) 1 = w18330 := by rw [sI18346_27_1]; exact ew18330
    have e18352 : I18346 (ad g 27) 2 = w18331 := by rw [sI18346_27_2]; exact ew18331
    have e18353 : I18346 (ad g 1) 1 = L := hI18346.2
    have b18354 := BT_get hI18346.1 1 1 2 (0) (0) (900) (by decide) 1 (by decide) (by decide)
    rw [e18353] at b18354
    obtain ⟨w18355, ew18355⟩ : ∃ w : Int32, I18346 (ad g 4) 0 = w := ⟨_, rfl⟩
    have bw18355 := BT_get hI18346.1 4 0 5 (0) (0) (1000) (by decide) 0 (by decide) (by decide)
    rw [ew18355] at bw18355
    rw [ew18355] at cv18348
    refine WP_istore (ls' := [(0, _), (1, _), (2, _), (3, _), (4, _), (5, _), (6, _), (7, _)]) dX3_faultInParts_102 (by decide) rfl ?_
    refine WP_iload dX3_faultInParts_104 rfl ?_
    refine WQ_if_eq 112 dX3_faultInParts_106 rfl (fun c18355 => ?_) (fun c18355 => ?_)
    · refine WP_aload_n dX3_faultInParts_112 rfl ?_
      refine WP_getr dX3_faultInParts_113 fX3_15 rfl (lyx_is hy 3 3 rfl) (rfx hr 3 2 1 (by decide)) ?_
      refine WP_callV0 (k := 5) dX3_faultInParts_116 ⟨⟨⟨by decide, by decide⟩, zX5_next⟩, lX3_40, by decide, rfl, vX5_next.1, vX5_next.2⟩ (lyx_is hy 1 5 rfl) (sx_nextf hy hr hI18346  ) (Nat.le_of_ble_eq_true rfl) ?_
      intro r I18357 J18358 Ra hq
      obtain ⟨⟨hI18357, ec, fiI18357, fjI18357⟩, rfl⟩ := hq
      rw [ec]
      clear ec Ra
      have fr18359 : fz 74 g [1, 4] I I18357 := fz_tr fr18349 (fz_mono fiI18357 (by decide))
      have fr18360 : fz 74 g [1] J J18358 := fz_tr fr18350 (fz_mono fjI18357 (by decide))
      have e18361 : I18357 (ad g 27) 1 = w18330 := by rw [fz_at fiI18357 27 (by decide) (by decide)]; exact e18351
      have e18362 : I18357 (ad g 27) 2 = w18331 := by rw [fz_at fiI18357 27 (by decide) (by decide)]; exact e18352
      have e18363 : I18357 (ad g 4) 0 = w18355 := by rw [fz_at fiI18357 4 (by decide) (by decide)]; exact ew18355
      have e18364 : I18357 (ad g 1) 1 = L := hI18357.2
      have b18365 := BT_get hI18357.1 1 1 2 (0) (0) (900) (by decide) 1 (by decide) (by decide)
      rw [e18364] at b18365
      refine WP_iinc (ls' := [(0, _), (1, _), (2, _), (3, _), (4, _), (5, _), (6, _), (7, _)]) dX3_faultInParts_119 rfl (by decide) rfl ?_
      have hv18366 : (v18332 + Int32.ofInt (1)).toInt = v18332.toInt + (1) := ia_n rfl (by omega) (by omega)
      generalize v18332 + Int32.ofInt (1) = v18366 at hv18366 ⊢
      refine WP_goto 8 dX3_faultInParts_122 rfl ?_
      refine WP_iload dX3_faultInParts_8 rfl ?_
      refine WP_aload_n dX3_faultInParts_10 rfl ?_
      refine WS_call hz (i := 10) (by omega) dX3_faultInParts_11 ⟨⟨by decide, by decide⟩, zJ0_length_8abf5⟩ lX3_87 vJ0_length_8abf5 (As := []) (rest := [.int v18366]) (j_length hz (i := 10) (by omega)) rfl rfl (Nat.le_of_ble_eq_true rfl) ?_
      intro r Ia Ja Ra hq
      obtain ⟨⟨ea, eb, ec⟩, v18367, rfl, cv18367⟩ := hq
      show WP _ _ _ _ (.int _ :: _) _ _ _ _
      rw [ea, eb, ec]
      clear ea eb ec Ia Ja Ra
      have hv18367 : v18367.toInt = 2 := cv18367.trans rfl
      refine WQ_icmp_ge 125 dX3_faultInParts_14 rfl (fun c18367 => False.elim (by omega)) (fun c18367 => ?_)
      refine WP_iload dX3_faultInParts_17 rfl ?_
      refine WQ_iconst (5) (5) dX3_faultInParts_19 rfl rfl (fun v18369 hv18369 => ?_)
      refine WQ_icmp_ge 125 dX3_faultInParts_20 rfl (fun c18369 => False.elim (by omega)) (fun c18369 => ?_)
      refine WP_aload_n dX3_faultInParts_23 rfl ?_
      refine WP_iload dX3_faultInParts_24 rfl ?_
      refine WS_call hz (i := 10) (by omega) dX3_faultInParts_26 ⟨⟨by decide, by decide⟩, zJ0_charAt_5068e⟩ lX3_92 vJ0_charAt_5068e (As := [.int v18366]) (rest := []) (j_charAt hz (i := 10) (k := v18366) (by omega) (by omega) (by have z9 : ((liN.getD 10 0 : Nat) : Int) = 2 := rfl; omega)) rfl rfl (Nat.le_of_ble_eq_true rfl) ?_
      intro r Ia Ja Ra hq
      obtain ⟨⟨ea, eb, ec⟩, v18371, rfl, cv18371⟩ := hq
      show WP _ _ _ _ (.int _ :: _) _ _ _ _
      rw [ea, eb, ec]
      clear ea eb ec Ia Ja Ra
      have hv18371 : v18371.toInt = 76 := cv18371.trans (by rw [show v18366.toInt.toNat = 1 by omega]; rfl)
      refine WP_istore (ls' := [(0, _), (1, _), (2, _), (3, _), (4, _), (5, _), (6, _), (7, _)]) dX3_faultInParts_29 (by decide) rfl ?_
      refine WP_iload dX3_faultInParts_31 rfl ?_
      refine WQ_bipush (97) (97) dX3_faultInParts_33 rfl rfl (fun v18372 hv18372 => ?_)
      refine WQ_icmp_lt 49 dX3_faultInParts_35 rfl (fun c18372 => ?_) (fun c18372 => False.elim (by omega))
      refine WQ_iconst (0) (0) dX3_faultInParts_49 rfl rfl (fun v18374 hv18374 => ?_)
      refine WP_istore (ls' := [(0, _), (1, _), (2, _), (3, _), (4, _), (5, _), (6, _), (7, _)]) dX3_faultInParts_50 (by decide) rfl ?_
      refine WP_aload_n dX3_faultInParts_52 rfl ?_
      refine WP_getr dX3_faultInParts_53 fX3_15 rfl (lyx_is hy 3 3 rfl) (rfx hr 3 2 1 (by decide)) ?_
      refine WQ_geti dX3_faultInParts_56 fX3_43 rfl (lyx_is hy 1 5 rfl) (BT_get hI18357.1 1 2 3 (0) (0) (4) (by decide) 2 (by decide) (by decide)) (fun v18375 ev18375 av18375 bv18375 => ?_)
      refine WP_iload dX3_faultInParts_59 rfl ?_
      refine WQ_if_eq 68 dX3_faultInParts_61 rfl (fun c18375 => ?_) (fun c18375 => False.elim (by omega))
      refine WQ_iconst (2) (2) dX3_faultInParts_68 rfl rfl (fun v18377 hv18377 => ?_)
      refine WQ_icmp_eq 74 dX3_faultInParts_69 rfl (fun c18377 => ?_) (fun c18377 => ?_)
      · refine WP_iload dX3_faultInParts_74 rfl ?_
        refine WQ_if_eq 92 dX3_faultInParts_76 rfl (fun c18378 => ?_) (fun c18378 => False.elim (by omega))
        refine WP_aload_n dX3_faultInParts_92 rfl ?_
        refine WP_iload dX3_faultInParts_93 rfl ?_
        refine WP_iload_n dX3_faultInParts_95 rfl ?_
        refine WP_iload dX3_faultInParts_96 rfl ?_
        refine WP_aload_n dX3_faultInParts_98 rfl ?_
        refine WP_callV4 (k := 3) dX3_faultInParts_99 ⟨⟨⟨by decide, by decide⟩, zX3_faultOfNumber⟩, lX3_100, by decide, rfl, vX3_faultOfNumber.1, vX3_faultOfNumber.2⟩ (lyx_is hy 3 3 rfl) (sx_part_27_0_1 hy hr hI18357 v18371 cz v18366 (by omega) (by omega) (by omega) (by omega) (by omega) (by omega)) (Nat.le_of_ble_eq_true rfl) ?_
        intro r I18380 J18381 Ra hq
        obtain ⟨⟨hI18380, ec, fiI18380, fjI18380, ⟨pI18380, sI18380_4_0, sI18380_27_1, sI18380_27_2⟩⟩, v18382, rfl, av18382, bv18382, cv18382⟩ := hq
        show WP _ _ _ _ (.int _ :: _) _ _ _ _
        rw [ec]
        clear ec Ra
        have fr18383 : fz 74 g [1, 4] I I18380 := fz_tr fr18359 (fz_mono fiI18380 (by decide))
        have fr18384 : fz 74 g [1] J J18381 := fz_tr fr18360 (fz_mono fjI18380 (by decide))
        have e18385 : I18380 (ad g 4) 0 = w18355 := by rw [sI18380_4_0]; exact e18363
        have e18386 : I18380 (ad g 27) 1 = w18330 := by rw [sI18380_27_1]; exact e18361
        have e18387 : I18380 (ad g 27) 2 = w18331 := by rw [sI18380_27_2]; exact e18362
        have e18388 : I18380 (ad g 1) 1 = L := hI18380.2
        have b18389 := BT_get hI18380.1 1 1 2 (0) (0) (900) (by decide) 1 (by decide) (by decide)
        rw [e18388] at b18389
        obtain ⟨w18390, ew18390⟩ : ∃ w : Int32, I18380 (ad g 4) 1 = w := ⟨_, rfl⟩
        have bw18390 := BT_get hI18380.1 4 0 5 (0) (0) (1000) (by decide) 1 (by decide) (by decide)
        rw [ew18390] at bw18390
        rw [ew18390] at cv18382
        refine WP_istore (ls' := [(0, _), (1, _), (2, _), (3, _), (4, _), (5, _), (6, _), (7, _)]) dX3_faultInParts_102 (by decide) rfl ?_
        refine WP_iload dX3_faultInParts_104 rfl ?_
        refine WQ_if_eq 112 dX3_faultInParts_106 rfl (fun c18390 => ?_) (fun c18390 => ?_)
        · refine WP_aload_n dX3_faultInParts_112 rfl ?_
          refine WP_getr dX3_faultInParts_113 fX3_15 rfl (lyx_is hy 3 3 rfl) (rfx hr 3 2 1 (by decide)) ?_
          refine WP_callV0 (k := 5) dX3_faultInParts_116 ⟨⟨⟨by decide, by decide⟩, zX5_next⟩, lX3_40, by decide, rfl, vX5_next.1, vX5_next.2⟩ (lyx_is hy 1 5 rfl) (sx_nextf hy hr hI18380  ) (Nat.le_of_ble_eq_true rfl) ?_
          intro r I18392 J18393 Ra hq
          obtain ⟨⟨hI18392, ec, fiI18392, fjI18392⟩, rfl⟩ := hq
          rw [ec]
          clear ec Ra
          have fr18394 : fz 74 g [1, 4] I I18392 := fz_tr fr18383 (fz_mono fiI18392 (by decide))
          have fr18395 : fz 74 g [1] J J18393 := fz_tr fr18384 (fz_mono fjI18392 (by decide))
          have e18396 : I18392 (ad g 4) 0 = w18355 := by rw [fz_at fiI18392 4 (by decide) (by decide)]; exact e18385
          have e18397 : I18392 (ad g 27) 1 = w18330 := by rw [fz_at fiI18392 27 (by decide) (by decide)]; exact e18386
          have e18398 : I18392 (ad g 27) 2 = w18331 := by rw [fz_at fiI18392 27 (by decide) (by decide)]; exact e18387
          have e18399 : I18392 (ad g 4) 1 = w18390 := by rw [fz_at fiI18392 4 (by decide) (by decide)]; exact ew18390
          have e18400 : I18392 (ad g 1) 1 = L := hI18392.2
          have b18401 := BT_get hI18392.1 1 1 2 (0) (0) (900) (by decide) 1 (by decide) (by decide)
          rw [e18400] at b18401
          refine WP_iinc (ls' := [(0, _), (1, _), (2, _), (3, _), (4, _), (5, _), (6, _), (7, _)]) dX3_faultInParts_119 rfl (by decide) rfl ?_
          have hv18402 : (v18366 + Int32.ofInt (1)).toInt = v18366.toInt + (1) := ia_n rfl (by omega) (by omega)
          generalize v18366 + Int32.ofInt (1) = v18402 at hv18402 ⊢
          refine WP_goto 8 dX3_faultInParts_122 rfl ?_
          refine WP_iload dX3_faultInParts_8 rfl ?_
          refine WP_aload_n dX3_faultInParts_10 rfl ?_
          refine WS_call hz (i := 10) (by omega) dX3_faultInParts_11 ⟨⟨by decide, by decide⟩, zJ0_length_8abf5⟩ lX3_87 vJ0_length_8abf5 (As := []) (rest := [.int v18402]) (j_length hz (i := 10) (by omega)) rfl rfl (Nat.le_of_ble_eq_true rfl) ?_
          intro r Ia Ja Ra hq
          obtain ⟨⟨ea, eb, ec⟩, v18403, rfl, cv18403⟩ := hq
          show WP _ _ _ _ (.int _ :: _) _ _ _ _
          rw [ea, eb, ec]
          clear ea eb ec Ia Ja Ra
          have hv18403 : v18403.toInt = 2 := cv18403.trans rfl
          refine WQ_icmp_ge 125 dX3_faultInParts_14 rfl (fun c18403 => ?_) (fun c18403 => False.elim (by omega))
          refine WP_aload_n dX3_faultInParts_125 rfl ?_
          refine WP_getr dX3_faultInParts_126 fX3_15 rfl (lyx_is hy 3 3 rfl) (rfx hr 3 2 1 (by decide)) ?_
          refine WQ_geti dX3_faultInParts_129 fX3_43 rfl (lyx_is hy 1 5 rfl) (BT_get hI18392.1 1 2 3 (0) (0) (4) (by decide) 2 (by decide) (by decide)) (fun v18405 ev18405 av18405 bv18405 => ?_)
          refine WQ_iconst (3) (3) dX3_faultInParts_132 rfl rfl (fun v18406 hv18406 => ?_)
          refine WQ_icmp_ne 140 dX3_faultInParts_133 rfl (fun c18406 => ?_) (fun c18406 => ?_)
          · refine WQ_iconst (1) (1) dX3_faultInParts_140 rfl rfl (fun v18408 hv18408 => ?_)
            exact WP_iret dX3_faultInParts_141 rfl ⟨⟨hI18392, rfl, fr18394, fr18395, ⟨trivial, (by rw [e18397, ew18330] <;> exact (eq32 _ _).mpr (by omega)), (by rw [e18398, ew18331] <;> exact (eq32 _ _).mpr (by omega))⟩⟩, _, rfl, by omega, by omega, by (try rw [e18396]; try rw [e18399]); omega⟩
          · refine WQ_iconst (0) (0) dX3_faultInParts_136 rfl rfl (fun v18409 hv18409 => ?_)
            refine WP_goto 141 dX3_faultInParts_137 rfl ?_
            exact WP_iret dX3_faultInParts_141 rfl ⟨⟨hI18392, rfl, fr18394, fr18395, ⟨trivial, (by rw [e18397, ew18330] <;> exact (eq32 _ _).mpr (by omega)), (by rw [e18398, ew18331] <;> exact (eq32 _ _).mpr (by omega))⟩⟩, _, rfl, by omega, by omega, by (try rw [e18396]; try rw [e18399]); omega⟩
        · refine WP_iload dX3_faultInParts_109 rfl ?_
          exact WP_iret dX3_faultInParts_111 rfl ⟨⟨hI18380, rfl, fr18383, fr18384, ⟨trivial, (by rw [e18386, ew18330] <;> exact (eq32 _ _).mpr (by omega)), (by rw [e18387, ew18331] <;> exact (eq32 _ _).mpr (by omega))⟩⟩, _, rfl, by omega, by omega, by (try rw [e18385]; try rw [ew18390]); omega⟩
      · refine WQ_iconst (1) (1) dX3_faultInParts_72 rfl rfl (fun v18410 hv18410 => ?_)
        obtain ⟨w18411, ew18411⟩ : ∃ w : Int32, I18357 (ad g 4) 1 = w := ⟨_, rfl⟩
        have bw18411 := BT_get hI18357.1 4 0 5 (0) (0) (1000) (by decide) 1 (by decide) (by decide)
        rw [ew18411] at bw18411
        exact WP_iret dX3_faultInParts_73 rfl ⟨⟨hI18357, rfl, fr18359, fr18360, ⟨trivial, (by rw [e18361, ew18330] <;> exact (eq32 _ _).mpr (by omega)), (by rw [e18362, ew18331] <;> exact (eq32 _ _).mpr (by omega))⟩⟩, _, rfl, by omega, by omega, by (try rw [e18363]; try rw [ew18411]); omega⟩
    · refine WP_iload dX3_faultInParts_109 rfl ?_
      obtain ⟨w18412, ew18412⟩ : ∃ w : Int32, I18346 (ad g 4) 1 = w := ⟨_, rfl⟩
      have bw18412 := BT_get hI18346.1 4 0 5 (0) (0) (1000) (by decide) 1 (by decide) (by decide)
      rw [ew18412] at bw18412
      exact WP_iret dX3_faultInParts_111 rfl ⟨⟨hI18346, rfl, fr18349, fr18350, ⟨trivial, (by rw [e18351, ew18330] <;> exact (eq32 _ _).mpr (by omega)), (by rw [e18352, ew18331] <;> exact (eq32 _ _).mpr (by omega))⟩⟩, _, rfl, by omega, by omega, by (try rw [ew18355]; try rw [ew18412]); omega⟩
  · refine WQ_iconst (1) (1) dX3_faultInParts_72 rfl rfl (fun v18413 hv18413 => ?_)
    obtain ⟨w18414, ew18414⟩ : ∃ w : Int32, I (ad g 4) 0 = w := ⟨_, rfl⟩
    have bw18414 := BT_get hI.1 4 0 5 (0) (0) (1000) (by decide) 0 (by decide) (by decide)
    rw [ew18414] at bw18414
    obtain ⟨w18415, ew18415⟩ : ∃ w : Int32, I (ad g 4) 1 = w := ⟨_, rfl⟩
    have bw18415 := BT_get hI.1 4 0 5 (0) (0) (1000) (by decide) 1 (by decide) (by decide)
    rw [ew18415] at bw18415
    exact WP_iret dX3_faultInParts_73 rfl ⟨⟨hI, rfl, fr0, frj0, ⟨trivial, rfl, rfl⟩⟩, _, rfl, by omega, by omega, by (try rw [ew18414]; try rw [ew18415]); omega⟩
set_option maxHeartbeats 4000000 in
set_option maxRecDepth 100000 in
theorem sx_parts_27_1 {g : GG} {n : Int} {L : Int32} (hy : LyX g) {aK aV : Nat → Nat} {fo : Option Nat} (hz : HZ g aK aV fo)  {I : pI} {J : pJ} {R : pR} (hr : RfX g R) (hI : XI g n L I) (cz : Int32) (cz_lo : 1 ≤ cz.toInt) (cz_hi : cz.toInt ≤ 1) (hb : (I (ad g 27) 1).toInt ≤ 3) : SP g mX3_faultInParts [.ref (ad g 3), .int cz, .ref (ad g 27)] I J R (fun r I' J' R' => (XI g n L I' ∧ R' = R ∧ fz 74 g [1, 4] I I' ∧ fz 74 g [1, 41] J J' ∧ True ∧ I' (ad g 27) 1 = I (ad g 27) 1 ∧ I' (ad g 27) 2 = I (ad g 27) 2) ∧ ∃ v : Int32, r = some (.int v) ∧ 0 ≤ v.toInt ∧ v.toInt ≤ 5 ∧ (v.toInt = 0 → (I' (ad g 4) 1).toInt ≤ 99 ∧ (I' (ad g 4) 2).toInt ≤ 1000 ∧ (I' (ad g 4) 3).toInt ≤ 60)) := by
  refine SP_of ⟨by decide, rfl⟩ (Nat.le_of_ble_eq_true rfl) ?_
  have e18416 : I (ad g 1) 1 = L := hI.2
  have b18417 := BT_get hI.1 1 1 2 (0) (0) (900) (by decide) 1 (by decide) (by decide)
  rw [e18416] at b18417
  have fr0 : fz 74 g [1, 4] I I := fz_rf
  have frj0 : fz 74 g [1, 41] J J := fz_rf
  obtain ⟨w18418, ew18418⟩ : ∃ w : Int32, I (ad g 27) 1 = w := ⟨_, rfl⟩
  have bw18418 := BT_get hI.1 27 1 2 (0) (0) (4) (by decide) 1 (by decide) (by decide)
  rw [ew18418] at bw18418
  obtain ⟨w18419, ew18419⟩ : ∃ w : Int32, I (ad g 27) 2 = w := ⟨_, rfl⟩
  have bw18419 := BT_get hI.1 27 2 3 (0) (0) (3) (by decide) 2 (by decide) (by decide)
  rw [ew18419] at bw18419
  rw [ew18418] at hb
  refine WP_iload_n dX3_faultInParts_0 rfl ?_
  refine WP_callS1 dX3_faultInParts_1 ⟨⟨⟨by decide, by decide⟩, zX3_shapeOf⟩, lX3_84, tX3_shapeOf⟩ (sx_shapeOf hy hz hr hI cz (by omega) (by omega)) (Nat.le_of_ble_eq_true rfl) ?_
  intro r Ia Ja Ra hq
  obtain ⟨⟨ea, eb, ec⟩, rfl⟩ := hq
  show WP _ _ _ _ (.ref _ :: _) _ _ _ _
  rw [show 10 + cz.toInt.toNat = 11 by omega]
  rw [ea, eb, ec]
  clear ea eb ec Ia Ja Ra
  refine WP_astore_n (ls' := [(0, _), (1, _), (2, _), (3, _)]) dX3_faultInParts_4 (by decide) rfl ?_
  refine WQ_iconst (0) (0) dX3_faultInParts_5 rfl rfl (fun v18420 hv18420 => ?_)
  refine WP_istore (ls' := [(0, _), (1, _), (2, _), (3, _), (4, _)]) dX3_faultInParts_6 (by decide) rfl ?_
  refine WP_iload dX3_faultInParts_8 rfl ?_
  refine WP_aload_n dX3_faultInParts_10 rfl ?_
  refine WS_call hz (i := 11) (by omega) dX3_faultInParts_11 ⟨⟨by decide, by decide⟩, zJ0_length_8abf5⟩ lX3_87 vJ0_length_8abf5 (As := []) (rest := [.int v18420]) (j_length hz (i := 11) (by omega)) rfl rfl (Nat.le_of_ble_eq_true rfl) ?_
  intro r Ia Ja Ra hq
  obtain ⟨⟨ea, eb, ec⟩, v18421, rfl, cv18421⟩ := hq
  show WP _ _ _ _ (.int _ :: _) _ _ _ _
  rw [ea, eb, ec]
  clear ea eb ec Ia Ja Ra
  have hv18421 : v18421.toInt = 4 := cv18421.trans rfl
  refine WQ_icmp_ge 125 dX3_faultInParts_14 rfl (fun c18421 => False.elim (by omega)) (fun c18421 => ?_)
  refine WP_iload dX3_faultInParts_17 rfl ?_
  refine WQ_iconst (5) (5) dX3_faultInParts_19 rfl rfl (fun v18423 hv18423 => ?_)
  refine WQ_icmp_ge 125 dX3_faultInParts_20 rfl (fun c18423 => False.elim (by omega)) (fun c18423 => ?_)
  refine WP_aload_n dX3_faultInParts_23 rfl ?_
  refine WP_iload dX3_faultInParts_24 rfl ?_
  refine WS_call hz (i := 11) (by omega) dX3_faultInParts_26 ⟨⟨by decide, by decide⟩, zJ0_charAt_5068e⟩ lX3_92 vJ0_charAt_5068e (As := [.int v18420]) (rest := []) (j_charAt hz (i := 11) (k := v18420) (by omega) (by omega) (by have z9 : ((liN.getD 11 0 : Nat) : Int) = 4 := rfl; omega)) rfl rfl (Nat.le_of_ble_eq_true rfl) ?_
  intro r Ia Ja Ra hq
  obtain ⟨⟨ea, eb, ec⟩, v18425, rfl, cv18425⟩ := hq
  show WP _ _ _ _ (.int _ :: _) _ _ _ _
  rw [ea, eb, ec]
  clear ea eb ec Ia Ja Ra
  have hv18425 : v18425.toInt = 110 := cv18425.trans (by rw [show v18420.toInt.toNat = 0 by omega]; rfl)
  refine WP_istore (ls' := [(0, _), (1, _), (2, _), (3, _), (4, _), (5, _)]) dX3_faultInParts_29 (by decide) rfl ?_
  refine WP_iload dX3_faultInParts_31 rfl ?_
  refine WQ_bipush (97) (97) dX3_faultInParts_33 rfl rfl (fun v18426 hv18426 => ?_)
  refine WQ_icmp_lt 49 dX3_faultInParts_35 rfl (fun c18426 => False.elim (by omega)) (fun c18426 => ?_)
  refine WP_iload dX3_faultInParts_38 rfl ?_
  refine WQ_bipush (122) (122) dX3_faultInParts_40 rfl rfl (fun v18428 hv18428 => ?_)
  refine WQ_icmp_gt 49 dX3_faultInParts_42 rfl (fun c18428 => False.elim (by omega)) (fun c18428 => ?_)
  refine WQ_iconst (1) (1) dX3_faultInParts_45 rfl rfl (fun v18430 hv18430 => ?_)
  refine WP_goto 50 dX3_faultInParts_46 rfl ?_
  refine WP_istore (ls' := [(0, _), (1, _), (2, _), (3, _), (4, _), (5, _), (6, _)]) dX3_faultInParts_50 (by decide) rfl ?_
  refine WP_aload_n dX3_faultInParts_52 rfl ?_
  refine WP_getr dX3_faultInParts_53 fX3_15 rfl (lyx_is hy 3 3 rfl) (rfx hr 3 2 1 (by decide)) ?_
  refine WQ_geti dX3_faultInParts_56 fX3_43 rfl (lyx_is hy 1 5 rfl) (BT_get hI.1 1 2 3 (0) (0) (4) (by decide) 2 (by decide) (by decide)) (fun v18431 ev18431 av18431 bv18431 => ?_)
  refine WP_iload dX3_faultInParts_59 rfl ?_
  refine WQ_if_eq 68 dX3_faultInParts_61 rfl (fun c18431 => False.elim (by omega)) (fun c18431 => ?_)
  refine WQ_iconst (1) (1) dX3_faultInParts_64 rfl rfl (fun v18433 hv18433 => ?_)
  refine WP_goto 69 dX3_faultInParts_65 rfl ?_
  refine WQ_icmp_eq 74 dX3_faultInParts_69 rfl (fun c18433 => ?_) (fun c18433 => ?_)
  · refine WP_iload dX3_faultInParts_74 rfl ?_
    refine WQ_if_eq 92 dX3_faultInParts_76 rfl (fun c18434 => False.elim (by omega)) (fun c18434 => ?_)
    refine WP_aload_n dX3_faultInParts_79 rfl ?_
    refine WP_iload dX3_faultInParts_80 rfl ?_
    refine WP_iload_n dX3_faultInParts_82 rfl ?_
    refine WP_iload dX3_faultInParts_83 rfl ?_
    refine WP_aload_n dX3_faultInParts_85 rfl ?_
    refine WP_callV4 (k := 3) dX3_faultInParts_86 ⟨⟨⟨by decide, by decide⟩, zX3_faultOfName⟩, lX3_96, by decide, rfl, vX3_faultOfName.1, vX3_faultOfName.2⟩ (lyx_is hy 3 3 rfl) (sx_part_27_1_0 hy hr hI v18425 cz v18420 (by omega) (by omega) (by omega) (by omega) (by omega) (by omega) (by rw [ew18418]; omega)) (Nat.le_of_ble_eq_true rfl) ?_
    intro r I18436 J18437 Ra hq
    obtain ⟨⟨hI18436, ec, fiI18436, fjI18436, ⟨pI18436, sI18436_27_1, sI18436_27_2⟩⟩, v18438, rfl, av18438, bv18438⟩ := hq
    show WP _ _ _ _ (.int _ :: _) _ _ _ _
    rw [ec]
    clear ec Ra
    have fr18439 : fz 74 g [1, 4] I I18436 := fz_tr fr0 (fz_mono fiI18436 (by decide))
    have fr18440 : fz 74 g [1, 41] J J18437 := fz_tr frj0 (fz_mono fjI18436 (by decide))
    have e18441 : I18436 (ad g 27) 1 = w18418 := by rw [sI18436_27_1]; exact ew18418
    have e18442 : I18436 (ad g 27) 2 = w18419 := by rw [sI18436_27_2]; exact ew18419
    have e18443 : I18436 (ad g 1) 1 = L := hI18436.2
    have b18444 := BT_get hI18436.1 1 1 2 (0) (0) (900) (by decide) 1 (by decide) (by decide)
    rw [e18443] at b18444
    refine WP_goto 102 dX3_faultInParts_89 rfl ?_
    refine WP_istore (ls' := [(0, _), (1, _), (2, _), (3, _), (4, _), (5, _), (6, _), (7, _)]) dX3_faultInParts_102 (by decide) rfl ?_
    refine WP_iload dX3_faultInParts_104 rfl ?_
    refine WQ_if_eq 112 dX3_faultInParts_106 rfl (fun c18444 => ?_) (fun c18444 => ?_)
    · refine WP_aload_n dX3_faultInParts_112 rfl ?_
      refine WP_getr dX3_faultInParts_113 fX3_15 rfl (lyx_is hy 3 3 rfl) (rfx hr 3 2 1 (by decide)) ?_
      refine WP_callV0 (k := 5) dX3_faultInParts_116 ⟨⟨⟨by decide, by decide⟩, zX5_next⟩, lX3_40, by decide, rfl, vX5_next.1, vX5_next.2⟩ (lyx_is hy 1 5 rfl) (sx_nextf hy hr hI18436  ) (Nat.le_of_ble_eq_true rfl) ?_
      intro r I18446 J18447 Ra hq
      obtain ⟨⟨hI18446, ec, fiI18446, fjI18446⟩, rfl⟩ := hq
      rw [ec]
      clear ec Ra
      have fr18448 : fz 74 g [1, 4] I I18446 := fz_tr fr18439 (fz_mono fiI18446 (by decide))
      have fr18449 : fz 74 g [1, 41] J J18447 := fz_tr fr18440 (fz_mono fjI18446 (by decide))
      have e18450 : I18446 (ad g 27) 1 = w18418 := by rw [fz_at fiI18446 27 (by decide) (by decide)]; exact e18441
      have e18451 : I18446 (ad g 27) 2 = w18419 := by rw [fz_at fiI18446 27 (by decide) (by decide)]; exact e18442
      have e18452 : I18446 (ad g 1) 1 = L := hI18446.2
      have b18453 := BT_get hI18446.1 1 1 2 (0) (0) (900) (by decide) 1 (by decide) (by decide)
      rw [e18452] at b18453
      refine WP_iinc (ls' := [(0, _), (1, _), (2, _), (3, _), (4, _), (5, _), (6, _), (7, _)]) dX3_faultInParts_119 rfl (by decide) rfl ?_
      have hv18454 : (v18420 + Int32.ofInt (1)).toInt = v18420.toInt + (1) := ia_n rfl (by omega) (by omega)
      generalize v18420 + Int32.ofInt (1) = v18454 at hv18454 ⊢
      refine WP_goto 8 dX3_faultInParts_122 rfl ?_
      refine WP_iload dX3_faultInParts_8 rfl ?_
      refine WP_aload_n dX3_faultInParts_10 rfl ?_
      refine WS_call hz (i := 11) (by omega) dX3_faultInParts_11 ⟨⟨by decide, by decide⟩, zJ0_length_8abf5⟩ lX3_87 vJ0_length_8abf5 (As := []) (rest := [.int v18454]) (j_length hz (i := 11) (by omega)) rfl rfl (Nat.le_of_ble_eq_true rfl) ?_
      intro r Ia Ja Ra hq
      obtain ⟨⟨ea, eb, ec⟩, v18455, rfl, cv18455⟩ := hq
      show WP _ _ _ _ (.int _ :: _) _ _ _ _
      rw [ea, eb, ec]
      clear ea eb ec Ia Ja Ra
      have hv18455 : v18455.toInt = 4 := cv18455.trans rfl
      refine WQ_icmp_ge 125 dX3_faultInParts_14 rfl (fun c18455 => False.elim (by omega)) (fun c18455 => ?_)
      refine WP_iload dX3_faultInParts_17 rfl ?_
      refine WQ_iconst (5) (5) dX3_faultInParts_19 rfl rfl (fun v18457 hv18457 => ?_)
      refine WQ_icmp_ge 125 dX3_faultInParts_20 rfl (fun c18457 => False.elim (by omega)) (fun c18457 => ?_)
      refine WP_aload_n dX3_faultInParts_23 rfl ?_
      refine WP_iload dX3_faultInParts_24 rfl ?_
      refine WS_call hz (i := 11) (by omega) dX3_faultInParts_26 ⟨⟨by decide, by decide⟩, zJ0_charAt_5068e⟩ lX3_92 vJ0_charAt_5068e (As := [.int v18454]) (rest := []) (j_charAt hz (i := 11) (k := v18454) (by omega) (by omega) (by have z9 : ((liN.getD 11 0 : Nat) : Int) = 4 := rfl; omega)) rfl rfl (Nat.le_of_ble_eq_true rfl) ?_
      intro r Ia Ja Ra hq
      obtain ⟨⟨ea, eb, ec⟩, v18459, rfl, cv18459⟩ := hq
      show WP _ _ _ _ (.int _ :: _) _ _ _ _
      rw [ea, eb, ec]
      clear ea eb ec Ia Ja Ra
      have hv18459 : v18459.toInt = 80 := cv18459.trans (by rw [show v18454.toInt.toNat = 1 by omega]; rfl)
      refine WP_istore (ls' := [(0, _), (1, _), (2, _), (3, _), (4, _), (5, _), (6, _), (7, _)]) dX3_faultInParts_29 (by decide) rfl ?_
      refine WP_iload dX3_faultInParts_31 rfl ?_
      refine WQ_bipush (97) (97) dX3_faultInParts_33 rfl rfl (fun v18460 hv18460 => ?_)
      refine WQ_icmp_lt 49 dX3_faultInParts_35 rfl (fun c18460 => ?_) (fun c18460 => False.elim (by omega))
      refine WQ_iconst (0) (0) dX3_faultInParts_49 rfl rfl (fun v18462 hv18462 => ?_)
      refine WP_istore (ls' := [(0, _), (1, _), (2, _), (3, _), (4, _), (5, _), (6, _), (7, _)]) dX3_faultInParts_50 (by decide) rfl ?_
      refine WP_aload_n dX3_faultInParts_52 rfl ?_
      refine WP_getr dX3_faultInParts_53 fX3_15 rfl (lyx_is hy 3 3 rfl) (rfx hr 3 2 1 (by decide)) ?_
      refine WQ_geti dX3_faultInParts_56 fX3_43 rfl (lyx_is hy 1 5 rfl) (BT_get hI18446.1 1 2 3 (0) (0) (4) (by decide) 2 (by decide) (by decide)) (fun v18463 ev18463 av18463 bv18463 => ?_)
      refine WP_iload dX3_faultInParts_59 rfl ?_
      refine WQ_if_eq 68 dX3_faultInParts_61 rfl (fun c18463 => ?_) (fun c18463 => False.elim (by omega))
      refine WQ_iconst (2) (2) dX3_faultInParts_68 rfl rfl (fun v18465 hv18465 => ?_)
      refine WQ_icmp_eq 74 dX3_faultInParts_69 rfl (fun c18465 => ?_) (fun c18465 => ?_)
      · refine WP_iload dX3_faultInParts_74 rfl ?_
        refine WQ_if_eq 92 dX3_faultInParts_76 rfl (fun c18466 => ?_) (fun c18466 => False.elim (by omega))
        refine WP_aload_n dX3_faultInParts_92 rfl ?_
        refine WP_iload dX3_faultInParts_93 rfl ?_
        refine WP_iload_n dX3_faultInParts_95 rfl ?_
        refine WP_iload dX3_faultInParts_96 rfl ?_
        refine WP_aload_n dX3_faultInParts_98 rfl ?_
        refine WP_callV4 (k := 3) dX3_faultInParts_99 ⟨⟨⟨by decide, by decide⟩, zX3_faultOfNumber⟩, lX3_100, by decide, rfl, vX3_faultOfNumber.1, vX3_faultOfNumber.2⟩ (lyx_is hy 3 3 rfl) (sx_part_27_1_1 hy hr hI18446 v18459 cz v18454 (by omega) (by omega) (by omega) (by omega) (by omega) (by omega)) (Nat.le_of_ble_eq_true rfl) ?_
        intro r I18468 J18469 Ra hq
        obtain ⟨⟨hI18468, ec, fiI18468, fjI18468, ⟨pI18468, sI18468_4_0, sI18468_27_1, sI18468_27_2⟩⟩, v18470, rfl, av18470, bv18470, cv18470⟩ := hq
        show WP _ _ _ _ (.int _ :: _) _ _ _ _
        rw [ec]
        clear ec Ra
        have fr18471 : fz 74 g [1, 4] I I18468 := fz_tr fr18448 (fz_mono fiI18468 (by decide))
        have fr18472 : fz 74 g [1, 41] J J18469 := fz_tr fr18449 (fz_mono fjI18468 (by decide))
        have e18473 : I18468 (ad g 27) 1 = w18418 := by rw [sI18468_27_1]; exact e18450
        have e18474 : I18468 (ad g 27) 2 = w18419 := by rw [sI18468_27_2]; exact e18451
        have e18475 : I18468 (ad g 1) 1 = L := hI18468.2
        have b18476 := BT_get hI18468.1 1 1 2 (0) (0) (900) (by decide) 1 (by decide) (by decide)
        rw [e18475] at b18476
        obtain ⟨w18477, ew18477⟩ : ∃ w : Int32, I18468 (ad g 4) 1 = w := ⟨_, rfl⟩
        have bw18477 := BT_get hI18468.1 4 0 5 (0) (0) (1000) (by decide) 1 (by decide) (by decide)
        rw [ew18477] at bw18477
        rw [ew18477] at cv18470
        refine WP_istore (ls' := [(0, _), (1, _), (2, _), (3, _), (4, _), (5, _), (6, _), (7, _)]) dX3_faultInParts_102 (by decide) rfl ?_
        refine WP_iload dX3_faultInParts_104 rfl ?_
        refine WQ_if_eq 112 dX3_faultInParts_106 rfl (fun c18477 => ?_) (fun c18477 => ?_)
        · refine WP_aload_n dX3_faultInParts_112 rfl ?_
          refine WP_getr dX3_faultInParts_113 fX3_15 rfl (lyx_is hy 3 3 rfl) (rfx hr 3 2 1 (by decide)) ?_
          refine WP_callV0 (k := 5) dX3_faultInParts_116 ⟨⟨⟨by decide, by decide⟩, zX5_next⟩, lX3_40, by decide, rfl, vX5_next.1, vX5_next.2⟩ (lyx_is hy 1 5 rfl) (sx_nextf hy hr hI18468  ) (Nat.le_of_ble_eq_true rfl) ?_
          intro r I18479 J18480 Ra hq
          obtain ⟨⟨hI18479, ec, fiI18479, fjI18479⟩, rfl⟩ := hq
          rw [ec]
          clear ec Ra
          have fr18481 : fz 74 g [1, 4] I I18479 := fz_tr fr18471 (fz_mono fiI18479 (by decide))
          have fr18482 : fz 74 g [1, 41] J J18480 := fz_tr fr18472 (fz_mono fjI18479 (by decide))
          have e18483 : I18479 (ad g 27) 1 = w18418 := by rw [fz_at fiI18479 27 (by decide) (by decide)]; exact e18473
          have e18484 : I18479 (ad g 27) 2 = w18419 := by rw [fz_at fiI18479 27 (by decide) (by decide)]; exact e18474
          have e18485 : I18479 (ad g 4) 1 = w18477 := by rw [fz_at fiI18479 4 (by decide) (by decide)]; exact ew18477
          have e18486 : I18479 (ad g 1) 1 = L := hI18479.2
          have b18487 := BT_get hI18479.1 1 1 2 (0) (0) (900) (by decide) 1 (by decide) (by decide)
          rw [e18486] at b18487
          refine WP_iinc (ls' := [(0, _), (1, _), (2, _), (3, _), (4, _), (5, _), (6, _), (7, _)]) dX3_faultInParts_119 rfl (by decide) rfl ?_
          have hv18488 : (v18454 + Int32.ofInt (1)).toInt = v18454.toInt + (1) := ia_n rfl (by omega) (by omega)
          generalize v18454 + Int32.ofInt (1) = v18488 at hv18488 ⊢
          refine WP_goto 8 dX3_faultInParts_122 rfl ?_
          refine WP_iload dX3_faultInParts_8 rfl ?_
          refine WP_aload_n dX3_faultInParts_10 rfl ?_
          refine WS_call hz (i := 11) (by omega) dX3_faultInParts_11 ⟨⟨by decide, by decide⟩, zJ0_length_8abf5⟩ lX3_87 vJ0_length_8abf5 (As := []) (rest := [.int v18488]) (j_length hz (i := 11) (by omega)) rfl rfl (Nat.le_of_ble_eq_true rfl) ?_
          intro r Ia Ja Ra hq
          obtain ⟨⟨ea, eb, ec⟩, v18489, rfl, cv18489⟩ := hq
          show WP _ _ _ _ (.int _ :: _) _ _ _ _
          rw [ea, eb, ec]
          clear ea eb ec Ia Ja Ra
          have hv18489 : v18489.toInt = 4 := cv18489.trans rfl
          refine WQ_icmp_ge 125 dX3_faultInParts_14 rfl (fun c18489 => False.elim (by omega)) (fun c18489 => ?_)
          refine WP_iload dX3_faultInParts_17 rfl ?_
          refine WQ_iconst (5) (5) dX3_faultInParts_19 rfl rfl (fun v18491 hv18491 => ?_)
          refine WQ_icmp_ge 125 dX3_faultInParts_20 rfl (fun c18491 => False.elim (by omega)) (fun c18491 => ?_)
          refine WP_aload_n dX3_faultInParts_23 rfl ?_
          refine WP_iload dX3_faultInParts_24 rfl ?_
          refine WS_call hz (i := 11) (by omega) dX3_faultInParts_26 ⟨⟨by decide, by decide⟩, zJ0_charAt_5068e⟩ lX3_92 vJ0_charAt_5068e (As := [.int v18488]) (rest := []) (j_charAt hz (i := 11) (k := v18488) (by omega) (by omega) (by have z9 : ((liN.getD 11 0 : Nat) : Int) = 4 := rfl; omega)) rfl rfl (Nat.le_of_ble_eq_true rfl) ?_
          intro r Ia Ja Ra hq
          obtain ⟨⟨ea, eb, ec⟩, v18493, rfl, cv18493⟩ := hq
          show WP _ _ _ _ (.int _ :: _) _ _ _ _
          rw [ea, eb, ec]
          clear ea eb ec Ia Ja Ra
          have hv18493 : v18493.toInt = 72 := cv18493.trans (by rw [show v18488.toInt.toNat = 2 by omega]; rfl)
          refine WP_istore (ls' := [(0, _), (1, _), (2, _), (3, _), (4, _), (5, _), (6, _), (7, _)]) dX3_faultInParts_29 (by decide) rfl ?_
          refine WP_iload dX3_faultInParts_31 rfl ?_
          refine WQ_bipush (97) (97) dX3_faultInParts_33 rfl rfl (fun v18494 hv18494 => ?_)
          refine WQ_icmp_lt 49 dX3_faultInParts_35 rfl (fun c18494 => ?_) (fun c18494 => False.elim (by omega))
          refine WQ_iconst (0) (0) dX3_faultInParts_49 rfl rfl (fun v18496 hv18496 => ?_)
          refine WP_istore (ls' := [(0, _), (1, _), (2, _), (3, _), (4, _), (5, _), (6, _), (7, _)]) dX3_faultInParts_50 (by decide) rfl ?_
          refine WP_aload_n dX3_faultInParts_52 rfl ?_
          refine WP_getr dX3_faultInParts_53 fX3_15 rfl (lyx_is hy 3 3 rfl) (rfx hr 3 2 1 (by decide)) ?_
          refine WQ_geti dX3_faultInParts_56 fX3_43 rfl (lyx_is hy 1 5 rfl) (BT_get hI18479.1 1 2 3 (0) (0) (4) (by decide) 2 (by decide) (by decide)) (fun v18497 ev18497 av18497 bv18497 => ?_)
          refine WP_iload dX3_faultInParts_59 rfl ?_
          refine WQ_if_eq 68 dX3_faultInParts_61 rfl (fun c18497 => ?_) (fun c18497 => False.elim (by omega))
          refine WQ_iconst (2) (2) dX3_faultInParts_68 rfl rfl (fun v18499 hv18499 => ?_)
          refine WQ_icmp_eq 74 dX3_faultInParts_69 rfl (fun c18499 => ?_) (fun c18499 => ?_)
          · refine WP_iload dX3_faultInParts_74 rfl ?_
            refine WQ_if_eq 92 dX3_faultInParts_76 rfl (fun c18500 => ?_) (fun c18500 => False.elim (by omega))
            refine WP_aload_n dX3_faultInParts_92 rfl ?_
            refine WP_iload dX3_faultInParts_93 rfl ?_
            refine WP_iload_n dX3_faultInParts_95 rfl ?_
            refine WP_iload dX3_faultInParts_96 rfl ?_
            refine WP_aload_n dX3_faultInParts_98 rfl ?_
            refine WP_callV4 (k := 3) dX3_faultInParts_99 ⟨⟨⟨by decide, by decide⟩, zX3_faultOfNumber⟩, lX3_100, by decide, rfl, vX3_faultOfNumber.1, vX3_faultOfNumber.2⟩ (lyx_is hy 3 3 rfl) (sx_part_27_1_2 hy hr hI18479 v18493 cz v18488 (by omega) (by omega) (by omega) (by omega) (by omega) (by omega)) (Nat.le_of_ble_eq_true rfl) ?_
            intro r I18502 J18503 Ra hq
            obtain ⟨⟨hI18502, ec, fiI18502, fjI18502, ⟨pI18502, sI18502_4_0, sI18502_4_1, sI18502_27_1, sI18502_27_2⟩⟩, v18504, rfl, av18504, bv18504, cv18504⟩ := hq
            show WP _ _ _ _ (.int _ :: _) _ _ _ _
            rw [ec]
            clear ec Ra
            have fr18505 : fz 74 g [1, 4] I I18502 := fz_tr fr18481 (fz_mono fiI18502 (by decide))
            have fr18506 : fz 74 g [1, 41] J J18503 := fz_tr fr18482 (fz_mono fjI18502 (by decide))
            have e18507 : I18502 (ad g 4) 1 = w18477 := by rw [sI18502_4_1]; exact e18485
            have e18508 : I18502 (ad g 27) 1 = w18418 := by rw [sI18502_27_1]; exact e18483
            have e18509 : I18502 (ad g 27) 2 = w18419 := by rw [sI18502_27_2]; exact e18484
            have e18510 : I18502 (ad g 1) 1 = L := hI18502.2
            have b18511 := BT_get hI18502.1 1 1 2 (0) (0) (900) (by decide) 1 (by decide) (by decide)
            rw [e18510] at b18511
            obtain ⟨w18512, ew18512⟩ : ∃ w : Int32, I18502 (ad g 4) 2 = w := ⟨_, rfl⟩
            have bw18512 := BT_get hI18502.1 4 0 5 (0) (0) (1000) (by decide) 2 (by decide) (by decide)
            rw [ew18512] at bw18512
            rw [ew18512] at cv18504
            refine WP_istore (ls' := [(0, _), (1, _), (2, _), (3, _), (4, _), (5, _), (6, _), (7, _)]) dX3_faultInParts_102 (by decide) rfl ?_
            refine WP_iload dX3_faultInParts_104 rfl ?_
            refine WQ_if_eq 112 dX3_faultInParts_106 rfl (fun c18512 => ?_) (fun c18512 => ?_)
            · refine WP_aload_n dX3_faultInParts_112 rfl ?_
              refine WP_getr dX3_faultInParts_113 fX3_15 rfl (lyx_is hy 3 3 rfl) (rfx hr 3 2 1 (by decide)) ?_
              refine WP_callV0 (k := 5) dX3_faultInParts_116 ⟨⟨⟨by decide, by decide⟩, zX5_next⟩, lX3_40, by decide, rfl, vX5_next.1, vX5_next.2⟩ (lyx_is hy 1 5 rfl) (sx_nextf hy hr hI18502  ) (Nat.le_of_ble_eq_true rfl) ?_
              intro r I18514 J18515 Ra hq
              obtain ⟨⟨hI18514, ec, fiI18514, fjI18514⟩, rfl⟩ := hq
              rw [ec]
              clear ec Ra
              have fr18516 : fz 74 g [1, 4] I I18514 := fz_tr fr18505 (fz_mono fiI18514 (by decide))
              have fr18517 : fz 74 g [1, 41] J J18515 := fz_tr fr18506 (fz_mono fjI18514 (by decide))
              have e18518 : I18514 (ad g 4) 1 = w18477 := by rw [fz_at fiI18514 4 (by decide) (by decide)]; exact e18507
              have e18519 : I18514 (ad g 27) 1 = w18418 := by rw [fz_at fiI18514 27 (by decide) (by decide)]; exact e18508
              have e18520 : I18514 (ad g 27) 2 = w18419 := by rw [fz_at fiI18514 27 (by decide) (by decide)]; exact e18509
              have e18521 : I18514 (ad g 4) 2 = w18512 := by rw [fz_at fiI18514 4 (by decide) (by decide)]; exact ew18512
              have e18522 : I18514 (ad g 1) 1 = L := hI18514.2
              have b18523 := BT_get hI18514.1 1 1 2 (0) (0) (900) (by decide) 1 (by decide) (by decide)
              rw [e18522] at b18523
              refine WP_iinc (ls' := [(0, _), (1, _), (2, _), (3, _), (4, _), (5, _), (6, _), (7, _)]) dX3_faultInParts_119 rfl (by decide) rfl ?_
              have hv18524 : (v18488 + Int32.ofInt (1)).toInt = v18488.toInt + (1) := ia_n rfl (by omega) (by omega)
              generalize v18488 + Int32.ofInt (1) = v18524 at hv18524 ⊢
              refine WP_goto 8 dX3_faultInParts_122 rfl ?_
              refine WP_iload dX3_faultInParts_8 rfl ?_
              refine WP_aload_n dX3_faultInParts_10 rfl ?_
              refine WS_call hz (i := 11) (by omega) dX3_faultInParts_11 ⟨⟨by decide, by decide⟩, zJ0_length_8abf5⟩ lX3_87 vJ0_length_8abf5 (As := []) (rest := [.int v18524]) (j_length hz (i := 11) (by omega)) rfl rfl (Nat.le_of_ble_eq_true rfl) ?_
              intro r Ia Ja Ra hq
              obtain ⟨⟨ea, eb, ec⟩, v18525, rfl, cv18525⟩ := hq
              show WP _ _ _ _ (.int _ :: _) _ _ _ _
              rw [ea, eb, ec]
              clear ea eb ec Ia Ja Ra
              have hv18525 : v18525.toInt = 4 := cv18525.trans rfl
              refine WQ_icmp_ge 125 dX3_faultInParts_14 rfl (fun c18525 => False.elim (by omega)) (fun c18525 => ?_)
              refine WP_iload dX3_faultInParts_17 rfl ?_
              refine WQ_iconst (5) (5) dX3_faultInParts_19 rfl rfl (fun v18527 hv18527 => ?_)
              refine WQ_icmp_ge 125 dX3_faultInParts_20 rfl (fun c18527 => False.elim (by omega)) (fun c18527 => ?_)
              refine WP_aload_n dX3_faultInParts_23 rfl ?_
              refine WP_iload dX3_faultInParts_24 rfl ?_
              refine WS_call hz (i := 11) (by omega) dX3_faultInParts_26 ⟨⟨by decide, by decide⟩, zJ0_charAt_5068e⟩ lX3_92 vJ0_charAt_5068e (As := [.int v18524]) (rest := []) (j_charAt hz (i := 11) (k := v18524) (by omega) (by omega) (by have z9 : ((liN.getD 11 0 : Nat) : Int) = 4 := rfl; omega)) rfl rfl (Nat.le_of_ble_eq_true rfl) ?_
              intro r Ia Ja Ra hq
              obtain ⟨⟨ea, eb, ec⟩, v18529, rfl, cv18529⟩ := hq
              show WP _ _ _ _ (.int _ :: _) _ _ _ _
              rw [ea, eb, ec]
              clear ea eb ec Ia Ja Ra
              have hv18529 : v18529.toInt = 67 := cv18529.trans (by rw [show v18524.toInt.toNat = 3 by omega]; rfl)
              refine WP_istore (ls' := [(0, _), (1, _), (2, _), (3, _), (4, _), (5, _), (6, _), (7, _)]) dX3_faultInParts_29 (by decide) rfl ?_
              refine WP_iload dX3_faultInParts_31 rfl ?_
              refine WQ_bipush (97) (97) dX3_faultInParts_33 rfl rfl (fun v18530 hv18530 => ?_)
              refine WQ_icmp_lt 49 dX3_faultInParts_35 rfl (fun c18530 => ?_) (fun c18530 => False.elim (by omega))
              refine WQ_iconst (0) (0) dX3_faultInParts_49 rfl rfl (fun v18532 hv18532 => ?_)
              refine WP_istore (ls' := [(0, _), (1, _), (2, _), (3, _), (4, _), (5, _), (6, _), (7, _)]) dX3_faultInParts_50 (by decide) rfl ?_
              refine WP_aload_n dX3_faultInParts_52 rfl ?_
              refine WP_getr dX3_faultInParts_53 fX3_15 rfl (lyx_is hy 3 3 rfl) (rfx hr 3 2 1 (by decide)) ?_
              refine WQ_geti dX3_faultInParts_56 fX3_43 rfl (lyx_is hy 1 5 rfl) (BT_get hI18514.1 1 2 3 (0) (0) (4) (by decide) 2 (by decide) (by decide)) (fun v18533 ev18533 av18533 bv18533 => ?_)
              refine WP_iload dX3_faultInParts_59 rfl ?_
              refine WQ_if_eq 68 dX3_faultInParts_61 rfl (fun c18533 => ?_) (fun c18533 => False.elim (by omega))
              refine WQ_iconst (2) (2) dX3_faultInParts_68 rfl rfl (fun v18535 hv18535 => ?_)
              refine WQ_icmp_eq 74 dX3_faultInParts_69 rfl (fun c18535 => ?_) (fun c18535 => ?_)
              · refine WP_iload dX3_faultInParts_74 rfl ?_
                refine WQ_if_eq 92 dX3_faultInParts_76 rfl (fun c18536 => ?_) (fun c18536 => False.elim (by omega))
                refine WP_aload_n dX3_faultInParts_92 rfl ?_
                refine WP_iload dX3_faultInParts_93 rfl ?_
                refine WP_iload_n dX3_faultInParts_95 rfl ?_
                refine WP_iload dX3_faultInParts_96 rfl ?_
                refine WP_aload_n dX3_faultInParts_98 rfl ?_
                refine WP_callV4 (k := 3) dX3_faultInParts_99 ⟨⟨⟨by decide, by decide⟩, zX3_faultOfNumber⟩, lX3_100, by decide, rfl, vX3_faultOfNumber.1, vX3_faultOfNumber.2⟩ (lyx_is hy 3 3 rfl) (sx_part_27_1_3 hy hr hI18514 v18529 cz v18524 (by omega) (by omega) (by omega) (by omega) (by omega) (by omega)) (Nat.le_of_ble_eq_true rfl) ?_
                intro r I18538 J18539 Ra hq
                obtain ⟨⟨hI18538, ec, fiI18538, fjI18538, ⟨pI18538, sI18538_4_0, sI18538_4_1, sI18538_4_2, sI18538_27_1, sI18538_27_2⟩⟩, v18540, rfl, av18540, bv18540, cv18540⟩ := hq
                show WP _ _ _ _ (.int _ :: _) _ _ _ _
                rw [ec]
                clear ec Ra
                have fr18541 : fz 74 g [1, 4] I I18538 := fz_tr fr18516 (fz_mono fiI18538 (by decide))
                have fr18542 : fz 74 g [1, 41] J J18539 := fz_tr fr18517 (fz_mono fjI18538 (by decide))
                have e18543 : I18538 (ad g 4) 1 = w18477 := by rw [sI18538_4_1]; exact e18518
                have e18544 : I18538 (ad g 4) 2 = w18512 := by rw [sI18538_4_2]; exact e18521
                have e18545 : I18538 (ad g 27) 1 = w18418 := by rw [sI18538_27_1]; exact e18519
                have e18546 : I18538 (ad g 27) 2 = w18419 := by rw [sI18538_27_2]; exact e18520
                have e18547 : I18538 (ad g 1) 1 = L := hI18538.2
                have b18548 := BT_get hI18538.1 1 1 2 (0) (0) (900) (by decide) 1 (by decide) (by decide)
                rw [e18547] at b18548
                obtain ⟨w18549, ew18549⟩ : ∃ w : Int32, I18538 (ad g 4) 3 = w := ⟨_, rfl⟩
                have bw18549 := BT_get hI18538.1 4 0 5 (0) (0) (1000) (by decide) 3 (by decide) (by decide)
                rw [ew18549] at bw18549
                rw [ew18549] at cv18540
                refine WP_istore (ls' := [(0, _), (1, _), (2, _), (3, _), (4, _), (5, _), (6, _), (7, _)]) dX3_faultInParts_102 (by decide) rfl ?_
                refine WP_iload dX3_faultInParts_104 rfl ?_
                refine WQ_if_eq 112 dX3_faultInParts_106 rfl (fun c18549 => ?_) (fun c18549 => ?_)
                · refine WP_aload_n dX3_faultInParts_112 rfl ?_
                  refine WP_getr dX3_faultInParts_113 fX3_15 rfl (lyx_is hy 3 3 rfl) (rfx hr 3 2 1 (by decide)) ?_
                  refine WP_callV0 (k := 5) dX3_faultInParts_116 ⟨⟨⟨by decide, by decide⟩, zX5_next⟩, lX3_40, by decide, rfl, vX5_next.1, vX5_next.2⟩ (lyx_is hy 1 5 rfl) (sx_nextf hy hr hI18538  ) (Nat.le_of_ble_eq_true rfl) ?_
                  intro r I18551 J18552 Ra hq
                  obtain ⟨⟨hI18551, ec, fiI18551, fjI18551⟩, rfl⟩ := hq
                  rw [ec]
                  clear ec Ra
                  have fr18553 : fz 74 g [1, 4] I I18551 := fz_tr fr18541 (fz_mono fiI18551 (by decide))
                  have fr18554 : fz 74 g [1, 41] J J18552 := fz_tr fr18542 (fz_mono fjI18551 (by decide))
                  have e18555 : I18551 (ad g 4) 1 = w18477 := by rw [fz_at fiI18551 4 (by decide) (by decide)]; exact e18543
                  have e18556 : I18551 (ad g 4) 2 = w18512 := by rw [fz_at fiI18551 4 (by decide) (by decide)]; exact e18544
                  have e18557 : I18551 (ad g 27) 1 = w18418 := by rw [fz_at fiI18551 27 (by decide) (by decide)]; exact e18545
                  have e18558 : I18551 (ad g 27) 2 = w18419 := by rw [fz_at fiI18551 27 (by decide) (by decide)]; exact e18546
                  have e18559 : I18551 (ad g 4) 3 = w18549 := by rw [fz_at fiI18551 4 (by decide) (by decide)]; exact ew18549
                  have e18560 : I18551 (ad g 1) 1 = L := hI18551.2
                  have b18561 := BT_get hI18551.1 1 1 2 (0) (0) (900) (by decide) 1 (by decide) (by decide)
                  rw [e18560] at b18561
                  refine WP_iinc (ls' := [(0, _), (1, _), (2, _), (3, _), (4, _), (5, _), (6, _), (7, _)]) dX3_faultInParts_119 rfl (by decide) rfl ?_
                  have hv18562 : (v18524 + Int32.ofInt (1)).toInt = v18524.toInt + (1) := ia_n rfl (by omega) (by omega)
                  generalize v18524 + Int32.ofInt (1) = v18562 at hv18562 ⊢
                  refine WP_goto 8 dX3_faultInParts_122 rfl ?_
                  refine WP_iload dX3_faultInParts_8 rfl ?_
                  refine WP_aload_n dX3_faultInParts_10 rfl ?_
                  refine WS_call hz (i := 11) (by omega) dX3_faultInParts_11 ⟨⟨by decide, by decide⟩, zJ0_length_8abf5⟩ lX3_87 vJ0_length_8abf5 (As := []) (rest := [.int v18562]) (j_length hz (i := 11) (by omega)) rfl rfl (Nat.le_of_ble_eq_true rfl) ?_
                  intro r Ia Ja Ra hq
                  obtain ⟨⟨ea, eb, ec⟩, v18563, rfl, cv18563⟩ := hq
                  show WP _ _ _ _ (.int _ :: _) _ _ _ _
                  rw [ea, eb, ec]
                  clear ea eb ec Ia Ja Ra
                  have hv18563 : v18563.toInt = 4 := cv18563.trans rfl
                  refine WQ_icmp_ge 125 dX3_faultInParts_14 rfl (fun c18563 => ?_) (fun c18563 => False.elim (by omega))
                  refine WP_aload_n dX3_faultInParts_125 rfl ?_
                  refine WP_getr dX3_faultInParts_126 fX3_15 rfl (lyx_is hy 3 3 rfl) (rfx hr 3 2 1 (by decide)) ?_
                  refine WQ_geti dX3_faultInParts_129 fX3_43 rfl (lyx_is hy 1 5 rfl) (BT_get hI18551.1 1 2 3 (0) (0) (4) (by decide) 2 (by decide) (by decide)) (fun v18565 ev18565 av18565 bv18565 => ?_)
                  refine WQ_iconst (3) (3) dX3_faultInParts_132 rfl rfl (fun v18566 hv18566 => ?_)
                  refine WQ_icmp_ne 140 dX3_faultInParts_133 rfl (fun c18566 => ?_) (fun c18566 => ?_)
                  · refine WQ_iconst (1) (1) dX3_faultInParts_140 rfl rfl (fun v18568 hv18568 => ?_)
                    exact WP_iret dX3_faultInParts_141 rfl ⟨⟨hI18551, rfl, fr18553, fr18554, ⟨trivial, (by rw [e18557, ew18418] <;> exact (eq32 _ _).mpr (by omega)), (by rw [e18558, ew18419] <;> exact (eq32 _ _).mpr (by omega))⟩⟩, _, rfl, by omega, by omega, by (try rw [e18555]; try rw [e18556]; try rw [e18559]); omega⟩
                  · refine WQ_iconst (0) (0) dX3_faultInParts_136 rfl rfl (fun v18569 hv18569 => ?_)
                    refine WP_goto 141 dX3_faultInParts_137 rfl ?_
                    exact WP_iret dX3_faultInParts_141 rfl ⟨⟨hI18551, rfl, fr18553, fr18554, ⟨trivial, (by rw [e18557, ew18418] <;> exact (eq32 _ _).mpr (by omega)), (by rw [e18558, ew18419] <;> exact (eq32 _ _).mpr (by omega))⟩⟩, _, rfl, by omega, by omega, by (try rw [e18555]; try rw [e18556]; try rw [e18559]); omega⟩
                · refine WP_iload dX3_faultInParts_109 rfl ?_
                  exact WP_iret dX3_faultInParts_111 rfl ⟨⟨hI18538, rfl, fr18541, fr18542, ⟨trivial, (by rw [e18545, ew18418] <;> exact (eq32 _ _).mpr (by omega)), (by rw [e18546, ew18419] <;> exact (eq32 _ _).mpr (by omega))⟩⟩, _, rfl, by omega, by omega, by (try rw [e18543]; try rw [e18544]; try rw [ew18549]); omega⟩
              · refine WQ_iconst (1) (1) dX3_faultInParts_72 rfl rfl (fun v18570 hv18570 => ?_)
                obtain ⟨w18571, ew18571⟩ : ∃ w : Int32, I18514 (ad g 4) 3 = w := ⟨_, rfl⟩
                have bw18571 := BT_get hI18514.1 4 0 5 (0) (0) (1000) (by decide) 3 (by decide) (by decide)
                rw [ew18571] at bw18571
                exact WP_iret dX3_faultInParts_73 rfl ⟨⟨hI18514, rfl, fr18516, fr18517, ⟨trivial, (by rw [e18519, ew18418] <;> exact (eq32 _ _).mpr (by omega)), (by rw [e18520, ew18419] <;> exact (eq32 _ _).mpr (by omega))⟩⟩, _, rfl, by omega, by omega, by (try rw [e18518]; try rw [e18521]; try rw [ew18571]); omega⟩
            · refine WP_iload dX3_faultInParts_109 rfl ?_
              obtain ⟨w18572, ew18572⟩ : ∃ w : Int32, I18502 (ad g 4) 3 = w := ⟨_, rfl⟩
              have bw18572 := BT_get hI18502.1 4 0 5 (0) (0) (1000) (by decide) 3 (by decide) (by decide)
              rw [ew18572] at bw18572
              exact WP_iret dX3_faultInParts_111 rfl ⟨⟨hI18502, rfl, fr18505, fr18506, ⟨trivial, (by rw [e18508, ew18418] <;> exact (eq32 _ _).mpr (by omega)), (by rw [e18509, ew18419] <;> exact (eq32 _ _).mpr (by omega))⟩⟩, _, rfl, by omega, by omega, by (try rw [e18507]; try rw [ew18512]; try rw [ew18572]); omega⟩
          · refine WQ_iconst (1) (1) dX3_faultInParts_72 rfl rfl (fun v18573 hv18573 => ?_)
            obtain ⟨w18574, ew18574⟩ : ∃ w : Int32, I18479 (ad g 4) 2 = w := ⟨_, rfl⟩
            have bw18574 := BT_get hI18479.1 4 0 5 (0) (0) (1000) (by decide) 2 (by decide) (by decide)
            rw [ew18574] at bw18574
            obtain ⟨w18575, ew18575⟩ : ∃ w : Int32, I18479 (ad g 4) 3 = w := ⟨_, rfl⟩
            have bw18575 := BT_get hI18479.1 4 0 5 (0) (0) (1000) (by decide) 3 (by decide) (by decide)
            rw [ew18575] at bw18575
            exact WP_iret dX3_faultInParts_73 rfl ⟨⟨hI18479, rfl, fr18481, fr18482, ⟨trivial, (by rw [e18483, ew18418] <;> exact (eq32 _ _).mpr (by omega)), (by rw [e18484, ew18419] <;> exact (eq32 _ _).mpr (by omega))⟩⟩, _, rfl, by omega, by omega, by (try rw [e18485]; try rw [ew18574]; try rw [ew18575]); omega⟩
        · refine WP_iload dX3_faultInParts_109 rfl ?_
          obtain ⟨w18576, ew18576⟩ : ∃ w : Int32, I18468 (ad g 4) 2 = w := ⟨_, rfl⟩
          have bw18576 := BT_get hI18468.1 4 0 5 (0) (0) (1000) (by decide) 2 (by decide) (by decide)
          rw [ew18576] at bw18576
          obtain ⟨w18577, ew18577⟩ : ∃ w : Int32, I18468 (ad g 4) 3 = w := ⟨_, rfl⟩
          have bw18577 := BT_get hI18468.1 4 0 5 (0) (0) (1000) (by decide) 3 (by decide) (by decide)
          rw [ew18577] at bw18577
          exact WP_iret dX3_faultInParts_111 rfl ⟨⟨hI18468, rfl, fr18471, fr18472, ⟨trivial, (by rw [e18473, ew18418] <;> exact (eq32 _ _).mpr (by omega)), (by rw [e18474, ew18419] <;> exact (eq32 _ _).mpr (by omega))⟩⟩, _, rfl, by omega, by omega, by (try rw [ew18477]; try rw [ew18576]; try rw [ew18577]); omega⟩
      · refine WQ_iconst (1) (1) dX3_faultInParts_72 rfl rfl (fun v18578 hv18578 => ?_)
        obtain ⟨w18579, ew18579⟩ : ∃ w : Int32, I18446 (ad g 4) 1 = w := ⟨_, rfl⟩
        have bw18579 := BT_get hI18446.1 4 0 5 (0) (0) (1000) (by decide) 1 (by decide) (by decide)
        rw [ew18579] at bw18579
        obtain ⟨w18580, ew18580⟩ : ∃ w : Int32, I18446 (ad g 4) 2 = w := ⟨_, rfl⟩
        have bw18580 := BT_get hI18446.1 4 0 5 (0) (0) (1000) (by decide) 2 (by decide) (by decide)
        rw [ew18580] at bw18580
        obtain ⟨w18581, ew18581⟩ : ∃ w : Int32, I18446 (ad g 4) 3 = w := ⟨_, rfl⟩
        have bw18581 := BT_get hI18446.1 4 0 5 (0) (0) (1000) (by decide) 3 (by decide) (by decide)
        rw [ew18581] at bw18581
        exact WP_iret dX3_faultInParts_73 rfl ⟨⟨hI18446, rfl, fr18448, fr18449, ⟨trivial, (by rw [e18450, ew18418] <;> exact (eq32 _ _).mpr (by omega)), (by rw [e18451, ew18419] <;> exact (eq32 _ _).mpr (by omega))⟩⟩, _, rfl, by omega, by omega, by (try rw [ew18579]; try rw [ew18580]; try rw [ew18581]); omega⟩
    · refine WP_iload dX3_faultInParts_109 rfl ?_
      obtain ⟨w18582, ew18582⟩ : ∃ w : Int32, I18436 (ad g 4) 1 = w := ⟨_, rfl⟩
      have bw18582 := BT_get hI18436.1 4 0 5 (0) (0) (1000) (by decide) 1 (by decide) (by decide)
      rw [ew18582] at bw18582
      obtain ⟨w18583, ew18583⟩ : ∃ w : Int32, I18436 (ad g 4) 2 = w := ⟨_, rfl⟩
      have bw18583 := BT_get hI18436.1 4 0 5 (0) (0) (1000) (by decide) 2 (by decide) (by decide)
      rw [ew18583] at bw18583
      obtain ⟨w18584, ew18584⟩ : ∃ w : Int32, I18436 (ad g 4) 3 = w := ⟨_, rfl⟩
      have bw18584 := BT_get hI18436.1 4 0 5 (0) (0) (1000) (by decide) 3 (by decide) (by decide)
      rw [ew18584] at bw18584
      exact WP_iret dX3_faultInParts_111 rfl ⟨⟨hI18436, rfl, fr18439, fr18440, ⟨trivial, (by rw [e18441, ew18418] <;> exact (eq32 _ _).mpr (by omega)), (by rw [e18442, ew18419] <;> exact (eq32 _ _).mpr (by omega))⟩⟩, _, rfl, by omega, by omega, by (try rw [ew18582]; try rw [ew18583]; try rw [ew18584]); omega⟩
  · refine WQ_iconst (1) (1) dX3_faultInParts_72 rfl rfl (fun v18585 hv18585 => ?_)
    obtain ⟨w18586, ew18586⟩ : ∃ w : Int32, I (ad g 4) 1 = w := ⟨_, rfl⟩
    have bw18586 := BT_get hI.1 4 0 5 (0) (0) (1000) (by decide) 1 (by decide) (by decide)
    rw [ew18586] at bw18586
    obtain ⟨w18587, ew18587⟩ : ∃ w : Int32, I (ad g 4) 2 = w := ⟨_, rfl⟩
    have bw18587 := BT_get hI.1 4 0 5 (0) (0) (1000) (by decide) 2 (by decide) (by decide)
    rw [ew18587] at bw18587
    obtain ⟨w18588, ew18588⟩ : ∃ w : Int32, I (ad g 4) 3 = w := ⟨_, rfl⟩
    have bw18588 := BT_get hI.1 4 0 5 (0) (0) (1000) (by decide) 3 (by decide) (by decide)
    rw [ew18588] at bw18588
    exact WP_iret dX3_faultInParts_73 rfl ⟨⟨hI, rfl, fr0, frj0, ⟨trivial, rfl, rfl⟩⟩, _, rfl, by omega, by omega, by (try rw [ew18586]; try rw [ew18587]; try rw [ew18588]); omega⟩
set_option maxHeartbeats 4000000 in
set_option maxRecDepth 100000 in
theorem sx_parts_27_2 {g : GG} {n : Int} {L : Int32} (hy : LyX g) {aK aV : Nat → Nat} {fo : Option Nat} (hz : HZ g aK aV fo)  {I : pI} {J : pJ} {R : pR} (hr : RfX g R) (hI : XI g n L I) (cz : Int32) (cz_lo : 2 ≤ cz.toInt) (cz_hi : cz.toInt ≤ 2) (hb : (I (ad g 27) 2).toInt ≤ 2) : SP g mX3_faultInParts [.ref (ad g 3), .int cz, .ref (ad g 27)] I J R (fun r I' J' R' => (XI g n L I' ∧ R' = R ∧ fz 74 g [1, 4] I I' ∧ fz 74 g [1, 41] J J' ∧ True ∧ I' (ad g 27) 1 = I (ad g 27) 1 ∧ I' (ad g 27) 2 = I (ad g 27) 2) ∧ ∃ v : Int32, r = some (.int v) ∧ 0 ≤ v.toInt ∧ v.toInt ≤ 5 ∧ (v.toInt = 0 → (I' (ad g 4) 1).toInt ≤ 1000 ∧ (I' (ad g 4) 2).toInt ≤ 9)) := by
  refine SP_of ⟨by decide, rfl⟩ (Nat.le_of_ble_eq_true rfl) ?_
  have e18589 : I (ad g 1) 1 = L := hI.2
  have b18590 := BT_get hI.1 1 1 2 (0) (0) (900) (by decide) 1 (by decide) (by decide)
  rw [e18589] at b18590
  have fr0 : fz 74 g [1, 4] I I := fz_rf
  have frj0 : fz 74 g [1, 41] J J := fz_rf
  obtain ⟨w18591, ew18591⟩ : ∃ w : Int32, I (ad g 27) 1 = w := ⟨_, rfl⟩
  have bw18591 := BT_get hI.1 27 1 2 (0) (0) (4) (by decide) 1 (by decide) (by decide)
  rw [ew18591] at bw18591
  obtain ⟨w18592, ew18592⟩ : ∃ w : Int32, I (ad g 27) 2 = w := ⟨_, rfl⟩
  have bw18592 := BT_get hI.1 27 2 3 (0) (0) (3) (by decide) 2 (by decide) (by decide)
  rw [ew18592] at bw18592
  rw [ew18592] at hb
  refine WP_iload_n dX3_faultInParts_0 rfl ?_
  refine WP_callS1 dX3_faultInParts_1 ⟨⟨⟨by decide, by decide⟩, zX3_shapeOf⟩, lX3_84, tX3_shapeOf⟩ (sx_shapeOf hy hz hr hI cz (by omega) (by omega)) (Nat.le_of_ble_eq_true rfl) ?_
  intro r Ia Ja Ra hq
  obtain ⟨⟨ea, eb, ec⟩, rfl⟩ := hq
  show WP _ _ _ _ (.ref _ :: _) _ _ _ _
  rw [show 10 + cz.toInt.toNat = 12 by omega]
  rw [ea, eb, ec]
  clear ea eb ec Ia Ja Ra
  refine WP_astore_n (ls' := [(0, _), (1, _), (2, _), (3, _)]) dX3_faultInParts_4 (by decide) rfl ?_
  refine WQ_iconst (0) (0) dX3_faultInParts_5 rfl rfl (fun v18593 hv18593 => ?_)
  refine WP_istore (ls' := [(0, _), (1, _), (2, _), (3, _), (4, _)]) dX3_faultInParts_6 (by decide) rfl ?_
  refine WP_iload dX3_faultInParts_8 rfl ?_
  refine WP_aload_n dX3_faultInParts_10 rfl ?_
  refine WS_call hz (i := 12) (by omega) dX3_faultInParts_11 ⟨⟨by decide, by decide⟩, zJ0_length_8abf5⟩ lX3_87 vJ0_length_8abf5 (As := []) (rest := [.int v18593]) (j_length hz (i := 12) (by omega)) rfl rfl (Nat.le_of_ble_eq_true rfl) ?_
  intro r Ia Ja Ra hq
  obtain ⟨⟨ea, eb, ec⟩, v18594, rfl, cv18594⟩ := hq
  show WP _ _ _ _ (.int _ :: _) _ _ _ _
  rw [ea, eb, ec]
  clear ea eb ec Ia Ja Ra
  have hv18594 : v18594.toInt = 3 := cv18594.trans rfl
  refine WQ_icmp_ge 125 dX3_faultInParts_14 rfl (fun c18594 => False.elim (by omega)) (fun c18594 => ?_)
  refine WP_iload dX3_faultInParts_17 rfl ?_
  refine WQ_iconst (5) (5) dX3_faultInParts_19 rfl rfl (fun v18596 hv18596 => ?_)
  refine WQ_icmp_ge 125 dX3_faultInParts_20 rfl (fun c18596 => False.elim (by omega)) (fun c18596 => ?_)
  refine WP_aload_n dX3_faultInParts_23 rfl ?_
  refine WP_iload dX3_faultInParts_24 rfl ?_
  refine WS_call hz (i := 12) (by omega) dX3_faultInParts_26 ⟨⟨by decide, by decide⟩, zJ0_charAt_5068e⟩ lX3_92 vJ0_charAt_5068e (As := [.int v18593]) (rest := []) (j_charAt hz (i := 12) (k := v18593) (by omega) (by omega) (by have z9 : ((liN.getD 12 0 : Nat) : Int) = 3 := rfl; omega)) rfl rfl (Nat.le_of_ble_eq_true rfl) ?_
  intro r Ia Ja Ra hq
  obtain ⟨⟨ea, eb, ec⟩, v18598, rfl, cv18598⟩ := hq
  show WP _ _ _ _ (.int _ :: _) _ _ _ _
  rw [ea, eb, ec]
  clear ea eb ec Ia Ja Ra
  have hv18598 : v18598.toInt = 109 := cv18598.trans (by rw [show v18593.toInt.toNat = 0 by omega]; rfl)
  refine WP_istore (ls' := [(0, _), (1, _), (2, _), (3, _), (4, _), (5, _)]) dX3_faultInParts_29 (by decide) rfl ?_
  refine WP_iload dX3_faultInParts_31 rfl ?_
  refine WQ_bipush (97) (97) dX3_faultInParts_33 rfl rfl (fun v18599 hv18599 => ?_)
  refine WQ_icmp_lt 49 dX3_faultInParts_35 rfl (fun c18599 => False.elim (by omega)) (fun c18599 => ?_)
  refine WP_iload dX3_faultInParts_38 rfl ?_
  refine WQ_bipush (122) (122) dX3_faultInParts_40 rfl rfl (fun v18601 hv18601 => ?_)
  refine WQ_icmp_gt 49 dX3_faultInParts_42 rfl (fun c18601 => False.elim (by omega)) (fun c18601 => ?_)
  refine WQ_iconst (1) (1) dX3_faultInParts_45 rfl rfl (fun v18603 hv18603 => ?_)
  refine WP_goto 50 dX3_faultInParts_46 rfl ?_
  refine WP_istore (ls' := [(0, _), (1, _), (2, _), (3, _), (4, _), (5, _), (6, _)]) dX3_faultInParts_50 (by decide) rfl ?_
  refine WP_aload_n dX3_faultInParts_52 rfl ?_
  refine WP_getr dX3_faultInParts_53 fX3_15 rfl (lyx_is hy 3 3 rfl) (rfx hr 3 2 1 (by decide)) ?_
  refine WQ_geti dX3_faultInParts_56 fX3_43 rfl (lyx_is hy 1 5 rfl) (BT_get hI.1 1 2 3 (0) (0) (4) (by decide) 2 (by decide) (by decide)) (fun v18604 ev18604 av18604 bv18604 => ?_)
  refine WP_iload dX3_faultInParts_59 rfl ?_
  refine WQ_if_eq 68 dX3_faultInParts_61 rfl (fun c18604 => False.elim (by omega)) (fun c18604 => ?_)
  refine WQ_iconst (1) (1) dX3_faultInParts_64 rfl rfl (fun v18606 hv18606 => ?_)
  refine WP_goto 69 dX3_faultInParts_65 rfl ?_
  refine WQ_icmp_eq 74 dX3_faultInParts_69 rfl (fun c18606 => ?_) (fun c18606 => ?_)
  · refine WP_iload dX3_faultInParts_74 rfl ?_
    refine WQ_if_eq 92 dX3_faultInParts_76 rfl (fun c18607 => False.elim (by omega)) (fun c18607 => ?_)
    refine WP_aload_n dX3_faultInParts_79 rfl ?_
    refine WP_iload dX3_faultInParts_80 rfl ?_
    refine WP_iload_n dX3_faultInParts_82 rfl ?_
    refine WP_iload dX3_faultInParts_83 rfl ?_
    refine WP_aload_n dX3_faultInParts_85 rfl ?_
    refine WP_callV4 (k := 3) dX3_faultInParts_86 ⟨⟨⟨by decide, by decide⟩, zX3_faultOfName⟩, lX3_96, by decide, rfl, vX3_faultOfName.1, vX3_faultOfName.2⟩ (lyx_is hy 3 3 rfl) (sx_part_27_2_0 hy hr hI v18598 cz v18593 (by omega) (by omega) (by omega) (by omega) (by omega) (by omega) (by rw [ew18592]; omega)) (Nat.le_of_ble_eq_true rfl) ?_
    intro r I18609 J18610 Ra hq
    obtain ⟨⟨hI18609, ec, fiI18609, fjI18609, ⟨pI18609, sI18609_27_1, sI18609_27_2⟩⟩, v18611, rfl, av18611, bv18611⟩ := hq
    show WP _ _ _ _ (.int _ :: _) _ _ _ _
    rw [ec]
    clear ec Ra
    have fr18612 : fz 74 g [1, 4] I I18609 := fz_tr fr0 (fz_mono fiI18609 (by decide))
    have fr18613 : fz 74 g [1, 41] J J18610 := fz_tr frj0 (fz_mono fjI18609 (by decide))
    have e18614 : I18609 (ad g 27) 1 = w18591 := by rw [sI18609_27_1]; exact ew18591
    have e18615 : I18609 (ad g 27) 2 = w18592 := by rw [sI18609_27_2]; exact ew18592
    have e18616 : I18609 (ad g 1) 1 = L := hI18609.2
    have b18617 := BT_get hI18609.1 1 1 2 (0) (0) (900) (by decide) 1 (by decide) (by decide)
    rw [e18616] at b18617
    refine WP_goto 102 dX3_faultInParts_89 rfl ?_
    refine WP_istore (ls' := [(0, _), (1, _), (2, _), (3, _), (4, _), (5, _), (6, _), (7, _)]) dX3_faultInParts_102 (by decide) rfl ?_
    refine WP_iload dX3_faultInParts_104 rfl ?_
    refine WQ_if_eq 112 dX3_faultInParts_106 rfl (fun c18617 => ?_) (fun c18617 => ?_)
    · refine WP_aload_n dX3_faultInParts_112 rfl ?_
      refine WP_getr dX3_faultInParts_113 fX3_15 rfl (lyx_is hy 3 3 rfl) (rfx hr 3 2 1 (by decide)) ?_
      refine WP_callV0 (k := 5) dX3_faultInParts_116 ⟨⟨⟨by decide, by decide⟩, zX5_next⟩, lX3_40, by decide, rfl, vX5_next.1, vX5_next.2⟩ (lyx_is hy 1 5 rfl) (sx_nextf hy hr hI18609  ) (Nat.le_of_ble_eq_true rfl) ?_
      intro r I18619 J18620 Ra hq
      obtain ⟨⟨hI18619, ec, fiI18619, fjI18619⟩, rfl⟩ := hq
      rw [ec]
      clear ec Ra
      have fr18621 : fz 74 g [1, 4] I I18619 := fz_tr fr18612 (fz_mono fiI18619 (by decide))
      have fr18622 : fz 74 g [1, 41] J J18620 := fz_tr fr18613 (fz_mono fjI18619 (by decide))
      have e18623 : I18619 (ad g 27) 1 = w18591 := by rw [fz_at fiI18619 27 (by decide) (by decide)]; exact e18614
      have e18624 : I18619 (ad g 27) 2 = w18592 := by rw [fz_at fiI18619 27 (by decide) (by decide)]; exact e18615
      have e18625 : I18619 (ad g 1) 1 = L := hI18619.2
      have b18626 := BT_get hI18619.1 1 1 2 (0) (0) (900) (by decide) 1 (by decide) (by decide)
      rw [e18625] at b18626
      refine WP_iinc (ls' := [(0, _), (1, _), (2, _), (3, _), (4, _), (5, _), (6, _), (7, _)]) dX3_faultInParts_119 rfl (by decide) rfl ?_
      have hv18627 : (v18593 + Int32.ofInt (1)).toInt = v18593.toInt + (1) := ia_n rfl (by omega) (by omega)
      generalize v18593 + Int32.ofInt (1) = v18627 at hv18627 ⊢
      refine WP_goto 8 dX3_faultInParts_122 rfl ?_
      refine WP_iload dX3_faultInParts_8 rfl ?_
      refine WP_aload_n dX3_faultInParts_10 rfl ?_
      refine WS_call hz (i := 12) (by omega) dX3_faultInParts_11 ⟨⟨by decide, by decide⟩, zJ0_length_8abf5⟩ lX3_87 vJ0_length_8abf5 (As := []) (rest := [.int v18627]) (j_length hz (i := 12) (by omega)) rfl rfl (Nat.le_of_ble_eq_true rfl) ?_
      intro r Ia Ja Ra hq
      obtain ⟨⟨ea, eb, ec⟩, v18628, rfl, cv18628⟩ := hq
      show WP _ _ _ _ (.int _ :: _) _ _ _ _
      rw [ea, eb, ec]
      clear ea eb ec Ia Ja Ra
      have hv18628 : v18628.toInt = 3 := cv18628.trans rfl
      refine WQ_icmp_ge 125 dX3_faultInParts_14 rfl (fun c18628 => False.elim (by omega)) (fun c18628 => ?_)
      refine WP_iload dX3_faultInParts_17 rfl ?_
      refine WQ_iconst (5) (5) dX3_faultInParts_19 rfl rfl (fun v18630 hv18630 => ?_)
      refine WQ_icmp_ge 125 dX3_faultInParts_20 rfl (fun c18630 => False.elim (by omega)) (fun c18630 => ?_)
      refine WP_aload_n dX3_faultInParts_23 rfl ?_
      refine WP_iload dX3_faultInParts_24 rfl ?_
      refine WS_call hz (i := 12) (by omega) dX3_faultInParts_26 ⟨⟨by decide, by decide⟩, zJ0_charAt_5068e⟩ lX3_92 vJ0_charAt_5068e (As := [.int v18627]) (rest := []) (j_charAt hz (i := 12) (k := v18627) (by omega) (by omega) (by have z9 : ((liN.getD 12 0 : Nat) : Int) = 3 := rfl; omega)) rfl rfl (Nat.le_of_ble_eq_true rfl) ?_
      intro r Ia Ja Ra hq
      obtain ⟨⟨ea, eb, ec⟩, v18632, rfl, cv18632⟩ := hq
      show WP _ _ _ _ (.int _ :: _) _ _ _ _
      rw [ea, eb, ec]
      clear ea eb ec Ia Ja Ra
      have hv18632 : v18632.toInt = 72 := cv18632.trans (by rw [show v18627.toInt.toNat = 1 by omega]; rfl)
      refine WP_istore (ls' := [(0, _), (1, _), (2, _), (3, _), (4, _), (5, _), (6, _), (7, _)]) dX3_faultInParts_29 (by decide) rfl ?_
      refine WP_iload dX3_faultInParts_31 rfl ?_
      refine WQ_bipush (97) (97) dX3_faultInParts_33 rfl rfl (fun v18633 hv18633 => ?_)
      refine WQ_icmp_lt 49 dX3_faultInParts_35 rfl (fun c18633 => ?_) (fun c18633 => False.elim (by omega))
      refine WQ_iconst (0) (0) dX3_faultInParts_49 rfl rfl (fun v18635 hv18635 => ?_)
      refine WP_istore (ls' := [(0, _), (1, _), (2, _), (3, _), (4, _), (5, _), (6, _), (7, _)]) dX3_faultInParts_50 (by decide) rfl ?_
      refine WP_aload_n dX3_faultInParts_52 rfl ?_
      refine WP_getr dX3_faultInParts_53 fX3_15 rfl (lyx_is hy 3 3 rfl) (rfx hr 3 2 1 (by decide)) ?_
      refine WQ_geti dX3_faultInParts_56 fX3_43 rfl (lyx_is hy 1 5 rfl) (BT_get hI18619.1 1 2 3 (0) (0) (4) (by decide) 2 (by decide) (by decide)) (fun v18636 ev18636 av18636 bv18636 => ?_)
      refine WP_iload dX3_faultInParts_59 rfl ?_
      refine WQ_if_eq 68 dX3_faultInParts_61 rfl (fun c18636 => ?_) (fun c18636 => False.elim (by omega))
      refine WQ_iconst (2) (2) dX3_faultInParts_68 rfl rfl (fun v18638 hv18638 => ?_)
      refine WQ_icmp_eq 74 dX3_faultInParts_69 rfl (fun c18638 => ?_) (fun c18638 => ?_)
      · refine WP_iload dX3_faultInParts_74 rfl ?_
        refine WQ_if_eq 92 dX3_faultInParts_76 rfl (fun c18639 => ?_) (fun c18639 => False.elim (by omega))
        refine WP_aload_n dX3_faultInParts_92 rfl ?_
        refine WP_iload dX3_faultInParts_93 rfl ?_
        refine WP_iload_n dX3_faultInParts_95 rfl ?_
        refine WP_iload dX3_faultInParts_96 rfl ?_
        refine WP_aload_n dX3_faultInParts_98 rfl ?_
        refine WP_callV4 (k := 3) dX3_faultInParts_99 ⟨⟨⟨by decide, by decide⟩, zX3_faultOfNumber⟩, lX3_100, by decide, rfl, vX3_faultOfNumber.1, vX3_faultOfNumber.2⟩ (lyx_is hy 3 3 rfl) (sx_part_27_2_1 hy hr hI18619 v18632 cz v18627 (by omega) (by omega) (by omega) (by omega) (by omega) (by omega)) (Nat.le_of_ble_eq_true rfl) ?_
        intro r I18641 J18642 Ra hq
        obtain ⟨⟨hI18641, ec, fiI18641, fjI18641, ⟨pI18641, sI18641_4_0, sI18641_27_1, sI18641_27_2⟩⟩, v18643, rfl, av18643, bv18643, cv18643⟩ := hq
        show WP _ _ _ _ (.int _ :: _) _ _ _ _
        rw [ec]
        clear ec Ra
        have fr18644 : fz 74 g [1, 4] I I18641 := fz_tr fr18621 (fz_mono fiI18641 (by decide))
        have fr18645 : fz 74 g [1, 41] J J18642 := fz_tr fr18622 (fz_mono fjI18641 (by decide))
        have e18646 : I18641 (ad g 27) 1 = w18591 := by rw [sI18641_27_1]; exact e18623
        have e18647 : I18641 (ad g 27) 2 = w18592 := by rw [sI18641_27_2]; exact e18624
        have e18648 : I18641 (ad g 1) 1 = L := hI18641.2
        have b18649 := BT_get hI18641.1 1 1 2 (0) (0) (900) (by decide) 1 (by decide) (by decide)
        rw [e18648] at b18649
        obtain ⟨w18650, ew18650⟩ : ∃ w : Int32, I18641 (ad g 4) 1 = w := ⟨_, rfl⟩
        have bw18650 := BT_get hI18641.1 4 0 5 (0) (0) (1000) (by decide) 1 (by decide) (by decide)
        rw [ew18650] at bw18650
        rw [ew18650] at cv18643
        refine WP_istore (ls' := [(0, _), (1, _), (2, _), (3, _), (4, _), (5, _), (6, _), (7, _)]) dX3_faultInParts_102 (by decide) rfl ?_
        refine WP_iload dX3_faultInParts_104 rfl ?_
        refine WQ_if_eq 112 dX3_faultInParts_106 rfl (fun c18650 => ?_) (fun c18650 => ?_)
        · refine WP_aload_n dX3_faultInParts_112 rfl ?_
          refine WP_getr dX3_faultInParts_113 fX3_15 rfl (lyx_is hy 3 3 rfl) (rfx hr 3 2 1 (by decide)) ?_
          refine WP_callV0 (k := 5) dX3_faultInParts_116 ⟨⟨⟨by decide, by decide⟩, zX5_next⟩, lX3_40, by decide, rfl, vX5_next.1, vX5_next.2⟩ (lyx_is hy 1 5 rfl) (sx_nextf hy hr hI18641  ) (Nat.le_of_ble_eq_true rfl) ?_
          intro r I18652 J18653 Ra hq
          obtain ⟨⟨hI18652, ec, fiI18652, fjI18652⟩, rfl⟩ := hq
          rw [ec]
          clear ec Ra
          have fr18654 : fz 74 g [1, 4] I I18652 := fz_tr fr18644 (fz_mono fiI18652 (by decide))
          have fr18655 : fz 74 g [1, 41] J J18653 := fz_tr fr18645 (fz_mono fjI18652 (by decide))
          have e18656 : I18652 (ad g 27) 1 = w18591 := by rw [fz_at fiI18652 27 (by decide) (by decide)]; exact e18646
          have e18657 : I18652 (ad g 27) 2 = w18592 := by rw [fz_at fiI18652 27 (by decide) (by decide)]; exact e18647
          have e18658 : I18652 (ad g 4) 1 = w18650 := by rw [fz_at fiI18652 4 (by decide) (by decide)]; exact ew18650
          have e18659 : I18652 (ad g 1) 1 = L := hI18652.2
          have b18660 := BT_get hI18652.1 1 1 2 (0) (0) (900) (by decide) 1 (by decide) (by decide)
          rw [e18659] at b18660
          refine WP_iinc (ls' := [(0, _), (1, _), (2, _), (3, _), (4, _), (5, _), (6, _), (7, _)]) dX3_faultInParts_119 rfl (by decide) rfl ?_
          have hv18661 : (v18627 + Int32.ofInt (1)).toInt = v18627.toInt + (1) := ia_n rfl (by omega) (by omega)
          generalize v18627 + Int32.ofInt (1) = v18661 at hv18661 ⊢
          refine WP_goto 8 dX3_faultInParts_122 rfl ?_
          refine WP_iload dX3_faultInParts_8 rfl ?_
          refine WP_aload_n dX3_faultInParts_10 rfl ?_
          refine WS_call hz (i := 12) (by omega) dX3_faultInParts_11 ⟨⟨by decide, by decide⟩, zJ0_length_8abf5⟩ lX3_87 vJ0_length_8abf5 (As := []) (rest := [.int v18661]) (j_length hz (i := 12) (by omega)) rfl rfl (Nat.le_of_ble_eq_true rfl) ?_
          intro r Ia Ja Ra hq
          obtain ⟨⟨ea, eb, ec⟩, v18662, rfl, cv18662⟩ := hq
          show WP _ _ _ _ (.int _ :: _) _ _ _ _
          rw [ea, eb, ec]
          clear ea eb ec Ia Ja Ra
          have hv18662 : v18662.toInt = 3 := cv18662.trans rfl
          refine WQ_icmp_ge 125 dX3_faultInParts_14 rfl (fun c18662 => False.elim (by omega)) (fun c18662 => ?_)
          refine WP_iload dX3_faultInParts_17 rfl ?_
          refine WQ_iconst (5) (5) dX3_faultInParts_19 rfl rfl (fun v18664 hv18664 => ?_)
          refine WQ_icmp_ge 125 dX3_faultInParts_20 rfl (fun c18664 => False.elim (by omega)) (fun c18664 => ?_)
          refine WP_aload_n dX3_faultInParts_23 rfl ?_
          refine WP_iload dX3_faultInParts_24 rfl ?_
          refine WS_call hz (i := 12) (by omega) dX3_faultInParts_26 ⟨⟨by decide, by decide⟩, zJ0_charAt_5068e⟩ lX3_92 vJ0_charAt_5068e (As := [.int v18661]) (rest := []) (j_charAt hz (i := 12) (k := v18661) (by omega) (by omega) (by have z9 : ((liN.getD 12 0 : Nat) : Int) = 3 := rfl; omega)) rfl rfl (Nat.le_of_ble_eq_true rfl) ?_
          intro r Ia Ja Ra hq
          obtain ⟨⟨ea, eb, ec⟩, v18666, rfl, cv18666⟩ := hq
          show WP _ _ _ _ (.int _ :: _) _ _ _ _
          rw [ea, eb, ec]
          clear ea eb ec Ia Ja Ra
          have hv18666 : v18666.toInt = 71 := cv18666.trans (by rw [show v18661.toInt.toNat = 2 by omega]; rfl)
          refine WP_istore (ls' := [(0, _), (1, _), (2, _), (3, _), (4, _), (5, _), (6, _), (7, _)]) dX3_faultInParts_29 (by decide) rfl ?_
          refine WP_iload dX3_faultInParts_31 rfl ?_
          refine WQ_bipush (97) (97) dX3_faultInParts_33 rfl rfl (fun v18667 hv18667 => ?_)
          refine WQ_icmp_lt 49 dX3_faultInParts_35 rfl (fun c18667 => ?_) (fun c18667 => False.elim (by omega))
          refine WQ_iconst (0) (0) dX3_faultInParts_49 rfl rfl (fun v18669 hv18669 => ?_)
          refine WP_istore (ls' := [(0, _), (1, _), (2, _), (3, _), (4, _), (5, _), (6, _), (7, _)]) dX3_faultInParts_50 (by decide) rfl ?_
          refine WP_aload_n dX3_faultInParts_52 rfl ?_
          refine WP_getr dX3_faultInParts_53 fX3_15 rfl (lyx_is hy 3 3 rfl) (rfx hr 3 2 1 (by decide)) ?_
          refine WQ_geti dX3_faultInParts_56 fX3_43 rfl (lyx_is hy 1 5 rfl) (BT_get hI18652.1 1 2 3 (0) (0) (4) (by decide) 2 (by decide) (by decide)) (fun v18670 ev18670 av18670 bv18670 => ?_)
          refine WP_iload dX3_faultInParts_59 rfl ?_
          refine WQ_if_eq 68 dX3_faultInParts_61 rfl (fun c18670 => ?_) (fun c18670 => False.elim (by omega))
          refine WQ_iconst (2) (2) dX3_faultInParts_68 rfl rfl (fun v18672 hv18672 => ?_)
          refine WQ_icmp_eq 74 dX3_faultInParts_69 rfl (fun c18672 => ?_) (fun c18672 => ?_)
          · refine WP_iload dX3_faultInParts_74 rfl ?_
            refine WQ_if_eq 92 dX3_faultInParts_76 rfl (fun c18673 => ?_) (fun c18673 => False.elim (by omega))
            refine WP_aload_n dX3_faultInParts_92 rfl ?_
            refine WP_iload dX3_faultInParts_93 rfl ?_
            refine WP_iload_n dX3_faultInParts_95 rfl ?_
            refine WP_iload dX3_faultInParts_96 rfl ?_
            refine WP_aload_n dX3_faultInParts_98 rfl ?_
            refine WP_callV4 (k := 3) dX3_faultInParts_99 ⟨⟨⟨by decide, by decide⟩, zX3_faultOfNumber⟩, lX3_100, by decide, rfl, vX3_faultOfNumber.1, vX3_faultOfNumber.2⟩ (lyx_is hy 3 3 rfl) (sx_part_27_2_2 hy hr hI18652 v18666 cz v18661 (by omega) (by omega) (by omega) (by omega) (by omega) (by omega)) (Nat.le_of_ble_eq_true rfl) ?_
            intro r I18675 J18676 Ra hq
            obtain ⟨⟨hI18675, ec, fiI18675, fjI18675, ⟨pI18675, sI18675_4_0, sI18675_4_1, sI18675_27_1, sI18675_27_2⟩⟩, v18677, rfl, av18677, bv18677, cv18677⟩ := hq
            show WP _ _ _ _ (.int _ :: _) _ _ _ _
            rw [ec]
            clear ec Ra
            have fr18678 : fz 74 g [1, 4] I I18675 := fz_tr fr18654 (fz_mono fiI18675 (by decide))
            have fr18679 : fz 74 g [1, 41] J J18676 := fz_tr fr18655 (fz_mono fjI18675 (by decide))
            have e18680 : I18675 (ad g 4) 1 = w18650 := by rw [sI18675_4_1]; exact e18658
            have e18681 : I18675 (ad g 27) 1 = w18591 := by rw [sI18675_27_1]; exact e18656
            have e18682 : I18675 (ad g 27) 2 = w18592 := by rw [sI18675_27_2]; exact e18657
            have e18683 : I18675 (ad g 1) 1 = L := hI18675.2
            have b18684 := BT_get hI18675.1 1 1 2 (0) (0) (900) (by decide) 1 (by decide) (by decide)
            rw [e18683] at b18684
            obtain ⟨w18685, ew18685⟩ : ∃ w : Int32, I18675 (ad g 4) 2 = w := ⟨_, rfl⟩
            have bw18685 := BT_get hI18675.1 4 0 5 (0) (0) (1000) (by decide) 2 (by decide) (by decide)
            rw [ew18685] at bw18685
            rw [ew18685] at cv18677
            refine WP_istore (ls' := [(0, _), (1, _), (2, _), (3, _), (4, _), (5, _), (6, _), (7, _)]) dX3_faultInParts_102 (by decide) rfl ?_
            refine WP_iload dX3_faultInParts_104 rfl ?_
            refine WQ_if_eq 112 dX3_faultInParts_106 rfl (fun c18685 => ?_) (fun c18685 => ?_)
            · refine WP_aload_n dX3_faultInParts_112 rfl ?_
              refine WP_getr dX3_faultInParts_113 fX3_15 rfl (lyx_is hy 3 3 rfl) (rfx hr 3 2 1 (by decide)) ?_
              refine WP_callV0 (k := 5) dX3_faultInParts_116 ⟨⟨⟨by decide, by decide⟩, zX5_next⟩, lX3_40, by decide, rfl, vX5_next.1, vX5_next.2⟩ (lyx_is hy 1 5 rfl) (sx_nextf hy hr hI18675  ) (Nat.le_of_ble_eq_true rfl) ?_
              intro r I18687 J18688 Ra hq
              obtain ⟨⟨hI18687, ec, fiI18687, fjI18687⟩, rfl⟩ := hq
              rw [ec]
              clear ec Ra
              have fr18689 : fz 74 g [1, 4] I I18687 := fz_tr fr18678 (fz_mono fiI18687 (by decide))
              have fr18690 : fz 74 g [1, 41] J J18688 := fz_tr fr18679 (fz_mono fjI18687 (by decide))
              have e18691 : I18687 (ad g 4) 1 = w18650 := by rw [fz_at fiI18687 4 (by decide) (by decide)]; exact e18680
              have e18692 : I18687 (ad g 27) 1 = w18591 := by rw [fz_at fiI18687 27 (by decide) (by decide)]; exact e18681
              have e18693 : I18687 (ad g 27) 2 = w18592 := by rw [fz_at fiI18687 27 (by decide) (by decide)]; exact e18682
              have e18694 : I18687 (ad g 4) 2 = w18685 := by rw [fz_at fiI18687 4 (by decide) (by decide)]; exact ew18685
              have e18695 : I18687 (ad g 1) 1 = L := hI18687.2
              have b18696 := BT_get hI18687.1 1 1 2 (0) (0) (900) (by decide) 1 (by decide) (by decide)
              rw [e18695] at b18696
              refine WP_iinc (ls' := [(0, _), (1, _), (2, _), (3, _), (4, _), (5, _), (6, _), (7, _)]) dX3_faultInParts_119 rfl (by decide) rfl ?_
              have hv18697 : (v18661 + Int32.ofInt (1)).toInt = v18661.toInt + (1) := ia_n rfl (by omega) (by omega)
              generalize v18661 + Int32.ofInt (1) = v18697 at hv18697 ⊢
              refine WP_goto 8 dX3_faultInParts_122 rfl ?_
              refine WP_iload dX3_faultInParts_8 rfl ?_
              refine WP_aload_n dX3_faultInParts_10 rfl ?_
              refine WS_call hz (i := 12) (by omega) dX3_faultInParts_11 ⟨⟨by decide, by decide⟩, zJ0_length_8abf5⟩ lX3_87 vJ0_length_8abf5 (As := []) (rest := [.int v18697]) (j_length hz (i := 12) (by omega)) rfl rfl (Nat.le_of_ble_eq_true rfl) ?_
              intro r Ia Ja Ra hq
              obtain ⟨⟨ea, eb, ec⟩, v18698, rfl, cv18698⟩ := hq
              show WP _ _ _ _ (.int _ :: _) _ _ _ _
              rw [ea, eb, ec]
              clear ea eb ec Ia Ja Ra
              have hv18698 : v18698.toInt = 3 := cv18698.trans rfl
              refine WQ_icmp_ge 125 dX3_faultInParts_14 rfl (fun c18698 => ?_) (fun c18698 => False.elim (by omega))
              refine WP_aload_n dX3_faultInParts_125 rfl ?_
              refine WP_getr dX3_faultInParts_126 fX3_15 rfl (lyx_is hy 3 3 rfl) (rfx hr 3 2 1 (by decide)) ?_
              refine WQ_geti dX3_faultInParts_129 fX3_43 rfl (lyx_is hy 1 5 rfl) (BT_get hI18687.1 1 2 3 (0) (0) (4) (by decide) 2 (by decide) (by decide)) (fun v18700 ev18700 av18700 bv18700 => ?_)
              refine WQ_iconst (3) (3) dX3_faultInParts_132 rfl rfl (fun v18701 hv18701 => ?_)
              refine WQ_icmp_ne 140 dX3_faultInParts_133 rfl (fun c18701 => ?_) (fun c18701 => ?_)
              · refine WQ_iconst (1) (1) dX3_faultInParts_140 rfl rfl (fun v18703 hv18703 => ?_)
                exact WP_iret dX3_faultInParts_141 rfl ⟨⟨hI18687, rfl, fr18689, fr18690, ⟨trivial, (by rw [e18692, ew18591] <;> exact (eq32 _ _).mpr (by omega)), (by rw [e18693, ew18592] <;> exact (eq32 _ _).mpr (by omega))⟩⟩, _, rfl, by omega, by omega, by (try rw [e18691]; try rw [e18694]); omega⟩
              · refine WQ_iconst (0) (0) dX3_faultInParts_136 rfl rfl (fun v18704 hv18704 => ?_)
                refine WP_goto 141 dX3_faultInParts_137 rfl ?_
                exact WP_iret dX3_faultInParts_141 rfl ⟨⟨hI18687, rfl, fr18689, fr18690, ⟨trivial, (by rw [e18692, ew18591] <;> exact (eq32 _ _).mpr (by omega)), (by rw [e18693, ew18592] <;> exact (eq32 _ _).mpr (by omega))⟩⟩, _, rfl, by omega, by omega, by (try rw [e18691]; try rw [e18694]); omega⟩
            · refine WP_iload dX3_faultInParts_109 rfl ?_
              exact WP_iret dX3_faultInParts_111 rfl ⟨⟨hI18675, rfl, fr18678, fr18679, ⟨trivial, (by rw [e18681, ew18591] <;> exact (eq32 _ _).mpr (by omega)), (by rw [e18682, ew18592] <;> exact (eq32 _ _).mpr (by omega))⟩⟩, _, rfl, by omega, by omega, by (try rw [e18680]; try rw [ew18685]); omega⟩
          · refine WQ_iconst (1) (1) dX3_faultInParts_72 rfl rfl (fun v18705 hv18705 => ?_)
            obtain ⟨w18706, ew18706⟩ : ∃ w : Int32, I18652 (ad g 4) 2 = w := ⟨_, rfl⟩
            have bw18706 := BT_get hI18652.1 4 0 5 (0) (0) (1000) (by decide) 2 (by decide) (by decide)
            rw [ew18706] at bw18706
            exact WP_iret dX3_faultInParts_73 rfl ⟨⟨hI18652, rfl, fr18654, fr18655, ⟨trivial, (by rw [e18656, ew18591] <;> exact (eq32 _ _).mpr (by omega)), (by rw [e18657, ew18592] <;> exact (eq32 _ _).mpr (by omega))⟩⟩, _, rfl, by omega, by omega, by (try rw [e18658]; try rw [ew18706]); omega⟩
        · refine WP_iload dX3_faultInParts_109 rfl ?_
          obtain ⟨w18707, ew18707⟩ : ∃ w : Int32, I18641 (ad g 4) 2 = w := ⟨_, rfl⟩
          have bw18707 := BT_get hI18641.1 4 0 5 (0) (0) (1000) (by decide) 2 (by decide) (by decide)
          rw [ew18707] at bw18707
          exact WP_iret dX3_faultInParts_111 rfl ⟨⟨hI18641, rfl, fr18644, fr18645, ⟨trivial, (by rw [e18646, ew18591] <;> exact (eq32 _ _).mpr (by omega)), (by rw [e18647, ew18592] <;> exact (eq32 _ _).mpr (by omega))⟩⟩, _, rfl, by omega, by omega, by (try rw [ew18650]; try rw [ew18707]); omega⟩
      · refine WQ_iconst (1) (1) dX3_faultInParts_72 rfl rfl (fun v18708 hv18708 => ?_)
        obtain ⟨w18709, ew18709⟩ : ∃ w : Int32, I18619 (ad g 4) 1 = w := ⟨_, rfl⟩
        have bw18709 := BT_get hI18619.1 4 0 5 (0) (0) (1000) (by decide) 1 (by decide) (by decide)
        rw [ew18709] at bw18709
        obtain ⟨w18710, ew18710⟩ : ∃ w : Int32, I18619 (ad g 4) 2 = w := ⟨_, rfl⟩
        have bw18710 := BT_get hI18619.1 4 0 5 (0) (0) (1000) (by decide) 2 (by decide) (by decide)
        rw [ew18710] at bw18710
        exact WP_iret dX3_faultInParts_73 rfl ⟨⟨hI18619, rfl, fr18621, fr18622, ⟨trivial, (by rw [e18623, ew18591] <;> exact (eq32 _ _).mpr (by omega)), (by rw [e18624, ew18592] <;> exact (eq32 _ _).mpr (by omega))⟩⟩, _, rfl, by omega, by omega, by (try rw [ew18709]; try rw [ew18710]); omega⟩
    · refine WP_iload dX3_faultInParts_109 rfl ?_
      obtain ⟨w18711, ew18711⟩ : ∃ w : Int32, I18609 (ad g 4) 1 = w := ⟨_, rfl⟩
      have bw18711 := BT_get hI18609.1 4 0 5 (0) (0) (1000) (by decide) 1 (by decide) (by decide)
      rw [ew18711] at bw18711
      obtain ⟨w18712, ew18712⟩ : ∃ w : Int32, I18609 (ad g 4) 2 = w := ⟨_, rfl⟩
      have bw18712 := BT_get hI18609.1 4 0 5 (0) (0) (1000) (by decide) 2 (by decide) (by decide)
      rw [ew18712] at bw18712
      exact WP_iret dX3_faultInParts_111 rfl ⟨⟨hI18609, rfl, fr18612, fr18613, ⟨trivial, (by rw [e18614, ew18591] <;> exact (eq32 _ _).mpr (by omega)), (by rw [e18615, ew18592] <;> exact (eq32 _ _).mpr (by omega))⟩⟩, _, rfl, by omega, by omega, by (try rw [ew18711]; try rw [ew18712]); omega⟩
  · refine WQ_iconst (1) (1) dX3_faultInParts_72 rfl rfl (fun v18713 hv18713 => ?_)
    obtain ⟨w18714, ew18714⟩ : ∃ w : Int32, I (ad g 4) 1 = w := ⟨_, rfl⟩
    have bw18714 := BT_get hI.1 4 0 5 (0) (0) (1000) (by decide) 1 (by decide) (by decide)
    rw [ew18714] at bw18714
    obtain ⟨w18715, ew18715⟩ : ∃ w : Int32, I (ad g 4) 2 = w := ⟨_, rfl⟩
    have bw18715 := BT_get hI.1 4 0 5 (0) (0) (1000) (by decide) 2 (by decide) (by decide)
    rw [ew18715] at bw18715
    exact WP_iret dX3_faultInParts_73 rfl ⟨⟨hI, rfl, fr0, frj0, ⟨trivial, rfl, rfl⟩⟩, _, rfl, by omega, by omega, by (try rw [ew18714]; try rw [ew18715]); omega⟩
set_option maxHeartbeats 4000000 in
set_option maxRecDepth 100000 in
theorem sx_parts_27_3 {g : GG} {n : Int} {L : Int32} (hy : LyX g) {aK aV : Nat → Nat} {fo : Option Nat} (hz : HZ g aK aV fo)  {I : pI} {J : pJ} {R : pR} (hr : RfX g R) (hI : XI g n L I) (cz : Int32) (cz_lo : 3 ≤ cz.toInt) (cz_hi : cz.toInt ≤ 3) : SP g mX3_faultInParts [.ref (ad g 3), .int cz, .ref (ad g 27)] I J R (fun r I' J' R' => (XI g n L I' ∧ R' = R ∧ fz 74 g [1, 4] I I' ∧ fz 74 g [1] J J' ∧ True ∧ I' (ad g 27) 1 = I (ad g 27) 1 ∧ I' (ad g 27) 2 = I (ad g 27) 2) ∧ ∃ v : Int32, r = some (.int v) ∧ 0 ≤ v.toInt ∧ v.toInt ≤ 5 ∧ (v.toInt = 0 → (I' (ad g 4) 0).toInt ≤ 3 ∧ (I' (ad g 4) 1).toInt ≤ 6 ∧ (I' (ad g 4) 2).toInt ≤ 20)) := by
  refine SP_of ⟨by decide, rfl⟩ (Nat.le_of_ble_eq_true rfl) ?_
  have e18716 : I (ad g 1) 1 = L := hI.2
  have b18717 := BT_get hI.1 1 1 2 (0) (0) (900) (by decide) 1 (by decide) (by decide)
  rw [e18716] at b18717
  have fr0 : fz 74 g [1, 4] I I := fz_rf
  have frj0 : fz 74 g [1] J J := fz_rf
  obtain ⟨w18718, ew18718⟩ : ∃ w : Int32, I (ad g 27) 1 = w := ⟨_, rfl⟩
  have bw18718 := BT_get hI.1 27 1 2 (0) (0) (4) (by decide) 1 (by decide) (by decide)
  rw [ew18718] at bw18718
  obtain ⟨w18719, ew18719⟩ : ∃ w : Int32, I (ad g 27) 2 = w := ⟨_, rfl⟩
  have bw18719 := BT_get hI.1 27 2 3 (0) (0) (3) (by decide) 2 (by decide) (by decide)
  rw [ew18719] at bw18719
  refine WP_iload_n dX3_faultInParts_0 rfl ?_
  refine WP_callS1 dX3_faultInParts_1 ⟨⟨⟨by decide, by decide⟩, zX3_shapeOf⟩, lX3_84, tX3_shapeOf⟩ (sx_shapeOf hy hz hr hI cz (by omega) (by omega)) (Nat.le_of_ble_eq_true rfl) ?_
  intro r Ia Ja Ra hq
  obtain ⟨⟨ea, eb, ec⟩, rfl⟩ := hq
  show WP _ _ _ _ (.ref _ :: _) _ _ _ _
  rw [show 10 + cz.toInt.toNat = 13 by omega]
  rw [ea, eb, ec]
  clear ea eb ec Ia Ja Ra
  refine WP_astore_n (ls' := [(0, _), (1, _), (2, _), (3, _)]) dX3_faultInParts_4 (by decide) rfl ?_
  refine WQ_iconst (0) (0) dX3_faultInParts_5 rfl rfl (fun v18720 hv18720 => ?_)
  refine WP_istore (ls' := [(0, _), (1, _), (2, _), (3, _), (4, _)]) dX3_faultInParts_6 (by decide) rfl ?_
  refine WP_iload dX3_faultInParts_8 rfl ?_
  refine WP_aload_n dX3_faultInParts_10 rfl ?_
  refine WS_call hz (i := 13) (by omega) dX3_faultInParts_11 ⟨⟨by decide, by decide⟩, zJ0_length_8abf5⟩ lX3_87 vJ0_length_8abf5 (As := []) (rest := [.int v18720]) (j_length hz (i := 13) (by omega)) rfl rfl (Nat.le_of_ble_eq_true rfl) ?_
  intro r Ia Ja Ra hq
  obtain ⟨⟨ea, eb, ec⟩, v18721, rfl, cv18721⟩ := hq
  show WP _ _ _ _ (.int _ :: _) _ _ _ _
  rw [ea, eb, ec]
  clear ea eb ec Ia Ja Ra
  have hv18721 : v18721.toInt = 3 := cv18721.trans rfl
  refine WQ_icmp_ge 125 dX3_faultInParts_14 rfl (fun c18721 => False.elim (by omega)) (fun c18721 => ?_)
  refine WP_iload dX3_faultInParts_17 rfl ?_
  refine WQ_iconst (5) (5) dX3_faultInParts_19 rfl rfl (fun v18723 hv18723 => ?_)
  refine WQ_icmp_ge 125 dX3_faultInParts_20 rfl (fun c18723 => False.elim (by omega)) (fun c18723 => ?_)
  refine WP_aload_n dX3_faultInParts_23 rfl ?_
  refine WP_iload dX3_faultInParts_24 rfl ?_
  refine WS_call hz (i := 13) (by omega) dX3_faultInParts_26 ⟨⟨by decide, by decide⟩, zJ0_charAt_5068e⟩ lX3_92 vJ0_charAt_5068e (As := [.int v18720]) (rest := []) (j_charAt hz (i := 13) (k := v18720) (by omega) (by omega) (by have z9 : ((liN.getD 13 0 : Nat) : Int) = 3 := rfl; omega)) rfl rfl (Nat.le_of_ble_eq_true rfl) ?_
  intro r Ia Ja Ra hq
  obtain ⟨⟨ea, eb, ec⟩, v18725, rfl, cv18725⟩ := hq
  show WP _ _ _ _ (.int _ :: _) _ _ _ _
  rw [ea, eb, ec]
  clear ea eb ec Ia Ja Ra
  have hv18725 : v18725.toInt = 115 := cv18725.trans (by rw [show v18720.toInt.toNat = 0 by omega]; rfl)
  refine WP_istore (ls' := [(0, _), (1, _), (2, _), (3, _), (4, _), (5, _)]) dX3_faultInParts_29 (by decide) rfl ?_
  refine WP_iload dX3_faultInParts_31 rfl ?_
  refine WQ_bipush (97) (97) dX3_faultInParts_33 rfl rfl (fun v18726 hv18726 => ?_)
  refine WQ_icmp_lt 49 dX3_faultInParts_35 rfl (fun c18726 => False.elim (by omega)) (fun c18726 => ?_)
  refine WP_iload dX3_faultInParts_38 rfl ?_
  refine WQ_bipush (122) (122) dX3_faultInParts_40 rfl rfl (fun v18728 hv18728 => ?_)
  refine WQ_icmp_gt 49 dX3_faultInParts_42 rfl (fun c18728 => False.elim (by omega)) (fun c18728 => ?_)
  refine WQ_iconst (1) (1) dX3_faultInParts_45 rfl rfl (fun v18730 hv18730 => ?_)
  refine WP_goto 50 dX3_faultInParts_46 rfl ?_
  refine WP_istore (ls' := [(0, _), (1, _), (2, _), (3, _), (4, _), (5, _), (6, _)]) dX3_faultInParts_50 (by decide) rfl ?_
  refine WP_aload_n dX3_faultInParts_52 rfl ?_
  refine WP_getr dX3_faultInParts_53 fX3_15 rfl (lyx_is hy 3 3 rfl) (rfx hr 3 2 1 (by decide)) ?_
  refine WQ_geti dX3_faultInParts_56 fX3_43 rfl (lyx_is hy 1 5 rfl) (BT_get hI.1 1 2 3 (0) (0) (4) (by decide) 2 (by decide) (by decide)) (fun v18731 ev18731 av18731 bv18731 => ?_)
  refine WP_iload dX3_faultInParts_59 rfl ?_
  refine WQ_if_eq 68 dX3_faultInParts_61 rfl (fun c18731 => False.elim (by omega)) (fun c18731 => ?_)
  refine WQ_iconst (1) (1) dX3_faultInParts_64 rfl rfl (fun v18733 hv18733 => ?_)
  refine WP_goto 69 dX3_faultInParts_65 rfl ?_
  refine WQ_icmp_eq 74 dX3_faultInParts_69 rfl (fun c18733 => ?_) (fun c18733 => ?_)
  · refine WP_iload dX3_faultInParts_74 rfl ?_
    refine WQ_if_eq 92 dX3_faultInParts_76 rfl (fun c18734 => False.elim (by omega)) (fun c18734 => ?_)
    refine WP_aload_n dX3_faultInParts_79 rfl ?_
    refine WP_iload dX3_faultInParts_80 rfl ?_
    refine WP_iload_n dX3_faultInParts_82 rfl ?_
    refine WP_iload dX3_faultInParts_83 rfl ?_
    refine WP_aload_n dX3_faultInParts_85 rfl ?_
    refine WP_callV4 (k := 3) dX3_faultInParts_86 ⟨⟨⟨by decide, by decide⟩, zX3_faultOfName⟩, lX3_96, by decide, rfl, vX3_faultOfName.1, vX3_faultOfName.2⟩ (lyx_is hy 3 3 rfl) (sx_part_27_3_0 hy hr hI v18725 cz v18720 (by omega) (by omega) (by omega) (by omega) (by omega) (by omega)) (Nat.le_of_ble_eq_true rfl) ?_
    intro r I18736 J18737 Ra hq
    obtain ⟨⟨hI18736, ec, fiI18736, fjI18736, ⟨pI18736, sI18736_27_1, sI18736_27_2⟩⟩, v18738, rfl, av18738, bv18738, cv18738⟩ := hq
    show WP _ _ _ _ (.int _ :: _) _ _ _ _
    rw [ec]
    clear ec Ra
    have fr18739 : fz 74 g [1, 4] I I18736 := fz_tr fr0 (fz_mono fiI18736 (by decide))
    have fr18740 : fz 74 g [1] J J18737 := fz_tr frj0 (fz_mono fjI18736 (by decide))
    have e18741 : I18736 (ad g 27) 1 = w18718 := by rw [sI18736_27_1]; exact ew18718
    have e18742 : I18736 (ad g 27) 2 = w18719 := by rw [sI18736_27_2]; exact ew18719
    have e18743 : I18736 (ad g 1) 1 = L := hI18736.2
    have b18744 := BT_get hI18736.1 1 1 2 (0) (0) (900) (by decide) 1 (by decide) (by decide)
    rw [e18743] at b18744
    obtain ⟨w18745, ew18745⟩ : ∃ w : Int32, I18736 (ad g 4) 0 = w := ⟨_, rfl⟩
    have bw18745 := BT_get hI18736.1 4 0 5 (0) (0) (1000) (by decide) 0 (by decide) (by decide)
    rw [ew18745] at bw18745
    rw [ew18745] at cv18738
    refine WP_goto 102 dX3_faultInParts_89 rfl ?_
    refine WP_istore (ls' := [(0, _), (1, _), (2, _), (3, _), (4, _), (5, _), (6, _), (7, _)]) dX3_faultInParts_102 (by decide) rfl ?_
    refine WP_iload dX3_faultInParts_104 rfl ?_
    refine WQ_if_eq 112 dX3_faultInParts_106 rfl (fun c18745 => ?_) (fun c18745 => ?_)
    · refine WP_aload_n dX3_faultInParts_112 rfl ?_
      refine WP_getr dX3_faultInParts_113 fX3_15 rfl (lyx_is hy 3 3 rfl) (rfx hr 3 2 1 (by decide)) ?_
      refine WP_callV0 (k := 5) dX3_faultInParts_116 ⟨⟨⟨by decide, by decide⟩, zX5_next⟩, lX3_40, by decide, rfl, vX5_next.1, vX5_next.2⟩ (lyx_is hy 1 5 rfl) (sx_nextf hy hr hI18736  ) (Nat.le_of_ble_eq_true rfl) ?_
      intro r I18747 J18748 Ra hq
      obtain ⟨⟨hI18747, ec, fiI18747, fjI18747⟩, rfl⟩ := hq
      rw [ec]
      clear ec Ra
      have fr18749 : fz 74 g [1, 4] I I18747 := fz_tr fr18739 (fz_mono fiI18747 (by decide))
      have fr18750 : fz 74 g [1] J J18748 := fz_tr fr18740 (fz_mono fjI18747 (by decide))
      have e18751 : I18747 (ad g 27) 1 = w18718 := by rw [fz_at fiI18747 27 (by decide) (by decide)]; exact e18741
      have e18752 : I18747 (ad g 27) 2 = w18719 := by rw [fz_at fiI18747 27 (by decide) (by decide)]; exact e18742
      have e18753 : I18747 (ad g 4) 0 = w18745 := by rw [fz_at fiI18747 4 (by decide) (by decide)]; exact ew18745
      have e18754 : I18747 (ad g 1) 1 = L := hI18747.2
      have b18755 := BT_get hI18747.1 1 1 2 (0) (0) (900) (by decide) 1 (by decide) (by decide)
      rw [e18754] at b18755
      refine WP_iinc (ls' := [(0, _), (1, _), (2, _), (3, _), (4, _), (5, _), (6, _), (7, _)]) dX3_faultInParts_119 rfl (by decide) rfl ?_
      have hv18756 : (v18720 + Int32.ofInt (1)).toInt = v18720.toInt + (1) := ia_n rfl (by omega) (by omega)
      generalize v18720 + Int32.ofInt (1) = v18756 at hv18756 ⊢
      refine WP_goto 8 dX3_faultInParts_122 rfl ?_
      refine WP_iload dX3_faultInParts_8 rfl ?_
      refine WP_aload_n dX3_faultInParts_10 rfl ?_
      refine WS_call hz (i := 13) (by omega) dX3_faultInParts_11 ⟨⟨by decide, by decide⟩, zJ0_length_8abf5⟩ lX3_87 vJ0_length_8abf5 (As := []) (rest := [.int v18756]) (j_length hz (i := 13) (by omega)) rfl rfl (Nat.le_of_ble_eq_true rfl) ?_
      intro r Ia Ja Ra hq
      obtain ⟨⟨ea, eb, ec⟩, v18757, rfl, cv18757⟩ := hq
      show WP _ _ _ _ (.int _ :: _) _ _ _ _
      rw [ea, eb, ec]
      clear ea eb ec Ia Ja Ra
      have hv18757 : v18757.toInt = 3 := cv18757.trans rfl
      refine WQ_icmp_ge 125 dX3_faultInParts_14 rfl (fun c18757 => False.elim (by omega)) (fun c18757 => ?_)
      refine WP_iload dX3_faultInParts_17 rfl ?_
      refine WQ_iconst (5) (5) dX3_faultInParts_19 rfl rfl (fun v18759 hv18759 => ?_)
      refine WQ_icmp_ge 125 dX3_faultInParts_20 rfl (fun c18759 => False.elim (by omega)) (fun c18759 => ?_)
      refine WP_aload_n dX3_faultInParts_23 rfl ?_
      refine WP_iload dX3_faultInParts_24 rfl ?_
      refine WS_call hz (i := 13) (by omega) dX3_faultInParts_26 ⟨⟨by decide, by decide⟩, zJ0_charAt_5068e⟩ lX3_92 vJ0_charAt_5068e (As := [.int v18756]) (rest := []) (j_charAt hz (i := 13) (k := v18756) (by omega) (by omega) (by have z9 : ((liN.getD 13 0 : Nat) : Int) = 3 := rfl; omega)) rfl rfl (Nat.le_of_ble_eq_true rfl) ?_
      intro r Ia Ja Ra hq
      obtain ⟨⟨ea, eb, ec⟩, v18761, rfl, cv18761⟩ := hq
      show WP _ _ _ _ (.int _ :: _) _ _ _ _
      rw [ea, eb, ec]
      clear ea eb ec Ia Ja Ra
      have hv18761 : v18761.toInt = 68 := cv18761.trans (by rw [show v18756.toInt.toNat = 1 by omega]; rfl)
      refine WP_istore (ls' := [(0, _), (1, _), (2, _), (3, _), (4, _), (5, _), (6, _), (7, _)]) dX3_faultInParts_29 (by decide) rfl ?_
      refine WP_iload dX3_faultInParts_31 rfl ?_
      refine WQ_bipush (97) (97) dX3_faultInParts_33 rfl rfl (fun v18762 hv18762 => ?_)
      refine WQ_icmp_lt 49 dX3_faultInParts_35 rfl (fun c18762 => ?_) (fun c18762 => False.elim (by omega))
      refine WQ_iconst (0) (0) dX3_faultInParts_49 rfl rfl (fun v18764 hv18764 => ?_)
      refine WP_istore (ls' := [(0, _), (1, _), (2, _), (3, _), (4, _), (5, _), (6, _), (7, _)]) dX3_faultInParts_50 (by decide) rfl ?_
      refine WP_aload_n dX3_faultInParts_52 rfl ?_
      refine WP_getr dX3_faultInParts_53 fX3_15 rfl (lyx_is hy 3 3 rfl) (rfx hr 3 2 1 (by decide)) ?_
      refine WQ_geti dX3_faultInParts_56 fX3_43 rfl (lyx_is hy 1 5 rfl) (BT_get hI18747.1 1 2 3 (0) (0) (4) (by decide) 2 (by decide) (by decide)) (fun v18765 ev18765 av18765 bv18765 => ?_)
      refine WP_iload dX3_faultInParts_59 rfl ?_
      refine WQ_if_eq 68 dX3_faultInParts_61 rfl (fun c18765 => ?_) (fun c18765 => False.elim (by omega))
      refine WQ_iconst (2) (2) dX3_faultInParts_68 rfl rfl (fun v18767 hv18767 => ?_)
      refine WQ_icmp_eq 74 dX3_faultInParts_69 rfl (fun c18767 => ?_) (fun c18767 => ?_)
      · refine WP_iload dX3_faultInParts_74 rfl ?_
        refine WQ_if_eq 92 dX3_faultInParts_76 rfl (fun c18768 => ?_) (fun c18768 => False.elim (by omega))
        refine WP_aload_n dX3_faultInParts_92 rfl ?_
        refine WP_iload dX3_faultInParts_93 rfl ?_
        refine WP_iload_n dX3_faultInParts_95 rfl ?_
        refine WP_iload dX3_faultInParts_96 rfl ?_
        refine WP_aload_n dX3_faultInParts_98 rfl ?_
        refine WP_callV4 (k := 3) dX3_faultInParts_99 ⟨⟨⟨by decide, by decide⟩, zX3_faultOfNumber⟩, lX3_100, by decide, rfl, vX3_faultOfNumber.1, vX3_faultOfNumber.2⟩ (lyx_is hy 3 3 rfl) (sx_part_27_3_1 hy hr hI18747 v18761 cz v18756 (by omega) (by omega) (by omega) (by omega) (by omega) (by omega) (by rw [e18753]; omega)) (Nat.le_of_ble_eq_true rfl) ?_
        intro r I18770 J18771 Ra hq
        obtain ⟨⟨hI18770, ec, fiI18770, fjI18770, ⟨pI18770, sI18770_4_0, sI18770_27_1, sI18770_27_2⟩⟩, v18772, rfl, av18772, bv18772, cv18772⟩ := hq
        show WP _ _ _ _ (.int _ :: _) _ _ _ _
        rw [ec]
        clear ec Ra
        have fr18773 : fz 74 g [1, 4] I I18770 := fz_tr fr18749 (fz_mono fiI18770 (by decide))
        have fr18774 : fz 74 g [1] J J18771 := fz_tr fr18750 (fz_mono fjI18770 (by decide))
        have e18775 : I18770 (ad g 4) 0 = w18745 := by rw [sI18770_4_0]; exact e18753
        have e18776 : I18770 (ad g 27) 1 = w18718 := by rw [sI18770_27_1]; exact e18751
        have e18777 : I18770 (ad g 27) 2 = w18719 := by rw [sI18770_27_2]; exact e18752
        have e18778 : I18770 (ad g 1) 1 = L := hI18770.2
        have b18779 := BT_get hI18770.1 1 1 2 (0) (0) (900) (by decide) 1 (by decide) (by decide)
        rw [e18778] at b18779
        obtain ⟨w18780, ew18780⟩ : ∃ w : Int32, I18770 (ad g 4) 1 = w := ⟨_, rfl⟩
        have bw18780 := BT_get hI18770.1 4 0 5 (0) (0) (1000) (by decide) 1 (by decide) (by decide)
        rw [ew18780] at bw18780
        rw [ew18780] at cv18772
        refine WP_istore (ls' := [(0, _), (1, _), (2, _), (3, _), (4, _), (5, _), (6, _), (7, _)]) dX3_faultInParts_102 (by decide) rfl ?_
        refine WP_iload dX3_faultInParts_104 rfl ?_
        refine WQ_if_eq 112 dX3_faultInParts_106 rfl (fun c18780 => ?_) (fun c18780 => ?_)
        · refine WP_aload_n dX3_faultInParts_112 rfl ?_
          refine WP_getr dX3_faultInParts_113 fX3_15 rfl (lyx_is hy 3 3 rfl) (rfx hr 3 2 1 (by decide)) ?_
          refine WP_callV0 (k := 5) dX3_faultInParts_116 ⟨⟨⟨by decide, by decide⟩, zX5_next⟩, lX3_40, by decide, rfl, vX5_next.1, vX5_next.2⟩ (lyx_is hy 1 5 rfl) (sx_nextf hy hr hI18770  ) (Nat.le_of_ble_eq_true rfl) ?_
          intro r I18782 J18783 Ra hq
          obtain ⟨⟨hI18782, ec, fiI18782, fjI18782⟩, rfl⟩ := hq
          rw [ec]
          clear ec Ra
          have fr18784 : fz 74 g [1, 4] I I18782 := fz_tr fr18773 (fz_mono fiI18782 (by decide))
          have fr18785 : fz 74 g [1] J J18783 := fz_tr fr18774 (fz_mono fjI18782 (by decide))
          have e18786 : I18782 (ad g 4) 0 = w18745 := by rw [fz_at fiI18782 4 (by decide) (by decide)]; exact e18775
          have e18787 : I18782 (ad g 27) 1 = w18718 := by rw [fz_at fiI18782 27 (by decide) (by decide)]; exact e18776
          have e18788 : I18782 (ad g 27) 2 = w18719 := by rw [fz_at fiI18782 27 (by decide) (by decide)]; exact e18777
          have e18789 : I18782 (ad g 4) 1 = w18780 := by rw [fz_at fiI18782 4 (by decide) (by decide)]; exact ew18780
          have e18790 : I18782 (ad g 1) 1 = L := hI18782.2
          have b18791 := BT_get hI18782.1 1 1 2 (0) (0) (900) (by decide) 1 (by decide) (by decide)
          rw [e18790] at b18791
          refine WP_iinc (ls' := [(0, _), (1, _), (2, _), (3, _), (4, _), (5, _), (6, _), (7, _)]) dX3_faultInParts_119 rfl (by decide) rfl ?_
          have hv18792 : (v18756 + Int32.ofInt (1)).toInt = v18756.toInt + (1) := ia_n rfl (by omega) (by omega)
          generalize v18756 + Int32.ofInt (1) = v18792 at hv18792 ⊢
          refine WP_goto 8 dX3_faultInParts_122 rfl ?_
          refine WP_iload dX3_faultInParts_8 rfl ?_
          refine WP_aload_n dX3_faultInParts_10 rfl ?_
          refine WS_call hz (i := 13) (by omega) dX3_faultInParts_11 ⟨⟨by decide, by decide⟩, zJ0_length_8abf5⟩ lX3_87 vJ0_length_8abf5 (As := []) (rest := [.int v18792]) (j_length hz (i := 13) (by omega)) rfl rfl (Nat.le_of_ble_eq_true rfl) ?_
          intro r Ia Ja Ra hq
          obtain ⟨⟨ea, eb, ec⟩, v18793, rfl, cv18793⟩ := hq
          show WP _ _ _ _ (.int _ :: _) _ _ _ _
          rw [ea, eb, ec]
          clear ea eb ec Ia Ja Ra
          have hv18793 : v18793.toInt = 3 := cv18793.trans rfl
          refine WQ_icmp_ge 125 dX3_faultInParts_14 rfl (fun c18793 => False.elim (by omega)) (fun c18793 => ?_)
          refine WP_iload dX3_faultInParts_17 rfl ?_
          refine WQ_iconst (5) (5) dX3_faultInParts_19 rfl rfl (fun v18795 hv18795 => ?_)
          refine WQ_icmp_ge 125 dX3_faultInParts_20 rfl (fun c18795 => False.elim (by omega)) (fun c18795 => ?_)
          refine WP_aload_n dX3_faultInParts_23 rfl ?_
          refine WP_iload dX3_faultInParts_24 rfl ?_
          refine WS_call hz (i := 13) (by omega) dX3_faultInParts_26 ⟨⟨by decide, by decide⟩, zJ0_charAt_5068e⟩ lX3_92 vJ0_charAt_5068e (As := [.int v18792]) (rest := []) (j_charAt hz (i := 13) (k := v18792) (by omega) (by omega) (by have z9 : ((liN.getD 13 0 : Nat) : Int) = 3 := rfl; omega)) rfl rfl (Nat.le_of_ble_eq_true rfl) ?_
          intro r Ia Ja Ra hq
          obtain ⟨⟨ea, eb, ec⟩, v18797, rfl, cv18797⟩ := hq
          show WP _ _ _ _ (.int _ :: _) _ _ _ _
          rw [ea, eb, ec]
          clear ea eb ec Ia Ja Ra
          have hv18797 : v18797.toInt = 69 := cv18797.trans (by rw [show v18792.toInt.toNat = 2 by omega]; rfl)
          refine WP_istore (ls' := [(0, _), (1, _), (2, _), (3, _), (4, _), (5, _), (6, _), (7, _)]) dX3_faultInParts_29 (by decide) rfl ?_
          refine WP_iload dX3_faultInParts_31 rfl ?_
          refine WQ_bipush (97) (97) dX3_faultInParts_33 rfl rfl (fun v18798 hv18798 => ?_)
          refine WQ_icmp_lt 49 dX3_faultInParts_35 rfl (fun c18798 => ?_) (fun c18798 => False.elim (by omega))
          refine WQ_iconst (0) (0) dX3_faultInParts_49 rfl rfl (fun v18800 hv18800 => ?_)
          refine WP_istore (ls' := [(0, _), (1, _), (2, _), (3, _), (4, _), (5, _), (6, _), (7, _)]) dX3_faultInParts_50 (by decide) rfl ?_
          refine WP_aload_n dX3_faultInParts_52 rfl ?_
          refine WP_getr dX3_faultInParts_53 fX3_15 rfl (lyx_is hy 3 3 rfl) (rfx hr 3 2 1 (by decide)) ?_
          refine WQ_geti dX3_faultInParts_56 fX3_43 rfl (lyx_is hy 1 5 rfl) (BT_get hI18782.1 1 2 3 (0) (0) (4) (by decide) 2 (by decide) (by decide)) (fun v18801 ev18801 av18801 bv18801 => ?_)
          refine WP_iload dX3_faultInParts_59 rfl ?_
          refine WQ_if_eq 68 dX3_faultInParts_61 rfl (fun c18801 => ?_) (fun c18801 => False.elim (by omega))
          refine WQ_iconst (2) (2) dX3_faultInParts_68 rfl rfl (fun v18803 hv18803 => ?_)
          refine WQ_icmp_eq 74 dX3_faultInParts_69 rfl (fun c18803 => ?_) (fun c18803 => ?_)
          · refine WP_iload dX3_faultInParts_74 rfl ?_
            refine WQ_if_eq 92 dX3_faultInParts_76 rfl (fun c18804 => ?_) (fun c18804 => False.elim (by omega))
            refine WP_aload_n dX3_faultInParts_92 rfl ?_
            refine WP_iload dX3_faultInParts_93 rfl ?_
            refine WP_iload_n dX3_faultInParts_95 rfl ?_
            refine WP_iload dX3_faultInParts_96 rfl ?_
            refine WP_aload_n dX3_faultInParts_98 rfl ?_
            refine WP_callV4 (k := 3) dX3_faultInParts_99 ⟨⟨⟨by decide, by decide⟩, zX3_faultOfNumber⟩, lX3_100, by decide, rfl, vX3_faultOfNumber.1, vX3_faultOfNumber.2⟩ (lyx_is hy 3 3 rfl) (sx_part_27_3_2 hy hr hI18782 v18797 cz v18792 (by omega) (by omega) (by omega) (by omega) (by omega) (by omega)) (Nat.le_of_ble_eq_true rfl) ?_
            intro r I18806 J18807 Ra hq
            obtain ⟨⟨hI18806, ec, fiI18806, fjI18806, ⟨pI18806, sI18806_4_0, sI18806_4_1, sI18806_27_1, sI18806_27_2⟩⟩, v18808, rfl, av18808, bv18808, cv18808⟩ := hq
            show WP _ _ _ _ (.int _ :: _) _ _ _ _
            rw [ec]
            clear ec Ra
            have fr18809 : fz 74 g [1, 4] I I18806 := fz_tr fr18784 (fz_mono fiI18806 (by decide))
            have fr18810 : fz 74 g [1] J J18807 := fz_tr fr18785 (fz_mono fjI18806 (by decide))
            have e18811 : I18806 (ad g 4) 0 = w18745 := by rw [sI18806_4_0]; exact e18786
            have e18812 : I18806 (ad g 4) 1 = w18780 := by rw [sI18806_4_1]; exact e18789
            have e18813 : I18806 (ad g 27) 1 = w18718 := by rw [sI18806_27_1]; exact e18787
            have e18814 : I18806 (ad g 27) 2 = w18719 := by rw [sI18806_27_2]; exact e18788
            have e18815 : I18806 (ad g 1) 1 = L := hI18806.2
            have b18816 := BT_get hI18806.1 1 1 2 (0) (0) (900) (by decide) 1 (by decide) (by decide)
            rw [e18815] at b18816
            obtain ⟨w18817, ew18817⟩ : ∃ w : Int32, I18806 (ad g 4) 2 = w := ⟨_, rfl⟩
            have bw18817 := BT_get hI18806.1 4 0 5 (0) (0) (1000) (by decide) 2 (by decide) (by decide)
            rw [ew18817] at bw18817
            rw [ew18817] at cv18808
            refine WP_istore (ls' := [(0, _), (1, _), (2, _), (3, _), (4, _), (5, _), (6, _), (7, _)]) dX3_faultInParts_102 (by decide) rfl ?_
            refine WP_iload dX3_faultInParts_104 rfl ?_
            refine WQ_if_eq 112 dX3_faultInParts_106 rfl (fun c18817 => ?_) (fun c18817 => ?_)
            · refine WP_aload_n dX3_faultInParts_112 rfl ?_
              refine WP_getr dX3_faultInParts_113 fX3_15 rfl (lyx_is hy 3 3 rfl) (rfx hr 3 2 1 (by decide)) ?_
              refine WP_callV0 (k := 5) dX3_faultInParts_116 ⟨⟨⟨by decide, by decide⟩, zX5_next⟩, lX3_40, by decide, rfl, vX5_next.1, vX5_next.2⟩ (lyx_is hy 1 5 rfl) (sx_nextf hy hr hI18806  ) (Nat.le_of_ble_eq_true rfl) ?_
              intro r I18819 J18820 Ra hq
              obtain ⟨⟨hI18819, ec, fiI18819, fjI18819⟩, rfl⟩ := hq
              rw [ec]
              clear ec Ra
              have fr18821 : fz 74 g [1, 4] I I18819 := fz_tr fr18809 (fz_mono fiI18819 (by decide))
              have fr18822 : fz 74 g [1] J J18820 := fz_tr fr18810 (fz_mono fjI18819 (by decide))
              have e18823 : I18819 (ad g 4) 0 = w18745 := by rw [fz_at fiI18819 4 (by decide) (by decide)]; exact e18811
              have e18824 : I18819 (ad g 4) 1 = w18780 := by rw [fz_at fiI18819 4 (by decide) (by decide)]; exact e18812
              have e18825 : I18819 (ad g 27) 1 = w18718 := by rw [fz_at fiI18819 27 (by decide) (by decide)]; exact e18813
              have e18826 : I18819 (ad g 27) 2 = w18719 := by rw [fz_at fiI18819 27 (by decide) (by decide)]; exact e18814
              have e18827 : I18819 (ad g 4) 2 = w18817 := by rw [fz_at fiI18819 4 (by decide) (by decide)]; exact ew18817
              have e18828 : I18819 (ad g 1) 1 = L := hI18819.2
              have b18829 := BT_get hI18819.1 1 1 2 (0) (0) (900) (by decide) 1 (by decide) (by decide)
              rw [e18828] at b18829
              refine WP_iinc (ls' := [(0, _), (1, _), (2, _), (3, _), (4, _), (5, _), (6, _), (7, _)]) dX3_faultInParts_119 rfl (by decide) rfl ?_
              have hv18830 : (v18792 + Int32.ofInt (1)).toInt = v18792.toInt + (1) := ia_n rfl (by omega) (by omega)
              generalize v18792 + Int32.ofInt (1) = v18830 at hv18830 ⊢
              refine WP_goto 8 dX3_faultInParts_122 rfl ?_
              refine WP_iload dX3_faultInParts_8 rfl ?_
              refine WP_aload_n dX3_faultInParts_10 rfl ?_
              refine WS_call hz (i := 13) (by omega) dX3_faultInParts_11 ⟨⟨by decide, by decide⟩, zJ0_length_8abf5⟩ lX3_87 vJ0_length_8abf5 (As := []) (rest := [.int v18830]) (j_length hz (i := 13) (by omega)) rfl rfl (Nat.le_of_ble_eq_true rfl) ?_
              intro r Ia Ja Ra hq
              obtain ⟨⟨ea, eb, ec⟩, v18831, rfl, cv18831⟩ := hq
              show WP _ _ _ _ (.int _ :: _) _ _ _ _
              rw [ea, eb, ec]
              clear ea eb ec Ia Ja Ra
              have hv18831 : v18831.toInt = 3 := cv18831.trans rfl
              refine WQ_icmp_ge 125 dX3_faultInParts_14 rfl (fun c18831 => ?_) (fun c18831 => False.elim (by omega))
              refine WP_aload_n dX3_faultInParts_125 rfl ?_
              refine WP_getr dX3_faultInParts_126 fX3_15 rfl (lyx_is hy 3 3 rfl) (rfx hr 3 2 1 (by decide)) ?_
              refine WQ_geti dX3_faultInParts_129 fX3_43 rfl (lyx_is hy 1 5 rfl) (BT_get hI18819.1 1 2 3 (0) (0) (4) (by decide) 2 (by decide) (by decide)) (fun v18833 ev18833 av18833 bv18833 => ?_)
              refine WQ_iconst (3) (3) dX3_faultInParts_132 rfl rfl (fun v18834 hv18834 => ?_)
              refine WQ_icmp_ne 140 dX3_faultInParts_133 rfl (fun c18834 => ?_) (fun c18834 => ?_)
              · refine WQ_iconst (1) (1) dX3_faultInParts_140 rfl rfl (fun v18836 hv18836 => ?_)
                exact WP_iret dX3_faultInParts_141 rfl ⟨⟨hI18819, rfl, fr18821, fr18822, ⟨trivial, (by rw [e18825, ew18718] <;> exact (eq32 _ _).mpr (by omega)), (by rw [e18826, ew18719] <;> exact (eq32 _ _).mpr (by omega))⟩⟩, _, rfl, by omega, by omega, by (try rw [e18823]; try rw [e18824]; try rw [e18827]); omega⟩
              · refine WQ_iconst (0) (0) dX3_faultInParts_136 rfl rfl (fun v18837 hv18837 => ?_)
                refine WP_goto 141 dX3_faultInParts_137 rfl ?_
                exact WP_iret dX3_faultInParts_141 rfl ⟨⟨hI18819, rfl, fr18821, fr18822, ⟨trivial, (by rw [e18825, ew18718] <;> exact (eq32 _ _).mpr (by omega)), (by rw [e18826, ew18719] <;> exact (eq32 _ _).mpr (by omega))⟩⟩, _, rfl, by omega, by omega, by (try rw [e18823]; try rw [e18824]; try rw [e18827]); omega⟩
            · refine WP_iload dX3_faultInParts_109 rfl ?_
              exact WP_iret dX3_faultInParts_111 rfl ⟨⟨hI18806, rfl, fr18809, fr18810, ⟨trivial, (by rw [e18813, ew18718] <;> exact (eq32 _ _).mpr (by omega)), (by rw [e18814, ew18719] <;> exact (eq32 _ _).mpr (by omega))⟩⟩, _, rfl, by omega, by omega, by (try rw [e18811]; try rw [e18812]; try rw [ew18817]); omega⟩
          · refine WQ_iconst (1) (1) dX3_faultInParts_72 rfl rfl (fun v18838 hv18838 => ?_)
            obtain ⟨w18839, ew18839⟩ : ∃ w : Int32, I18782 (ad g 4) 2 = w := ⟨_, rfl⟩
            have bw18839 := BT_get hI18782.1 4 0 5 (0) (0) (1000) (by decide) 2 (by decide) (by decide)
            rw [ew18839] at bw18839
            exact WP_iret dX3_faultInParts_73 rfl ⟨⟨hI18782, rfl, fr18784, fr18785, ⟨trivial, (by rw [e18787, ew18718] <;> exact (eq32 _ _).mpr (by omega)), (by rw [e18788, ew18719] <;> exact (eq32 _ _).mpr (by omega))⟩⟩, _, rfl, by omega, by omega, by (try rw [e18786]; try rw [e18789]; try rw [ew18839]); omega⟩
        · refine WP_iload dX3_faultInParts_109 rfl ?_
          obtain ⟨w18840, ew18840⟩ : ∃ w : Int32, I18770 (ad g 4) 2 = w := ⟨_, rfl⟩
          have bw18840 := BT_get hI18770.1 4 0 5 (0) (0) (1000) (by decide) 2 (by decide) (by decide)
          rw [ew18840] at bw18840
          exact WP_iret dX3_faultInParts_111 rfl ⟨⟨hI18770, rfl, fr18773, fr18774, ⟨trivial, (by rw [e18776, ew18718] <;> exact (eq32 _ _).mpr (by omega)), (by rw [e18777, ew18719] <;> exact (eq32 _ _).mpr (by omega))⟩⟩, _, rfl, by omega, by omega, by (try rw [e18775]; try rw [ew18780]; try rw [ew18840]); omega⟩
      · refine WQ_iconst (1) (1) dX3_faultInParts_72 rfl rfl (fun v18841 hv18841 => ?_)
        obtain ⟨w18842, ew18842⟩ : ∃ w : Int32, I18747 (ad g 4) 1 = w := ⟨_, rfl⟩
        have bw18842 := BT_get hI18747.1 4 0 5 (0) (0) (1000) (by decide) 1 (by decide) (by decide)
        rw [ew18842] at bw18842
        obtain ⟨w18843, ew18843⟩ : ∃ w : Int32, I18747 (ad g 4) 2 = w := ⟨_, rfl⟩
        have bw18843 := BT_get hI18747.1 4 0 5 (0) (0) (1000) (by decide) 2 (by decide) (by decide)
        rw [ew18843] at bw18843
        exact WP_iret dX3_faultInParts_73 rfl ⟨⟨hI18747, rfl, fr18749, fr18750, ⟨trivial, (by rw [e18751, ew18718] <;> exact (eq32 _ _).mpr (by omega)), (by rw [e18752, ew18719] <;> exact (eq32 _ _).mpr (by omega))⟩⟩, _, rfl, by omega, by omega, by (try rw [e18753]; try rw [ew18842]; try rw [ew18843]); omega⟩
    · refine WP_iload dX3_faultInParts_109 rfl ?_
      obtain ⟨w18844, ew18844⟩ : ∃ w : Int32, I18736 (ad g 4) 1 = w := ⟨_, rfl⟩
      have bw18844 := BT_get hI18736.1 4 0 5 (0) (0) (1000) (by decide) 1 (by decide) (by decide)
      rw [ew18844] at bw18844
      obtain ⟨w18845, ew18845⟩ : ∃ w : Int32, I18736 (ad g 4) 2 = w := ⟨_, rfl⟩
      have bw18845 := BT_get hI18736.1 4 0 5 (0) (0) (1000) (by decide) 2 (by decide) (by decide)
      rw [ew18845] at bw18845
      exact WP_iret dX3_faultInParts_111 rfl ⟨⟨hI18736, rfl, fr18739, fr18740, ⟨trivial, (by rw [e18741, ew18718] <;> exact (eq32 _ _).mpr (by omega)), (by rw [e18742, ew18719] <;> exact (eq32 _ _).mpr (by omega))⟩⟩, _, rfl, by omega, by omega, by (try rw [ew18745]; try rw [ew18844]; try rw [ew18845]); omega⟩
  · refine WQ_iconst (1) (1) dX3_faultInParts_72 rfl rfl (fun v18846 hv18846 => ?_)
    obtain ⟨w18847, ew18847⟩ : ∃ w : Int32, I (ad g 4) 0 = w := ⟨_, rfl⟩
    have bw18847 := BT_get hI.1 4 0 5 (0) (0) (1000) (by decide) 0 (by decide) (by decide)
    rw [ew18847] at bw18847
    obtain ⟨w18848, ew18848⟩ : ∃ w : Int32, I (ad g 4) 1 = w := ⟨_, rfl⟩
    have bw18848 := BT_get hI.1 4 0 5 (0) (0) (1000) (by decide) 1 (by decide) (by decide)
    rw [ew18848] at bw18848
    obtain ⟨w18849, ew18849⟩ : ∃ w : Int32, I (ad g 4) 2 = w := ⟨_, rfl⟩
    have bw18849 := BT_get hI.1 4 0 5 (0) (0) (1000) (by decide) 2 (by decide) (by decide)
    rw [ew18849] at bw18849
    exact WP_iret dX3_faultInParts_73 rfl ⟨⟨hI, rfl, fr0, frj0, ⟨trivial, rfl, rfl⟩⟩, _, rfl, by omega, by omega, by (try rw [ew18847]; try rw [ew18848]; try rw [ew18849]); omega⟩
set_option maxHeartbeats 4000000 in
set_option maxRecDepth 100000 in
theorem sx_parts_27_4 {g : GG} {n : Int} {L : Int32} (hy : LyX g) {aK aV : Nat → Nat} {fo : Option Nat} (hz : HZ g aK aV fo)  {I : pI} {J : pJ} {R : pR} (hr : RfX g R) (hI : XI g n L I) (cz : Int32) (cz_lo : 4 ≤ cz.toInt) (cz_hi : cz.toInt ≤ 4) : SP g mX3_faultInParts [.ref (ad g 3), .int cz, .ref (ad g 27)] I J R (fun r I' J' R' => (XI g n L I' ∧ R' = R ∧ fz 74 g [1, 4] I I' ∧ fz 74 g [1] J J' ∧ True ∧ I' (ad g 27) 1 = I (ad g 27) 1 ∧ I' (ad g 27) 2 = I (ad g 27) 2) ∧ ∃ v : Int32, r = some (.int v) ∧ 0 ≤ v.toInt ∧ v.toInt ≤ 5 ∧ (v.toInt = 0 → (I' (ad g 4) 0).toInt ≤ 2 ∧ (I' (ad g 4) 1).toInt ≤ 6 ∧ (I' (ad g 4) 2).toInt ≤ 20)) := by
  refine SP_of ⟨by decide, rfl⟩ (Nat.le_of_ble_eq_true rfl) ?_
  have e18850 : I (ad g 1) 1 = L := hI.2
  have b18851 := BT_get hI.1 1 1 2 (0) (0) (900) (by decide) 1 (by decide) (by decide)
  rw [e18850] at b18851
  have fr0 : fz 74 g [1, 4] I I := fz_rf
  have frj0 : fz 74 g [1] J J := fz_rf
  obtain ⟨w18852, ew18852⟩ : ∃ w : Int32, I (ad g 27) 1 = w := ⟨_, rfl⟩
  have bw18852 := BT_get hI.1 27 1 2 (0) (0) (4) (by decide) 1 (by decide) (by decide)
  rw [ew18852] at bw18852
  obtain ⟨w18853, ew18853⟩ : ∃ w : Int32, I (ad g 27) 2 = w := ⟨_, rfl⟩
  have bw18853 := BT_get hI.1 27 2 3 (0) (0) (3) (by decide) 2 (by decide) (by decide)
  rw [ew18853] at bw18853
  refine WP_iload_n dX3_faultInParts_0 rfl ?_
  refine WP_callS1 dX3_faultInParts_1 ⟨⟨⟨by decide, by decide⟩, zX3_shapeOf⟩, lX3_84, tX3_shapeOf⟩ (sx_shapeOf hy hz hr hI cz (by omega) (by omega)) (Nat.le_of_ble_eq_true rfl) ?_
  intro r Ia Ja Ra hq
  obtain ⟨⟨ea, eb, ec⟩, rfl⟩ := hq
  show WP _ _ _ _ (.ref _ :: _) _ _ _ _
  rw [show 10 + cz.toInt.toNat = 14 by omega]
  rw [ea, eb, ec]
  clear ea eb ec Ia Ja Ra
  refine WP_astore_n (ls' := [(0, _), (1, _), (2, _), (3, _)]) dX3_faultInParts_4 (by decide) rfl ?_
  refine WQ_iconst (0) (0) dX3_faultInParts_5 rfl rfl (fun v18854 hv18854 => ?_)
  refine WP_istore (ls' := [(0, _), (1, _), (2, _), (3, _), (4, _)]) dX3_faultInParts_6 (by decide) rfl ?_
  refine WP_iload dX3_faultInParts_8 rfl ?_
  refine WP_aload_n dX3_faultInParts_10 rfl ?_
  refine WS_call hz (i := 14) (by omega) dX3_faultInParts_11 ⟨⟨by decide, by decide⟩, zJ0_length_8abf5⟩ lX3_87 vJ0_length_8abf5 (As := []) (rest := [.int v18854]) (j_length hz (i := 14) (by omega)) rfl rfl (Nat.le_of_ble_eq_true rfl) ?_
  intro r Ia Ja Ra hq
  obtain ⟨⟨ea, eb, ec⟩, v18855, rfl, cv18855⟩ := hq
  show WP _ _ _ _ (.int _ :: _) _ _ _ _
  rw [ea, eb, ec]
  clear ea eb ec Ia Ja Ra
  have hv18855 : v18855.toInt = 3 := cv18855.trans rfl
  refine WQ_icmp_ge 125 dX3_faultInParts_14 rfl (fun c18855 => False.elim (by omega)) (fun c18855 => ?_)
  refine WP_iload dX3_faultInParts_17 rfl ?_
  refine WQ_iconst (5) (5) dX3_faultInParts_19 rfl rfl (fun v18857 hv18857 => ?_)
  refine WQ_icmp_ge 125 dX3_faultInParts_20 rfl (fun c18857 => False.elim (by omega)) (fun c18857 => ?_)
  refine WP_aload_n dX3_faultInParts_23 rfl ?_
  refine WP_iload dX3_faultInParts_24 rfl ?_
  refine WS_call hz (i := 14) (by omega) dX3_faultInParts_26 ⟨⟨by decide, by decide⟩, zJ0_charAt_5068e⟩ lX3_92 vJ0_charAt_5068e (As := [.int v18854]) (rest := []) (j_charAt hz (i := 14) (k := v18854) (by omega) (by omega) (by have z9 : ((liN.getD 14 0 : Nat) : Int) = 3 := rfl; omega)) rfl rfl (Nat.le_of_ble_eq_true rfl) ?_
  intro r Ia Ja Ra hq
  obtain ⟨⟨ea, eb, ec⟩, v18859, rfl, cv18859⟩ := hq
  show WP _ _ _ _ (.int _ :: _) _ _ _ _
  rw [ea, eb, ec]
  clear ea eb ec Ia Ja Ra
  have hv18859 : v18859.toInt = 116 := cv18859.trans (by rw [show v18854.toInt.toNat = 0 by omega]; rfl)
  refine WP_istore (ls' := [(0, _), (1, _), (2, _), (3, _), (4, _), (5, _)]) dX3_faultInParts_29 (by decide) rfl ?_
  refine WP_iload dX3_faultInParts_31 rfl ?_
  refine WQ_bipush (97) (97) dX3_faultInParts_33 rfl rfl (fun v18860 hv18860 => ?_)
  refine WQ_icmp_lt 49 dX3_faultInParts_35 rfl (fun c18860 => False.elim (by omega)) (fun c18860 => ?_)
  refine WP_iload dX3_faultInParts_38 rfl ?_
  refine WQ_bipush (122) (122) dX3_faultInParts_40 rfl rfl (fun v18862 hv18862 => ?_)
  refine WQ_icmp_gt 49 dX3_faultInParts_42 rfl (fun c18862 => False.elim (by omega)) (fun c18862 => ?_)
  refine WQ_iconst (1) (1) dX3_faultInParts_45 rfl rfl (fun v18864 hv18864 => ?_)
  refine WP_goto 50 dX3_faultInParts_46 rfl ?_
  refine WP_istore (ls' := [(0, _), (1, _), (2, _), (3, _), (4, _), (5, _), (6, _)]) dX3_faultInParts_50 (by decide) rfl ?_
  refine WP_aload_n dX3_faultInParts_52 rfl ?_
  refine WP_getr dX3_faultInParts_53 fX3_15 rfl (lyx_is hy 3 3 rfl) (rfx hr 3 2 1 (by decide)) ?_
  refine WQ_geti dX3_faultInParts_56 fX3_43 rfl (lyx_is hy 1 5 rfl) (BT_get hI.1 1 2 3 (0) (0) (4) (by decide) 2 (by decide) (by decide)) (fun v18865 ev18865 av18865 bv18865 => ?_)
  refine WP_iload dX3_faultInParts_59 rfl ?_
  refine WQ_if_eq 68 dX3_faultInParts_61 rfl (fun c18865 => False.elim (by omega)) (fun c18865 => ?_)
  refine WQ_iconst (1) (1) dX3_faultInParts_64 rfl rfl (fun v18867 hv18867 => ?_)
  refine WP_goto 69 dX3_faultInParts_65 rfl ?_
  refine WQ_icmp_eq 74 dX3_faultInParts_69 rfl (fun c18867 => ?_) (fun c18867 => ?_)
  · refine WP_iload dX3_faultInParts_74 rfl ?_
    refine WQ_if_eq 92 dX3_faultInParts_76 rfl (fun c18868 => False.elim (by omega)) (fun c18868 => ?_)
    refine WP_aload_n dX3_faultInParts_79 rfl ?_
    refine WP_iload dX3_faultInParts_80 rfl ?_
    refine WP_iload_n dX3_faultInParts_82 rfl ?_
    refine WP_iload dX3_faultInParts_83 rfl ?_
    refine WP_aload_n dX3_faultInParts_85 rfl ?_
    refine WP_callV4 (k := 3) dX3_faultInParts_86 ⟨⟨⟨by decide, by decide⟩, zX3_faultOfName⟩, lX3_96, by decide, rfl, vX3_faultOfName.1, vX3_faultOfName.2⟩ (lyx_is hy 3 3 rfl) (sx_part_27_4_0 hy hr hI v18859 cz v18854 (by omega) (by omega) (by omega) (by omega) (by omega) (by omega)) (Nat.le_of_ble_eq_true rfl) ?_
    intro r I18870 J18871 Ra hq
    obtain ⟨⟨hI18870, ec, fiI18870, fjI18870, ⟨pI18870, sI18870_27_1, sI18870_27_2⟩⟩, v18872, rfl, av18872, bv18872, cv18872⟩ := hq
    show WP _ _ _ _ (.int _ :: _) _ _ _ _
    rw [ec]
    clear ec Ra
    have fr18873 : fz 74 g [1, 4] I I18870 := fz_tr fr0 (fz_mono fiI18870 (by decide))
    have fr18874 : fz 74 g [1] J J18871 := fz_tr frj0 (fz_mono fjI18870 (by decide))
    have e18875 : I18870 (ad g 27) 1 = w18852 := by rw [sI18870_27_1]; exact ew18852
    have e18876 : I18870 (ad g 27) 2 = w18853 := by rw [sI18870_27_2]; exact ew18853
    have e18877 : I18870 (ad g 1) 1 = L := hI18870.2
    have b18878 := BT_get hI18870.1 1 1 2 (0) (0) (900) (by decide) 1 (by decide) (by decide)
    rw [e18877] at b18878
    obtain ⟨w18879, ew18879⟩ : ∃ w : Int32, I18870 (ad g 4) 0 = w := ⟨_, rfl⟩
    have bw18879 := BT_get hI18870.1 4 0 5 (0) (0) (1000) (by decide) 0 (by decide) (by decide)
    rw [ew18879] at bw18879
    rw [ew18879] at cv18872
    refine WP_goto 102 dX3_faultInParts_89 rfl ?_
    refine WP_istore (ls' := [(0, _), (1, _), (2, _), (3, _), (4, _), (5, _), (6, _), (7, _)]) dX3_faultInParts_102 (by decide) rfl ?_
    refine WP_iload dX3_faultInParts_104 rfl ?_
    refine WQ_if_eq 112 dX3_faultInParts_106 rfl (fun c18879 => ?_) (fun c18879 => ?_)
    · refine WP_aload_n dX3_faultInParts_112 rfl ?_
      refine WP_getr dX3_faultInParts_113 fX3_15 rfl (lyx_is hy 3 3 rfl) (rfx hr 3 2 1 (by decide)) ?_
      refine WP_callV0 (k := 5) dX3_faultInParts_116 ⟨⟨⟨by decide, by decide⟩, zX5_next⟩, lX3_40, by decide, rfl, vX5_next.1, vX5_next.2⟩ (lyx_is hy 1 5 rfl) (sx_nextf hy hr hI18870  ) (Nat.le_of_ble_eq_true rfl) ?_
      intro r I18881 J18882 Ra hq
      obtain ⟨⟨hI18881, ec, fiI18881, fjI18881⟩, rfl⟩ := hq
      rw [ec]
      clear ec Ra
      have fr18883 : fz 74 g [1, 4] I I18881 := fz_tr fr18873 (fz_mono fiI18881 (by decide))
      have fr18884 : fz 74 g [1] J J18882 := fz_tr fr18874 (fz_mono fjI18881 (by decide))
      have e18885 : I18881 (ad g 27) 1 = w18852 := by rw [fz_at fiI18881 27 (by decide) (by decide)]; exact e18875
      have e18886 : I18881 (ad g 27) 2 = w18853 := by rw [fz_at fiI18881 27 (by decide) (by decide)]; exact e18876
      have e18887 : I18881 (ad g 4) 0 = w18879 := by rw [fz_at fiI18881 4 (by decide) (by decide)]; exact ew18879
      have e18888 : I18881 (ad g 1) 1 = L := hI18881.2
      have b18889 := BT_get hI18881.1 1 1 2 (0) (0) (900) (by decide) 1 (by decide) (by decide)
      rw [e18888] at b18889
      refine WP_iinc (ls' := [(0, _), (1, _), (2, _), (3, _), (4, _), (5, _), (6, _), (7, _)]) dX3_faultInParts_119 rfl (by decide) rfl ?_
      have hv18890 : (v18854 + Int32.ofInt (1)).toInt = v18854.toInt + (1) := ia_n rfl (by omega) (by omega)
      generalize v18854 + Int32.ofInt (1) = v18890 at hv18890 ⊢
      refine WP_goto 8 dX3_faultInParts_122 rfl ?_
      refine WP_iload dX3_faultInParts_8 rfl ?_
      refine WP_aload_n dX3_faultInParts_10 rfl ?_
      refine WS_call hz (i := 14) (by omega) dX3_faultInParts_11 ⟨⟨by decide, by decide⟩, zJ0_length_8abf5⟩ lX3_87 vJ0_length_8abf5 (As := []) (rest := [.int v18890]) (j_length hz (i := 14) (by omega)) rfl rfl (Nat.le_of_ble_eq_true rfl) ?_
      intro r Ia Ja Ra hq
      obtain ⟨⟨ea, eb, ec⟩, v18891, rfl, cv18891⟩ := hq
      show WP _ _ _ _ (.int _ :: _) _ _ _ _
      rw [ea, eb, ec]
      clear ea eb ec Ia Ja Ra
      have hv18891 : v18891.toInt = 3 := cv18891.trans rfl
      refine WQ_icmp_ge 125 dX3_faultInParts_14 rfl (fun c18891 => False.elim (by omega)) (fun c18891 => ?_)
      refine WP_iload dX3_faultInParts_17 rfl ?_
      refine WQ_iconst (5) (5) dX3_faultInParts_19 rfl rfl (fun v18893 hv18893 => ?_)
      refine WQ_icmp_ge 125 dX3_faultInParts_20 rfl (fun c18893 => False.elim (by omega)) (fun c18893 => ?_)
      refine WP_aload_n dX3_faultInParts_23 rfl ?_
      refine WP_iload dX3_faultInParts_24 rfl ?_
      refine WS_call hz (i := 14) (by omega) dX3_faultInParts_26 ⟨⟨by decide, by decide⟩, zJ0_charAt_5068e⟩ lX3_92 vJ0_charAt_5068e (As := [.int v18890]) (rest := []) (j_charAt hz (i := 14) (k := v18890) (by omega) (by omega) (by have z9 : ((liN.getD 14 0 : Nat) : Int) = 3 := rfl; omega)) rfl rfl (Nat.le_of_ble_eq_true rfl) ?_
      intro r Ia Ja Ra hq
      obtain ⟨⟨ea, eb, ec⟩, v18895, rfl, cv18895⟩ := hq
      show WP _ _ _ _ (.int _ :: _) _ _ _ _
      rw [ea, eb, ec]
      clear ea eb ec Ia Ja Ra
      have hv18895 : v18895.toInt = 68 := cv18895.trans (by rw [show v18890.toInt.toNat = 1 by omega]; rfl)
      refine WP_istore (ls' := [(0, _), (1, _), (2, _), (3, _), (4, _), (5, _), (6, _), (7, _)]) dX3_faultInParts_29 (by decide) rfl ?_
      refine WP_iload dX3_faultInParts_31 rfl ?_
      refine WQ_bipush (97) (97) dX3_faultInParts_33 rfl rfl (fun v18896 hv18896 => ?_)
      refine WQ_icmp_lt 49 dX3_faultInParts_35 rfl (fun c18896 => ?_) (fun c18896 => False.elim (by omega))
      refine WQ_iconst (0) (0) dX3_faultInParts_49 rfl rfl (fun v18898 hv18898 => ?_)
      refine WP_istore (ls' := [(0, _), (1, _), (2, _), (3, _), (4, _), (5, _), (6, _), (7, _)]) dX3_faultInParts_50 (by decide) rfl ?_
      refine WP_aload_n dX3_faultInParts_52 rfl ?_
      refine WP_getr dX3_faultInParts_53 fX3_15 rfl (lyx_is hy 3 3 rfl) (rfx hr 3 2 1 (by decide)) ?_
      refine WQ_geti dX3_faultInParts_56 fX3_43 rfl (lyx_is hy 1 5 rfl) (BT_get hI18881.1 1 2 3 (0) (0) (4) (by decide) 2 (by decide) (by decide)) (fun v18899 ev18899 av18899 bv18899 => ?_)
      refine WP_iload dX3_faultInParts_59 rfl ?_
      refine WQ_if_eq 68 dX3_faultInParts_61 rfl (fun c18899 => ?_) (fun c18899 => False.elim (by omega))
      refine WQ_iconst (2) (2) dX3_faultInParts_68 rfl rfl (fun v18901 hv18901 => ?_)
      refine WQ_icmp_eq 74 dX3_faultInParts_69 rfl (fun c18901 => ?_) (fun c18901 => ?_)
      · refine WP_iload dX3_faultInParts_74 rfl ?_
        refine WQ_if_eq 92 dX3_faultInParts_76 rfl (fun c18902 => ?_) (fun c18902 => False.elim (by omega))
        refine WP_aload_n dX3_faultInParts_92 rfl ?_
        refine WP_iload dX3_faultInParts_93 rfl ?_
        refine WP_iload_n dX3_faultInParts_95 rfl ?_
        refine WP_iload dX3_faultInParts_96 rfl ?_
        refine WP_aload_n dX3_faultInParts_98 rfl ?_
        refine WP_callV4 (k := 3) dX3_faultInParts_99 ⟨⟨⟨by decide, by decide⟩, zX3_faultOfNumber⟩, lX3_100, by decide, rfl, vX3_faultOfNumber.1, vX3_faultOfNumber.2⟩ (lyx_is hy 3 3 rfl) (sx_part_27_4_1 hy hr hI18881 v18895 cz v18890 (by omega) (by omega) (by omega) (by omega) (by omega) (by omega) (by rw [e18887]; omega)) (Nat.le_of_ble_eq_true rfl) ?_
        intro r I18904 J18905 Ra hq
        obtain ⟨⟨hI18904, ec, fiI18904, fjI18904, ⟨pI18904, sI18904_4_0, sI18904_27_1, sI18904_27_2⟩⟩, v18906, rfl, av18906, bv18906, cv18906⟩ := hq
        show WP _ _ _ _ (.int _ :: _) _ _ _ _
        rw [ec]
        clear ec Ra
        have fr18907 : fz 74 g [1, 4] I I18904 := fz_tr fr18883 (fz_mono fiI18904 (by decide))
        have fr18908 : fz 74 g [1] J J18905 := fz_tr fr18884 (fz_mono fjI18904 (by decide))
        have e18909 : I18904 (ad g 4) 0 = w18879 := by rw [sI18904_4_0]; exact e18887
        have e18910 : I18904 (ad g 27) 1 = w18852 := by rw [sI18904_27_1]; exact e18885
        have e18911 : I18904 (ad g 27) 2 = w18853 := by rw [sI18904_27_2]; exact e18886
        have e18912 : I18904 (ad g 1) 1 = L := hI18904.2
        have b18913 := BT_get hI18904.1 1 1 2 (0) (0) (900) (by decide) 1 (by decide) (by decide)
        rw [e18912] at b18913
        obtain ⟨w18914, ew18914⟩ : ∃ w : Int32, I18904 (ad g 4) 1 = w := ⟨_, rfl⟩
        have bw18914 := BT_get hI18904.1 4 0 5 (0) (0) (1000) (by decide) 1 (by decide) (by decide)
        rw [ew18914] at bw18914
        rw [ew18914] at cv18906
        refine WP_istore (ls' := [(0, _), (1, _), (2, _), (3, _), (4, _), (5, _), (6, _), (7, _)]) dX3_faultInParts_102 (by decide) rfl ?_
        refine WP_iload dX3_faultInParts_104 rfl ?_
        refine WQ_if_eq 112 dX3_faultInParts_106 rfl (fun c18914 => ?_) (fun c18914 => ?_)
        · refine WP_aload_n dX3_faultInParts_112 rfl ?_
          refine WP_getr dX3_faultInParts_113 fX3_15 rfl (lyx_is hy 3 3 rfl) (rfx hr 3 2 1 (by decide)) ?_
          refine WP_callV0 (k := 5) dX3_faultInParts_116 ⟨⟨⟨by decide, by decide⟩, zX5_next⟩, lX3_40, by decide, rfl, vX5_next.1, vX5_next.2⟩ (lyx_is hy 1 5 rfl) (sx_nextf hy hr hI18904  ) (Nat.le_of_ble_eq_true rfl) ?_
          intro r I18916 J18917 Ra hq
          obtain ⟨⟨hI18916, ec, fiI18916, fjI18916⟩, rfl⟩ := hq
          rw [ec]
          clear ec Ra
          have fr18918 : fz 74 g [1, 4] I I18916 := fz_tr fr18907 (fz_mono fiI18916 (by decide))
          have fr18919 : fz 74 g [1] J J18917 := fz_tr fr18908 (fz_mono fjI18916 (by decide))
          have e18920 : I18916 (ad g 4) 0 = w18879 := by rw [fz_at fiI18916 4 (by decide) (by decide)]; exact e18909
          have e18921 : I18916 (ad g 27) 1 = w18852 := by rw [fz_at fiI18916 27 (by decide) (by decide)]; exact e18910
          have e18922 : I18916 (ad g 27) 2 = w18853 := by rw [fz_at fiI18916 27 (by decide) (by decide)]; exact e18911
          have e18923 : I18916 (ad g 4) 1 = w18914 := by rw [fz_at fiI18916 4 (by decide) (by decide)]; exact ew18914
          have e18924 : I18916 (ad g 1) 1 = L := hI18916.2
          have b18925 := BT_get hI18916.1 1 1 2 (0) (0) (900) (by decide) 1 (by decide) (by decide)
          rw [e18924] at b18925
          refine WP_iinc (ls' := [(0, _), (1, _), (2, _), (3, _), (4, _), (5, _), (6, _), (7, _)]) dX3_faultInParts_119 rfl (by decide) rfl ?_
          have hv18926 : (v18890 + Int32.ofInt (1)).toInt = v18890.toInt + (1) := ia_n rfl (by omega) (by omega)
          generalize v18890 + Int32.ofInt (1) = v18926 at hv18926 ⊢
          refine WP_goto 8 dX3_faultInParts_122 rfl ?_
          refine WP_iload dX3_faultInParts_8 rfl ?_
          refine WP_aload_n dX3_faultInParts_10 rfl ?_
          refine WS_call hz (i := 14) (by omega) dX3_faultInParts_11 ⟨⟨by decide, by decide⟩, zJ0_length_8abf5⟩ lX3_87 vJ0_length_8abf5 (As := []) (rest := [.int v18926]) (j_length hz (i := 14) (by omega)) rfl rfl (Nat.le_of_ble_eq_true rfl) ?_
          intro r Ia Ja Ra hq
          obtain ⟨⟨ea, eb, ec⟩, v18927, rfl, cv18927⟩ := hq
          show WP _ _ _ _ (.int _ :: _) _ _ _ _
          rw [ea, eb, ec]
          clear ea eb ec Ia Ja Ra
          have hv18927 : v18927.toInt = 3 := cv18927.trans rfl
          refine WQ_icmp_ge 125 dX3_faultInParts_14 rfl (fun c18927 => False.elim (by omega)) (fun c18927 => ?_)
          refine WP_iload dX3_faultInParts_17 rfl ?_
          refine WQ_iconst (5) (5) dX3_faultInParts_19 rfl rfl (fun v18929 hv18929 => ?_)
          refine WQ_icmp_ge 125 dX3_faultInParts_20 rfl (fun c18929 => False.elim (by omega)) (fun c18929 => ?_)
          refine WP_aload_n dX3_faultInParts_23 rfl ?_
          refine WP_iload dX3_faultInParts_24 rfl ?_
          refine WS_call hz (i := 14) (by omega) dX3_faultInParts_26 ⟨⟨by decide, by decide⟩, zJ0_charAt_5068e⟩ lX3_92 vJ0_charAt_5068e (As := [.int v18926]) (rest := []) (j_charAt hz (i := 14) (k := v18926) (by omega) (by omega) (by have z9 : ((liN.getD 14 0 : Nat) : Int) = 3 := rfl; omega)) rfl rfl (Nat.le_of_ble_eq_true rfl) ?_
          intro r Ia Ja Ra hq
          obtain ⟨⟨ea, eb, ec⟩, v18931, rfl, cv18931⟩ := hq
          show WP _ _ _ _ (.int _ :: _) _ _ _ _
          rw [ea, eb, ec]
          clear ea eb ec Ia Ja Ra
          have hv18931 : v18931.toInt = 69 := cv18931.trans (by rw [show v18926.toInt.toNat = 2 by omega]; rfl)
          refine WP_istore (ls' := [(0, _), (1, _), (2, _), (3, _), (4, _), (5, _), (6, _), (7, _)]) dX3_faultInParts_29 (by decide) rfl ?_
          refine WP_iload dX3_faultInParts_31 rfl ?_
          refine WQ_bipush (97) (97) dX3_faultInParts_33 rfl rfl (fun v18932 hv18932 => ?_)
          refine WQ_icmp_lt 49 dX3_faultInParts_35 rfl (fun c18932 => ?_) (fun c18932 => False.elim (by omega))
          refine WQ_iconst (0) (0) dX3_faultInParts_49 rfl rfl (fun v18934 hv18934 => ?_)
          refine WP_istore (ls' := [(0, _), (1, _), (2, _), (3, _), (4, _), (5, _), (6, _), (7, _)]) dX3_faultInParts_50 (by decide) rfl ?_
          refine WP_aload_n dX3_faultInParts_52 rfl ?_
          refine WP_getr dX3_faultInParts_53 fX3_15 rfl (lyx_is hy 3 3 rfl) (rfx hr 3 2 1 (by decide)) ?_
          refine WQ_geti dX3_faultInParts_56 fX3_43 rfl (lyx_is hy 1 5 rfl) (BT_get hI18916.1 1 2 3 (0) (0) (4) (by decide) 2 (by decide) (by decide)) (fun v18935 ev18935 av18935 bv18935 => ?_)
          refine WP_iload dX3_faultInParts_59 rfl ?_
          refine WQ_if_eq 68 dX3_faultInParts_61 rfl (fun c18935 => ?_) (fun c18935 => False.elim (by omega))
          refine WQ_iconst (2) (2) dX3_faultInParts_68 rfl rfl (fun v18937 hv18937 => ?_)
          refine WQ_icmp_eq 74 dX3_faultInParts_69 rfl (fun c18937 => ?_) (fun c18937 => ?_)
          · refine WP_iload dX3_faultInParts_74 rfl ?_
            refine WQ_if_eq 92 dX3_faultInParts_76 rfl (fun c18938 => ?_) (fun c18938 => False.elim (by omega))
            refine WP_aload_n dX3_faultInParts_92 rfl ?_
            refine WP_iload dX3_faultInParts_93 rfl ?_
            refine WP_iload_n dX3_faultInParts_95 rfl ?_
            refine WP_iload dX3_faultInParts_96 rfl ?_
            refine WP_aload_n dX3_faultInParts_98 rfl ?_
            refine WP_callV4 (k := 3) dX3_faultInParts_99 ⟨⟨⟨by decide, by decide⟩, zX3_faultOfNumber⟩, lX3_100, by decide, rfl, vX3_faultOfNumber.1, vX3_faultOfNumber.2⟩ (lyx_is hy 3 3 rfl) (sx_part_27_4_2 hy hr hI18916 v18931 cz v18926 (by omega) (by omega) (by omega) (by omega) (by omega) (by omega)) (Nat.le_of_ble_eq_true rfl) ?_
            intro r I18940 J18941 Ra hq
            obtain ⟨⟨hI18940, ec, fiI18940, fjI18940, ⟨pI18940, sI18940_4_0, sI18940_4_1, sI18940_27_1, sI18940_27_2⟩⟩, v18942, rfl, av18942, bv18942, cv18942⟩ := hq
            show WP _ _ _ _ (.int _ :: _) _ _ _ _
            rw [ec]
            clear ec Ra
            have fr18943 : fz 74 g [1, 4] I I18940 := fz_tr fr18918 (fz_mono fiI18940 (by decide))
            have fr18944 : fz 74 g [1] J J18941 := fz_tr fr18919 (fz_mono fjI18940 (by decide))
            have e18945 : I18940 (ad g 4) 0 = w18879 := by rw [sI18940_4_0]; exact e18920
            have e18946 : I18940 (ad g 4) 1 = w18914 := by rw [sI18940_4_1]; exact e18923
            have e18947 : I18940 (ad g 27) 1 = w18852 := by rw [sI18940_27_1]; exact e18921
            have e18948 : I18940 (ad g 27) 2 = w18853 := by rw [sI18940_27_2]; exact e18922
            have e18949 : I18940 (ad g 1) 1 = L := hI18940.2
            have b18950 := BT_get hI18940.1 1 1 2 (0) (0) (900) (by decide) 1 (by decide) (by decide)
            rw [e18949] at b18950
            obtain ⟨w18951, ew18951⟩ : ∃ w : Int32, I18940 (ad g 4) 2 = w := ⟨_, rfl⟩
            have bw18951 := BT_get hI18940.1 4 0 5 (0) (0) (1000) (by decide) 2 (by decide) (by decide)
            rw [ew18951] at bw18951
            rw [ew18951] at cv18942
            refine WP_istore (ls' := [(0, _), (1, _), (2, _), (3, _), (4, _), (5, _), (6, _), (7, _)]) dX3_faultInParts_102 (by decide) rfl ?_
            refine WP_iload dX3_faultInParts_104 rfl ?_
            refine WQ_if_eq 112 dX3_faultInParts_106 rfl (fun c18951 => ?_) (fun c18951 => ?_)
            · refine WP_aload_n dX3_faultInParts_112 rfl ?_
              refine WP_getr dX3_faultInParts_113 fX3_15 rfl (lyx_is hy 3 3 rfl) (rfx hr 3 2 1 (by decide)) ?_
              refine WP_callV0 (k := 5) dX3_faultInParts_116 ⟨⟨⟨by decide, by decide⟩, zX5_next⟩, lX3_40, by decide, rfl, vX5_next.1, vX5_next.2⟩ (lyx_is hy 1 5 rfl) (sx_nextf hy hr hI18940  ) (Nat.le_of_ble_eq_true rfl) ?_
              intro r I18953 J18954 Ra hq
              obtain ⟨⟨hI18953, ec, fiI18953, fjI18953⟩, rfl⟩ := hq
              rw [ec]
              clear ec Ra
              have fr18955 : fz 74 g [1, 4] I I18953 := fz_tr fr18943 (fz_mono fiI18953 (by decide))
              have fr18956 : fz 74 g [1] J J18954 := fz_tr fr18944 (fz_mono fjI18953 (by decide))
              have e18957 : I18953 (ad g 4) 0 = w18879 := by rw [fz_at fiI18953 4 (by decide) (by decide)]; exact e18945
              have e18958 : I18953 (ad g 4) 1 = w18914 := by rw [fz_at fiI18953 4 (by decide) (by decide)]; exact e18946
              have e18959 : I18953 (ad g 27) 1 = w18852 := by rw [fz_at fiI18953 27 (by decide) (by decide)]; exact e18947
              have e18960 : I18953 (ad g 27) 2 = w18853 := by rw [fz_at fiI18953 27 (by decide) (by decide)]; exact e18948
              have e18961 : I18953 (ad g 4) 2 = w18951 := by rw [fz_at fiI18953 4 (by decide) (by decide)]; exact ew18951
              have e18962 : I18953 (ad g 1) 1 = L := hI18953.2
              have b18963 := BT_get hI18953.1 1 1 2 (0) (0) (900) (by decide) 1 (by decide) (by decide)
              rw [e18962] at b18963
              refine WP_iinc (ls' := [(0, _), (1, _), (2, _), (3, _), (4, _), (5, _), (6, _), (7, _)]) dX3_faultInParts_119 rfl (by decide) rfl ?_
              have hv18964 : (v18926 + Int32.ofInt (1)).toInt = v18926.toInt + (1) := ia_n rfl (by omega) (by omega)
              generalize v18926 + Int32.ofInt (1) = v18964 at hv18964 ⊢
              refine WP_goto 8 dX3_faultInParts_122 rfl ?_
              refine WP_iload dX3_faultInParts_8 rfl ?_
              refine WP_aload_n dX3_faultInParts_10 rfl ?_
              refine WS_call hz (i := 14) (by omega) dX3_faultInParts_11 ⟨⟨by decide, by decide⟩, zJ0_length_8abf5⟩ lX3_87 vJ0_length_8abf5 (As := []) (rest := [.int v18964]) (j_length hz (i := 14) (by omega)) rfl rfl (Nat.le_of_ble_eq_true rfl) ?_
              intro r Ia Ja Ra hq
              obtain ⟨⟨ea, eb, ec⟩, v18965, rfl, cv18965⟩ := hq
              show WP _ _ _ _ (.int _ :: _) _ _ _ _
              rw [ea, eb, ec]
              clear ea eb ec Ia Ja Ra
              have hv18965 : v18965.toInt = 3 := cv18965.trans rfl
              refine WQ_icmp_ge 125 dX3_faultInParts_14 rfl (fun c18965 => ?_) (fun c18965 => False.elim (by omega))
              refine WP_aload_n dX3_faultInParts_125 rfl ?_
              refine WP_getr dX3_faultInParts_126 fX3_15 rfl (lyx_is hy 3 3 rfl) (rfx hr 3 2 1 (by decide)) ?_
              refine WQ_geti dX3_faultInParts_129 fX3_43 rfl (lyx_is hy 1 5 rfl) (BT_get hI18953.1 1 2 3 (0) (0) (4) (by decide) 2 (by decide) (by decide)) (fun v18967 ev18967 av18967 bv18967 => ?_)
              refine WQ_iconst (3) (3) dX3_faultInParts_132 rfl rfl (fun v18968 hv18968 => ?_)
              refine WQ_icmp_ne 140 dX3_faultInParts_133 rfl (fun c18968 => ?_) (fun c18968 => ?_)
              · refine WQ_iconst (1) (1) dX3_faultInParts_140 rfl rfl (fun v18970 hv18970 => ?_)
                exact WP_iret dX3_faultInParts_141 rfl ⟨⟨hI18953, rfl, fr18955, fr18956, ⟨trivial, (by rw [e18959, ew18852] <;> exact (eq32 _ _).mpr (by omega)), (by rw [e18960, ew18853] <;> exact (eq32 _ _).mpr (by omega))⟩⟩, _, rfl, by omega, by omega, by (try rw [e18957]; try rw [e18958]; try rw [e18961]); omega⟩
              · refine WQ_iconst (0) (0) dX3_faultInParts_136 rfl rfl (fun v18971 hv18971 => ?_)
                refine WP_goto 141 dX3_faultInParts_137 rfl ?_
                exact WP_iret dX3_faultInParts_141 rfl ⟨⟨hI18953, rfl, fr18955, fr18956, ⟨trivial, (by rw [e18959, ew18852] <;> exact (eq32 _ _).mpr (by omega)), (by rw [e18960, ew18853] <;> exact (eq32 _ _).mpr (by omega))⟩⟩, _, rfl, by omega, by omega, by (try rw [e18957]; try rw [e18958]; try rw [e18961]); omega⟩
            · refine WP_iload dX3_faultInParts_109 rfl ?_
              exact WP_iret dX3_faultInParts_111 rfl ⟨⟨hI18940, rfl, fr18943, fr18944, ⟨trivial, (by rw [e18947, ew18852] <;> exact (eq32 _ _).mpr (by omega)), (by rw [e18948, ew18853] <;> exact (eq32 _ _).mpr (by omega))⟩⟩, _, rfl, by omega, by omega, by (try rw [e18945]; try rw [e18946]; try rw [ew18951]); omega⟩
          · refine WQ_iconst (1) (1) dX3_faultInParts_72 rfl rfl (fun v18972 hv18972 => ?_)
            obtain ⟨w18973, ew18973⟩ : ∃ w : Int32, I18916 (ad g 4) 2 = w := ⟨_, rfl⟩
            have bw18973 := BT_get hI18916.1 4 0 5 (0) (0) (1000) (by decide) 2 (by decide) (by decide)
            rw [ew18973] at bw18973
            exact WP_iret dX3_faultInParts_73 rfl ⟨⟨hI18916, rfl, fr18918, fr18919, ⟨trivial, (by rw [e18921, ew18852] <;> exact (eq32 _ _).mpr (by omega)), (by rw [e18922, ew18853] <;> exact (eq32 _ _).mpr (by omega))⟩⟩, _, rfl, by omega, by omega, by (try rw [e18920]; try rw [e18923]; try rw [ew18973]); omega⟩
        · refine WP_iload dX3_faultInParts_109 rfl ?_
          obtain ⟨w18974, ew18974⟩ : ∃ w : Int32, I18904 (ad g 4) 2 = w := ⟨_, rfl⟩
          have bw18974 := BT_get hI18904.1 4 0 5 (0) (0) (1000) (by decide) 2 (by decide) (by decide)
          rw [ew18974] at bw18974
          exact WP_iret dX3_faultInParts_111 rfl ⟨⟨hI18904, rfl, fr18907, fr18908, ⟨trivial, (by rw [e18910, ew18852] <;> exact (eq32 _ _).mpr (by omega)), (by rw [e18911, ew18853] <;> exact (eq32 _ _).mpr (by omega))⟩⟩, _, rfl, by omega, by omega, by (try rw [e18909]; try rw [ew18914]; try rw [ew18974]); omega⟩
      · refine WQ_iconst (1) (1) dX3_faultInParts_72 rfl rfl (fun v18975 hv18975 => ?_)
        obtain ⟨w18976, ew18976⟩ : ∃ w : Int32, I18881 (ad g 4) 1 = w := ⟨_, rfl⟩
        have bw18976 := BT_get hI18881.1 4 0 5 (0) (0) (1000) (by decide) 1 (by decide) (by decide)
        rw [ew18976] at bw18976
        obtain ⟨w18977, ew18977⟩ : ∃ w : Int32, I18881 (ad g 4) 2 = w := ⟨_, rfl⟩
        have bw18977 := BT_get hI18881.1 4 0 5 (0) (0) (1000) (by decide) 2 (by decide) (by decide)
        rw [ew18977] at bw18977
        exact WP_iret dX3_faultInParts_73 rfl ⟨⟨hI18881, rfl, fr18883, fr18884, ⟨trivial, (by rw [e18885, ew18852] <;> exact (eq32 _ _).mpr (by omega)), (by rw [e18886, ew18853] <;> exact (eq32 _ _).mpr (by omega))⟩⟩, _, rfl, by omega, by omega, by (try rw [e18887]; try rw [ew18976]; try rw [ew18977]); omega⟩
    · refine WP_iload dX3_faultInParts_109 rfl ?_
      obtain ⟨w18978, ew18978⟩ : ∃ w : Int32, I18870 (ad g 4) 1 = w := ⟨_, rfl⟩
      have bw18978 := BT_get hI18870.1 4 0 5 (0) (0) (1000) (by decide) 1 (by decide) (by decide)
      rw [ew18978] at bw18978
      obtain ⟨w18979, ew18979⟩ : ∃ w : Int32, I18870 (ad g 4) 2 = w := ⟨_, rfl⟩
      have bw18979 := BT_get hI18870.1 4 0 5 (0) (0) (1000) (by decide) 2 (by decide) (by decide)
      rw [ew18979] at bw18979
      exact WP_iret dX3_faultInParts_111 rfl ⟨⟨hI18870, rfl, fr18873, fr18874, ⟨trivial, (by rw [e18875, ew18852] <;> exact (eq32 _ _).mpr (by omega)), (by rw [e18876, ew18853] <;> exact (eq32 _ _).mpr (by omega))⟩⟩, _, rfl, by omega, by omega, by (try rw [ew18879]; try rw [ew18978]; try rw [ew18979]); omega⟩
  · refine WQ_iconst (1) (1) dX3_faultInParts_72 rfl rfl (fun v18980 hv18980 => ?_)
    obtain ⟨w18981, ew18981⟩ : ∃ w : Int32, I (ad g 4) 0 = w := ⟨_, rfl⟩
    have bw18981 := BT_get hI.1 4 0 5 (0) (0) (1000) (by decide) 0 (by decide) (by decide)
    rw [ew18981] at bw18981
    obtain ⟨w18982, ew18982⟩ : ∃ w : Int32, I (ad g 4) 1 = w := ⟨_, rfl⟩
    have bw18982 := BT_get hI.1 4 0 5 (0) (0) (1000) (by decide) 1 (by decide) (by decide)
    rw [ew18982] at bw18982
    obtain ⟨w18983, ew18983⟩ : ∃ w : Int32, I (ad g 4) 2 = w := ⟨_, rfl⟩
    have bw18983 := BT_get hI.1 4 0 5 (0) (0) (1000) (by decide) 2 (by decide) (by decide)
    rw [ew18983] at bw18983
    exact WP_iret dX3_faultInParts_73 rfl ⟨⟨hI, rfl, fr0, frj0, ⟨trivial, rfl, rfl⟩⟩, _, rfl, by omega, by omega, by (try rw [ew18981]; try rw [ew18982]; try rw [ew18983]); omega⟩
set_option maxHeartbeats 4000000 in
set_option maxRecDepth 100000 in
theorem sx_parts_27_5 {g : GG} {n : Int} {L : Int32} (hy : LyX g) {aK aV : Nat → Nat} {fo : Option Nat} (hz : HZ g aK aV fo)  {I : pI} {J : pJ} {R : pR} (hr : RfX g R) (hI : XI g n L I) (cz : Int32) (cz_lo : 5 ≤ cz.toInt) (cz_hi : cz.toInt ≤ 5) : SP g mX3_faultInParts [.ref (ad g 3), .int cz, .ref (ad g 27)] I J R (fun r I' J' R' => (XI g n L I' ∧ R' = R ∧ fz 74 g [1, 4] I I' ∧ fz 74 g [1] J J' ∧ True ∧ I' (ad g 27) 1 = I (ad g 27) 1 ∧ I' (ad g 27) 2 = I (ad g 27) 2) ∧ ∃ v : Int32, r = some (.int v) ∧ 0 ≤ v.toInt ∧ v.toInt ≤ 5 ∧ (v.toInt = 0 → (I' (ad g 4) 0).toInt ≤ 2 ∧ (I' (ad g 4) 1).toInt ≤ 6 ∧ (I' (ad g 4) 2).toInt ≤ 999)) := by
  refine SP_of ⟨by decide, rfl⟩ (Nat.le_of_ble_eq_true rfl) ?_
  have e18984 : I (ad g 1) 1 = L := hI.2
  have b18985 := BT_get hI.1 1 1 2 (0) (0) (900) (by decide) 1 (by decide) (by decide)
  rw [e18984] at b18985
  have fr0 : fz 74 g [1, 4] I I := fz_rf
  have frj0 : fz 74 g [1] J J := fz_rf
  obtain ⟨w18986, ew18986⟩ : ∃ w : Int32, I (ad g 27) 1 = w := ⟨_, rfl⟩
  have bw18986 := BT_get hI.1 27 1 2 (0) (0) (4) (by decide) 1 (by decide) (by decide)
  rw [ew18986] at bw18986
  obtain ⟨w18987, ew18987⟩ : ∃ w : Int32, I (ad g 27) 2 = w := ⟨_, rfl⟩
  have bw18987 := BT_get hI.1 27 2 3 (0) (0) (3) (by decide) 2 (by decide) (by decide)
  rw [ew18987] at bw18987
  refine WP_iload_n dX3_faultInParts_0 rfl ?_
  refine WP_callS1 dX3_faultInParts_1 ⟨⟨⟨by decide, by decide⟩, zX3_shapeOf⟩, lX3_84, tX3_shapeOf⟩ (sx_shapeOf hy hz hr hI cz (by omega) (by omega)) (Nat.le_of_ble_eq_true rfl) ?_
  intro r Ia Ja Ra hq
  obtain ⟨⟨ea, eb, ec⟩, rfl⟩ := hq
  show WP _ _ _ _ (.ref _ :: _) _ _ _ _
  rw [show 10 + cz.toInt.toNat = 15 by omega]
  rw [ea, eb, ec]
  clear ea eb ec Ia Ja Ra
  refine WP_astore_n (ls' := [(0, _), (1, _), (2, _), (3, _)]) dX3_faultInParts_4 (by decide) rfl ?_
  refine WQ_iconst (0) (0) dX3_faultInParts_5 rfl rfl (fun v18988 hv18988 => ?_)
  refine WP_istore (ls' := [(0, _), (1, _), (2, _), (3, _), (4, _)]) dX3_faultInParts_6 (by decide) rfl ?_
  refine WP_iload dX3_faultInParts_8 rfl ?_
  refine WP_aload_n dX3_faultInParts_10 rfl ?_
  refine WS_call hz (i := 15) (by omega) dX3_faultInParts_11 ⟨⟨by decide, by decide⟩, zJ0_length_8abf5⟩ lX3_87 vJ0_length_8abf5 (As := []) (rest := [.int v18988]) (j_length hz (i := 15) (by omega)) rfl rfl (Nat.le_of_ble_eq_true rfl) ?_
  intro r Ia Ja Ra hq
  obtain ⟨⟨ea, eb, ec⟩, v18989, rfl, cv18989⟩ := hq
  show WP _ _ _ _ (.int _ :: _) _ _ _ _
  rw [ea, eb, ec]
  clear ea eb ec Ia Ja Ra
  have hv18989 : v18989.toInt = 3 := cv18989.trans rfl
  refine WQ_icmp_ge 125 dX3_faultInParts_14 rfl (fun c18989 => False.elim (by omega)) (fun c18989 => ?_)
  refine WP_iload dX3_faultInParts_17 rfl ?_
  refine WQ_iconst (5) (5) dX3_faultInParts_19 rfl rfl (fun v18991 hv18991 => ?_)
  refine WQ_icmp_ge 125 dX3_faultInParts_20 rfl (fun c18991 => False.elim (by omega)) (fun c18991 => ?_)
  refine WP_aload_n dX3_faultInParts_23 rfl ?_
  refine WP_iload dX3_faultInParts_24 rfl ?_
  refine WS_call hz (i := 15) (by omega) dX3_faultInParts_26 ⟨⟨by decide, by decide⟩, zJ0_charAt_5068e⟩ lX3_92 vJ0_charAt_5068e (As := [.int v18988]) (rest := []) (j_charAt hz (i := 15) (k := v18988) (by omega) (by omega) (by have z9 : ((liN.getD 15 0 : Nat) : Int) = 3 := rfl; omega)) rfl rfl (Nat.le_of_ble_eq_true rfl) ?_
  intro r Ia Ja Ra hq
  obtain ⟨⟨ea, eb, ec⟩, v18993, rfl, cv18993⟩ := hq
  show WP _ _ _ _ (.int _ :: _) _ _ _ _
  rw [ea, eb, ec]
  clear ea eb ec Ia Ja Ra
  have hv18993 : v18993.toInt = 116 := cv18993.trans (by rw [show v18988.toInt.toNat = 0 by omega]; rfl)
  refine WP_istore (ls' := [(0, _), (1, _), (2, _), (3, _), (4, _), (5, _)]) dX3_faultInParts_29 (by decide) rfl ?_
  refine WP_iload dX3_faultInParts_31 rfl ?_
  refine WQ_bipush (97) (97) dX3_faultInParts_33 rfl rfl (fun v18994 hv18994 => ?_)
  refine WQ_icmp_lt 49 dX3_faultInParts_35 rfl (fun c18994 => False.elim (by omega)) (fun c18994 => ?_)
  refine WP_iload dX3_faultInParts_38 rfl ?_
  refine WQ_bipush (122) (122) dX3_faultInParts_40 rfl rfl (fun v18996 hv18996 => ?_)
  refine WQ_icmp_gt 49 dX3_faultInParts_42 rfl (fun c18996 => False.elim (by omega)) (fun c18996 => ?_)
  refine WQ_iconst (1) (1) dX3_faultInParts_45 rfl rfl (fun v18998 hv18998 => ?_)
  refine WP_goto 50 dX3_faultInParts_46 rfl ?_
  refine WP_istore (ls' := [(0, _), (1, _), (2, _), (3, _), (4, _), (5, _), (6, _)]) dX3_faultInParts_50 (by decide) rfl ?_
  refine WP_aload_n dX3_faultInParts_52 rfl ?_
  refine WP_getr dX3_faultInParts_53 fX3_15 rfl (lyx_is hy 3 3 rfl) (rfx hr 3 2 1 (by decide)) ?_
  refine WQ_geti dX3_faultInParts_56 fX3_43 rfl (lyx_is hy 1 5 rfl) (BT_get hI.1 1 2 3 (0) (0) (4) (by decide) 2 (by decide) (by decide)) (fun v18999 ev18999 av18999 bv18999 => ?_)
  refine WP_iload dX3_faultInParts_59 rfl ?_
  refine WQ_if_eq 68 dX3_faultInParts_61 rfl (fun c18999 => False.elim (by omega)) (fun c18999 => ?_)
  refine WQ_iconst (1) (1) dX3_faultInParts_64 rfl rfl (fun v19001 hv19001 => ?_)
  refine WP_goto 69 dX3_faultInParts_65 rfl ?_
  refine WQ_icmp_eq 74 dX3_faultInParts_69 rfl (fun c19001 => ?_) (fun c19001 => ?_)
  · refine WP_iload dX3_faultInParts_74 rfl ?_
    refine WQ_if_eq 92 dX3_faultInParts_76 rfl (fun c19002 => False.elim (by omega)) (fun c19002 => ?_)
    refine WP_aload_n dX3_faultInParts_79 rfl ?_
    refine WP_iload dX3_faultInParts_80 rfl ?_
    refine WP_iload_n dX3_faultInParts_82 rfl ?_
    refine WP_iload dX3_faultInParts_83 rfl ?_
    refine WP_aload_n dX3_faultInParts_85 rfl ?_
    refine WP_callV4 (k := 3) dX3_faultInParts_86 ⟨⟨⟨by decide, by decide⟩, zX3_faultOfName⟩, lX3_96, by decide, rfl, vX3_faultOfName.1, vX3_faultOfName.2⟩ (lyx_is hy 3 3 rfl) (sx_part_27_5_0 hy hr hI v18993 cz v18988 (by omega) (by omega) (by omega) (by omega) (by omega) (by omega)) (Nat.le_of_ble_eq_true rfl) ?_
    intro r I19004 J19005 Ra hq
    obtain ⟨⟨hI19004, ec, fiI19004, fjI19004, ⟨pI19004, sI19004_27_1, sI19004_27_2⟩⟩, v19006, rfl, av19006, bv19006, cv19006⟩ := hq
    show WP _ _ _ _ (.int _ :: _) _ _ _ _
    rw [ec]
    clear ec Ra
    have fr19007 : fz 74 g [1, 4] I I19004 := fz_tr fr0 (fz_mono fiI19004 (by decide))
    have fr19008 : fz 74 g [1] J J19005 := fz_tr frj0 (fz_mono fjI19004 (by decide))
    have e19009 : I19004 (ad g 27) 1 = w18986 := by rw [sI19004_27_1]; exact ew18986
    have e19010 : I19004 (ad g 27) 2 = w18987 := by rw [sI19004_27_2]; exact ew18987
    have e19011 : I19004 (ad g 1) 1 = L := hI19004.2
    have b19012 := BT_get hI19004.1 1 1 2 (0) (0) (900) (by decide) 1 (by decide) (by decide)
    rw [e19011] at b19012
    obtain ⟨w19013, ew19013⟩ : ∃ w : Int32, I19004 (ad g 4) 0 = w := ⟨_, rfl⟩
    have bw19013 := BT_get hI19004.1 4 0 5 (0) (0) (1000) (by decide) 0 (by decide) (by decide)
    rw [ew19013] at bw19013
    rw [ew19013] at cv19006
    refine WP_goto 102 dX3_faultInParts_89 rfl ?_
    refine WP_istore (ls' := [(0, _), (1, _), (2, _), (3, _), (4, _), (5, _), (6, _), (7, _)]) dX3_faultInParts_102 (by decide) rfl ?_
    refine WP_iload dX3_faultInParts_104 rfl ?_
    refine WQ_if_eq 112 dX3_faultInParts_106 rfl (fun c19013 => ?_) (fun c19013 => ?_)
    · refine WP_aload_n dX3_faultInParts_112 rfl ?_
      refine WP_getr dX3_faultInParts_113 fX3_15 rfl (lyx_is hy 3 3 rfl) (rfx hr 3 2 1 (by decide)) ?_
      refine WP_callV0 (k := 5) dX3_faultInParts_116 ⟨⟨⟨by decide, by decide⟩, zX5_next⟩, lX3_40, by decide, rfl, vX5_next.1, vX5_next.2⟩ (lyx_is hy 1 5 rfl) (sx_nextf hy hr hI19004  ) (Nat.le_of_ble_eq_true rfl) ?_
      intro r I19015 J19016 Ra hq
      obtain ⟨⟨hI19015, ec, fiI19015, fjI19015⟩, rfl⟩ := hq
      rw [ec]
      clear ec Ra
      have fr19017 : fz 74 g [1, 4] I I19015 := fz_tr fr19007 (fz_mono fiI19015 (by decide))
      have fr19018 : fz 74 g [1] J J19016 := fz_tr fr19008 (fz_mono fjI19015 (by decide))
      have e19019 : I19015 (ad g 27) 1 = w18986 := by rw [fz_at fiI19015 27 (by decide) (by decide)]; exact e19009
      have e19020 : I19015 (ad g 27) 2 = w18987 := by rw [fz_at fiI19015 27 (by decide) (by decide)]; exact e19010
      have e19021 : I19015 (ad g 4) 0 = w19013 := by rw [fz_at fiI19015 4 (by decide) (by decide)]; exact ew19013
      have e19022 : I19015 (ad g 1) 1 = L := hI19015.2
      have b19023 := BT_get hI19015.1 1 1 2 (0) (0) (900) (by decide) 1 (by decide) (by decide)
      rw [e19022] at b19023
      refine WP_iinc (ls' := [(0, _), (1, _), (2, _), (3, _), (4, _), (5, _), (6, _), (7, _)]) dX3_faultInParts_119 rfl (by decide) rfl ?_
      have hv19024 : (v18988 + Int32.ofInt (1)).toInt = v18988.toInt + (1) := ia_n rfl (by omega) (by omega)
      generalize v18988 + Int32.ofInt (1) = v19024 at hv19024 ⊢
      refine WP_goto 8 dX3_faultInParts_122 rfl ?_
      refine WP_iload dX3_faultInParts_8 rfl ?_
      refine WP_aload_n dX3_faultInParts_10 rfl ?_
      refine WS_call hz (i := 15) (by omega) dX3_faultInParts_11 ⟨⟨by decide, by decide⟩, zJ0_length_8abf5⟩ lX3_87 vJ0_length_8abf5 (As := []) (rest := [.int v19024]) (j_length hz (i := 15) (by omega)) rfl rfl (Nat.le_of_ble_eq_true rfl) ?_
      intro r Ia Ja Ra hq
      obtain ⟨⟨ea, eb, ec⟩, v19025, rfl, cv19025⟩ := hq
      show WP _ _ _ _ (.int _ :: _) _ _ _ _
      rw [ea, eb, ec]
      clear ea eb ec Ia Ja Ra
      have hv19025 : v19025.toInt = 3 := cv19025.trans rfl
      refine WQ_icmp_ge 125 dX3_faultInParts_14 rfl (fun c19025 => False.elim (by omega)) (fun c19025 => ?_)
      refine WP_iload dX3_faultInParts_17 rfl ?_
      refine WQ_iconst (5) (5) dX3_faultInParts_19 rfl rfl (fun v19027 hv19027 => ?_)
      refine WQ_icmp_ge 125 dX3_faultInParts_20 rfl (fun c19027 => False.elim (by omega)) (fun c19027 => ?_)
      refine WP_aload_n dX3_faultInParts_23 rfl ?_
      refine WP_iload dX3_faultInParts_24 rfl ?_
      refine WS_call hz (i := 15) (by omega) dX3_faultInParts_26 ⟨⟨by decide, by decide⟩, zJ0_charAt_5068e⟩ lX3_92 vJ0_charAt_5068e (As := [.int v19024]) (rest := []) (j_charAt hz (i := 15) (k := v19024) (by omega) (by omega) (by have z9 : ((liN.getD 15 0 : Nat) : Int) = 3 := rfl; omega)) rfl rfl (Nat.le_of_ble_eq_true rfl) ?_
      intro r Ia Ja Ra hq
      obtain ⟨⟨ea, eb, ec⟩, v19029, rfl, cv19029⟩ := hq
      show WP _ _ _ _ (.int _ :: _) _ _ _ _
      rw [ea, eb, ec]
      clear ea eb ec Ia Ja Ra
      have hv19029 : v19029.toInt = 68 := cv19029.trans (by rw [show v19024.toInt.toNat = 1 by omega]; rfl)
      refine WP_istore (ls' := [(0, _), (1, _), (2, _), (3, _), (4, _), (5, _), (6, _), (7, _)]) dX3_faultInParts_29 (by decide) rfl ?_
      refine WP_iload dX3_faultInParts_31 rfl ?_
      refine WQ_bipush (97) (97) dX3_faultInParts_33 rfl rfl (fun v19030 hv19030 => ?_)
      refine WQ_icmp_lt 49 dX3_faultInParts_35 rfl (fun c19030 => ?_) (fun c19030 => False.elim (by omega))
      refine WQ_iconst (0) (0) dX3_faultInParts_49 rfl rfl (fun v19032 hv19032 => ?_)
      refine WP_istore (ls' := [(0, _), (1, _), (2, _), (3, _), (4, _), (5, _), (6, _), (7, _)]) dX3_faultInParts_50 (by decide) rfl ?_
      refine WP_aload_n dX3_faultInParts_52 rfl ?_
      refine WP_getr dX3_faultInParts_53 fX3_15 rfl (lyx_is hy 3 3 rfl) (rfx hr 3 2 1 (by decide)) ?_
      refine WQ_geti dX3_faultInParts_56 fX3_43 rfl (lyx_is hy 1 5 rfl) (BT_get hI19015.1 1 2 3 (0) (0) (4) (by decide) 2 (by decide) (by decide)) (fun v19033 ev19033 av19033 bv19033 => ?_)
      refine WP_iload dX3_faultInParts_59 rfl ?_
      refine WQ_if_eq 68 dX3_faultInParts_61 rfl (fun c19033 => ?_) (fun c19033 => False.elim (by omega))
      refine WQ_iconst (2) (2) dX3_faultInParts_68 rfl rfl (fun v19035 hv19035 => ?_)
      refine WQ_icmp_eq 74 dX3_faultInParts_69 rfl (fun c19035 => ?_) (fun c19035 => ?_)
      · refine WP_iload dX3_faultInParts_74 rfl ?_
        refine WQ_if_eq 92 dX3_faultInParts_76 rfl (fun c19036 => ?_) (fun c19036 => False.elim (by omega))
        refine WP_aload_n dX3_faultInParts_92 rfl ?_
        refine WP_iload dX3_faultInParts_93 rfl ?_
        refine WP_iload_n dX3_faultInParts_95 rfl ?_
        refine WP_iload dX3_faultInParts_96 rfl ?_
        refine WP_aload_n dX3_faultInParts_98 rfl ?_
        refine WP_callV4 (k := 3) dX3_faultInParts_99 ⟨⟨⟨by decide, by decide⟩, zX3_faultOfNumber⟩, lX3_100, by decide, rfl, vX3_faultOfNumber.1, vX3_faultOfNumber.2⟩ (lyx_is hy 3 3 rfl) (sx_part_27_5_1 hy hr hI19015 v19029 cz v19024 (by omega) (by omega) (by omega) (by omega) (by omega) (by omega) (by rw [e19021]; omega)) (Nat.le_of_ble_eq_true rfl) ?_
        intro r I19038 J19039 Ra hq
        obtain ⟨⟨hI19038, ec, fiI19038, fjI19038, ⟨pI19038, sI19038_4_0, sI19038_27_1, sI19038_27_2⟩⟩, v19040, rfl, av19040, bv19040, cv19040⟩ := hq
        show WP _ _ _ _ (.int _ :: _) _ _ _ _
        rw [ec]
        clear ec Ra
        have fr19041 : fz 74 g [1, 4] I I19038 := fz_tr fr19017 (fz_mono fiI19038 (by decide))
        have fr19042 : fz 74 g [1] J J19039 := fz_tr fr19018 (fz_mono fjI19038 (by decide))
        have e19043 : I19038 (ad g 4) 0 = w19013 := by rw [sI19038_4_0]; exact e19021
        have e19044 : I19038 (ad g 27) 1 = w18986 := by rw [sI19038_27_1]; exact e19019
        have e19045 : I19038 (ad g 27) 2 = w18987 := by rw [sI19038_27_2]; exact e19020
        have e19046 : I19038 (ad g 1) 1 = L := hI19038.2
        have b19047 := BT_get hI19038.1 1 1 2 (0) (0) (900) (by decide) 1 (by decide) (by decide)
        rw [e19046] at b19047
        obtain ⟨w19048, ew19048⟩ : ∃ w : Int32, I19038 (ad g 4) 1 = w := ⟨_, rfl⟩
        have bw19048 := BT_get hI19038.1 4 0 5 (0) (0) (1000) (by decide) 1 (by decide) (by decide)
        rw [ew19048] at bw19048
        rw [ew19048] at cv19040
        refine WP_istore (ls' := [(0, _), (1, _), (2, _), (3, _), (4, _), (5, _), (6, _), (7, _)]) dX3_faultInParts_102 (by decide) rfl ?_
        refine WP_iload dX3_faultInParts_104 rfl ?_
        refine WQ_if_eq 112 dX3_faultInParts_106 rfl (fun c19048 => ?_) (fun c19048 => ?_)
        · refine WP_aload_n dX3_faultInParts_112 rfl ?_
          refine WP_getr dX3_faultInParts_113 fX3_15 rfl (lyx_is hy 3 3 rfl) (rfx hr 3 2 1 (by decide)) ?_
          refine WP_callV0 (k := 5) dX3_faultInParts_116 ⟨⟨⟨by decide, by decide⟩, zX5_next⟩, lX3_40, by decide, rfl, vX5_next.1, vX5_next.2⟩ (lyx_is hy 1 5 rfl) (sx_nextf hy hr hI19038  ) (Nat.le_of_ble_eq_true rfl) ?_
          intro r I19050 J19051 Ra hq
          obtain ⟨⟨hI19050, ec, fiI19050, fjI19050⟩, rfl⟩ := hq
          rw [ec]
          clear ec Ra
          have fr19052 : fz 74 g [1, 4] I I19050 := fz_tr fr19041 (fz_mono fiI19050 (by decide))
          have fr19053 : fz 74 g [1] J J19051 := fz_tr fr19042 (fz_mono fjI19050 (by decide))
          have e19054 : I19050 (ad g 4) 0 = w19013 := by rw [fz_at fiI19050 4 (by decide) (by decide)]; exact e19043
          have e19055 : I19050 (ad g 27) 1 = w18986 := by rw [fz_at fiI19050 27 (by decide) (by decide)]; exact e19044
          have e19056 : I19050 (ad g 27) 2 = w18987 := by rw [fz_at fiI19050 27 (by decide) (by decide)]; exact e19045
          have e19057 : I19050 (ad g 4) 1 = w19048 := by rw [fz_at fiI19050 4 (by decide) (by decide)]; exact ew19048
          have e19058 : I19050 (ad g 1) 1 = L := hI19050.2
          have b19059 := BT_get hI19050.1 1 1 2 (0) (0) (900) (by decide) 1 (by decide) (by decide)
          rw [e19058] at b19059
          refine WP_iinc (ls' := [(0, _), (1, _), (2, _), (3, _), (4, _), (5, _), (6, _), (7, _)]) dX3_faultInParts_119 rfl (by decide) rfl ?_
          have hv19060 : (v19024 + Int32.ofInt (1)).toInt = v19024.toInt + (1) := ia_n rfl (by omega) (by omega)
          generalize v19024 + Int32.ofInt (1) = v19060 at hv19060 ⊢
          refine WP_goto 8 dX3_faultInParts_122 rfl ?_
          refine WP_iload dX3_faultInParts_8 rfl ?_
          refine WP_aload_n dX3_faultInParts_10 rfl ?_
          refine WS_call hz (i := 15) (by omega) dX3_faultInParts_11 ⟨⟨by decide, by decide⟩, zJ0_length_8abf5⟩ lX3_87 vJ0_length_8abf5 (As := []) (rest := [.int v19060]) (j_length hz (i := 15) (by omega)) rfl rfl (Nat.le_of_ble_eq_true rfl) ?_
          intro r Ia Ja Ra hq
          obtain ⟨⟨ea, eb, ec⟩, v19061, rfl, cv19061⟩ := hq
          show WP _ _ _ _ (.int _ :: _) _ _ _ _
          rw [ea, eb, ec]
          clear ea eb ec Ia Ja Ra
          have hv19061 : v19061.toInt = 3 := cv19061.trans rfl
          refine WQ_icmp_ge 125 dX3_faultInParts_14 rfl (fun c19061 => False.elim (by omega)) (fun c19061 => ?_)
          refine WP_iload dX3_faultInParts_17 rfl ?_
          refine WQ_iconst (5) (5) dX3_faultInParts_19 rfl rfl (fun v19063 hv19063 => ?_)
          refine WQ_icmp_ge 125 dX3_faultInParts_20 rfl (fun c19063 => False.elim (by omega)) (fun c19063 => ?_)
          refine WP_aload_n dX3_faultInParts_23 rfl ?_
          refine WP_iload dX3_faultInParts_24 rfl ?_
          refine WS_call hz (i := 15) (by omega) dX3_faultInParts_26 ⟨⟨by decide, by decide⟩, zJ0_charAt_5068e⟩ lX3_92 vJ0_charAt_5068e (As := [.int v19060]) (rest := []) (j_charAt hz (i := 15) (k := v19060) (by omega) (by omega) (by have z9 : ((liN.getD 15 0 : Nat) : Int) = 3 := rfl; omega)) rfl rfl (Nat.le_of_ble_eq_true rfl) ?_
          intro r Ia Ja Ra hq
          obtain ⟨⟨ea, eb, ec⟩, v19065, rfl, cv19065⟩ := hq
          show WP _ _ _ _ (.int _ :: _) _ _ _ _
          rw [ea, eb, ec]
          clear ea eb ec Ia Ja Ra
          have hv19065 : v19065.toInt = 77 := cv19065.trans (by rw [show v19060.toInt.toNat = 2 by omega]; rfl)
          refine WP_istore (ls' := [(0, _), (1, _), (2, _), (3, _), (4, _), (5, _), (6, _), (7, _)]) dX3_faultInParts_29 (by decide) rfl ?_
          refine WP_iload dX3_faultInParts_31 rfl ?_
          refine WQ_bipush (97) (97) dX3_faultInParts_33 rfl rfl (fun v19066 hv19066 => ?_)
          refine WQ_icmp_lt 49 dX3_faultInParts_35 rfl (fun c19066 => ?_) (fun c19066 => False.elim (by omega))
          refine WQ_iconst (0) (0) dX3_faultInParts_49 rfl rfl (fun v19068 hv19068 => ?_)
          refine WP_istore (ls' := [(0, _), (1, _), (2, _), (3, _), (4, _), (5, _), (6, _), (7, _)]) dX3_faultInParts_50 (by decide) rfl ?_
          refine WP_aload_n dX3_faultInParts_52 rfl ?_
          refine WP_getr dX3_faultInParts_53 fX3_15 rfl (lyx_is hy 3 3 rfl) (rfx hr 3 2 1 (by decide)) ?_
          refine WQ_geti dX3_faultInParts_56 fX3_43 rfl (lyx_is hy 1 5 rfl) (BT_get hI19050.1 1 2 3 (0) (0) (4) (by decide) 2 (by decide) (by decide)) (fun v19069 ev19069 av19069 bv19069 => ?_)
          refine WP_iload dX3_faultInParts_59 rfl ?_
          refine WQ_if_eq 68 dX3_faultInParts_61 rfl (fun c19069 => ?_) (fun c19069 => False.elim (by omega))
          refine WQ_iconst (2) (2) dX3_faultInParts_68 rfl rfl (fun v19071 hv19071 => ?_)
          refine WQ_icmp_eq 74 dX3_faultInParts_69 rfl (fun c19071 => ?_) (fun c19071 => ?_)
          · refine WP_iload dX3_faultInParts_74 rfl ?_
            refine WQ_if_eq 92 dX3_faultInParts_76 rfl (fun c19072 => ?_) (fun c19072 => False.elim (by omega))
            refine WP_aload_n dX3_faultInParts_92 rfl ?_
            refine WP_iload dX3_faultInParts_93 rfl ?_
            refine WP_iload_n dX3_faultInParts_95 rfl ?_
            refine WP_iload dX3_faultInParts_96 rfl ?_
            refine WP_aload_n dX3_faultInParts_98 rfl ?_
            refine WP_callV4 (k := 3) dX3_faultInParts_99 ⟨⟨⟨by decide, by decide⟩, zX3_faultOfNumber⟩, lX3_100, by decide, rfl, vX3_faultOfNumber.1, vX3_faultOfNumber.2⟩ (lyx_is hy 3 3 rfl) (sx_part_27_5_2 hy hr hI19050 v19065 cz v19060 (by omega) (by omega) (by omega) (by omega) (by omega) (by omega)) (Nat.le_of_ble_eq_true rfl) ?_
            intro r I19074 J19075 Ra hq
            obtain ⟨⟨hI19074, ec, fiI19074, fjI19074, ⟨pI19074, sI19074_4_0, sI19074_4_1, sI19074_27_1, sI19074_27_2⟩⟩, v19076, rfl, av19076, bv19076, cv19076⟩ := hq
            show WP _ _ _ _ (.int _ :: _) _ _ _ _
            rw [ec]
            clear ec Ra
            have fr19077 : fz 74 g [1, 4] I I19074 := fz_tr fr19052 (fz_mono fiI19074 (by decide))
            have fr19078 : fz 74 g [1] J J19075 := fz_tr fr19053 (fz_mono fjI19074 (by decide))
            have e19079 : I19074 (ad g 4) 0 = w19013 := by rw [sI19074_4_0]; exact e19054
            have e19080 : I19074 (ad g 4) 1 = w19048 := by rw [sI19074_4_1]; exact e19057
            have e19081 : I19074 (ad g 27) 1 = w18986 := by rw [sI19074_27_1]; exact e19055
            have e19082 : I19074 (ad g 27) 2 = w18987 := by rw [sI19074_27_2]; exact e19056
            have e19083 : I19074 (ad g 1) 1 = L := hI19074.2
            have b19084 := BT_get hI19074.1 1 1 2 (0) (0) (900) (by decide) 1 (by decide) (by decide)
            rw [e19083] at b19084
            obtain ⟨w19085, ew19085⟩ : ∃ w : Int32, I19074 (ad g 4) 2 = w := ⟨_, rfl⟩
            have bw19085 := BT_get hI19074.1 4 0 5 (0) (0) (1000) (by decide) 2 (by decide) (by decide)
            rw [ew19085] at bw19085
            rw [ew19085] at cv19076
            refine WP_istore (ls' := [(0, _), (1, _), (2, _), (3, _), (4, _), (5, _), (6, _), (7, _)]) dX3_faultInParts_102 (by decide) rfl ?_
            refine WP_iload dX3_faultInParts_104 rfl ?_
            refine WQ_if_eq 112 dX3_faultInParts_106 rfl (fun c19085 => ?_) (fun c19085 => ?_)
            · refine WP_aload_n dX3_faultInParts_112 rfl ?_
              refine WP_getr dX3_faultInParts_113 fX3_15 rfl (lyx_is hy 3 3 rfl) (rfx hr 3 2 1 (by decide)) ?_
              refine WP_callV0 (k := 5) dX3_faultInParts_116 ⟨⟨⟨by decide, by decide⟩, zX5_next⟩, lX3_40, by decide, rfl, vX5_next.1, vX5_next.2⟩ (lyx_is hy 1 5 rfl) (sx_nextf hy hr hI19074  ) (Nat.le_of_ble_eq_true rfl) ?_
              intro r I19087 J19088 Ra hq
              obtain ⟨⟨hI19087, ec, fiI19087, fjI19087⟩, rfl⟩ := hq
              rw [ec]
              clear ec Ra
              have fr19089 : fz 74 g [1, 4] I I19087 := fz_tr fr19077 (fz_mono fiI19087 (by decide))
              have fr19090 : fz 74 g [1] J J19088 := fz_tr fr19078 (fz_mono fjI19087 (by decide))
              have e19091 : I19087 (ad g 4) 0 = w19013 := by rw [fz_at fiI19087 4 (by decide) (by decide)]; exact e19079
              have e19092 : I19087 (ad g 4) 1 = w19048 := by rw [fz_at fiI19087 4 (by decide) (by decide)]; exact e19080
              have e19093 : I19087 (ad g 27) 1 = w18986 := by rw [fz_at fiI19087 27 (by decide) (by decide)]; exact e19081
              have e19094 : I19087 (ad g 27) 2 = w18987 := by rw [fz_at fiI19087 27 (by decide) (by decide)]; exact e19082
              have e19095 : I19087 (ad g 4) 2 = w19085 := by rw [fz_at fiI19087 4 (by decide) (by decide)]; exact ew19085
              have e19096 : I19087 (ad g 1) 1 = L := hI19087.2
              have b19097 := BT_get hI19087.1 1 1 2 (0) (0) (900) (by decide) 1 (by decide) (by decide)
              rw [e19096] at b19097
              refine WP_iinc (ls' := [(0, _), (1, _), (2, _), (3, _), (4, _), (5, _), (6, _), (7, _)]) dX3_faultInParts_119 rfl (by decide) rfl ?_
              have hv19098 : (v19060 + Int32.ofInt (1)).toInt = v19060.toInt + (1) := ia_n rfl (by omega) (by omega)
              generalize v19060 + Int32.ofInt (1) = v19098 at hv19098 ⊢
              refine WP_goto 8 dX3_faultInParts_122 rfl ?_
              refine WP_iload dX3_faultInParts_8 rfl ?_
              refine WP_aload_n dX3_faultInParts_10 rfl ?_
              refine WS_call hz (i := 15) (by omega) dX3_faultInParts_11 ⟨⟨by decide, by decide⟩, zJ0_length_8abf5⟩ lX3_87 vJ0_length_8abf5 (As := []) (rest := [.int v19098]) (j_length hz (i := 15) (by omega)) rfl rfl (Nat.le_of_ble_eq_true rfl) ?_
              intro r Ia Ja Ra hq
              obtain ⟨⟨ea, eb, ec⟩, v19099, rfl, cv19099⟩ := hq
              show WP _ _ _ _ (.int _ :: _) _ _ _ _
              rw [ea, eb, ec]
              clear ea eb ec Ia Ja Ra
              have hv19099 : v19099.toInt = 3 := cv19099.trans rfl
              refine WQ_icmp_ge 125 dX3_faultInParts_14 rfl (fun c19099 => ?_) (fun c19099 => False.elim (by omega))
              refine WP_aload_n dX3_faultInParts_125 rfl ?_
              refine WP_getr dX3_faultInParts_126 fX3_15 rfl (lyx_is hy 3 3 rfl) (rfx hr 3 2 1 (by decide)) ?_
              refine WQ_geti dX3_faultInParts_129 fX3_43 rfl (lyx_is hy 1 5 rfl) (BT_get hI19087.1 1 2 3 (0) (0) (4) (by decide) 2 (by decide) (by decide)) (fun v19101 ev19101 av19101 bv19101 => ?_)
              refine WQ_iconst (3) (3) dX3_faultInParts_132 rfl rfl (fun v19102 hv19102 => ?_)
              refine WQ_icmp_ne 140 dX3_faultInParts_133 rfl (fun c19102 => ?_) (fun c19102 => ?_)
              · refine WQ_iconst (1) (1) dX3_faultInParts_140 rfl rfl (fun v19104 hv19104 => ?_)
                exact WP_iret dX3_faultInParts_141 rfl ⟨⟨hI19087, rfl, fr19089, fr19090, ⟨trivial, (by rw [e19093, ew18986] <;> exact (eq32 _ _).mpr (by omega)), (by rw [e19094, ew18987] <;> exact (eq32 _ _).mpr (by omega))⟩⟩, _, rfl, by omega, by omega, by (try rw [e19091]; try rw [e19092]; try rw [e19095]); omega⟩
              · refine WQ_iconst (0) (0) dX3_faultInParts_136 rfl rfl (fun v19105 hv19105 => ?_)
                refine WP_goto 141 dX3_faultInParts_137 rfl ?_
                exact WP_iret dX3_faultInParts_141 rfl ⟨⟨hI19087, rfl, fr19089, fr19090, ⟨trivial, (by rw [e19093, ew18986] <;> exact (eq32 _ _).mpr (by omega)), (by rw [e19094, ew18987] <;> exact (eq32 _ _).mpr (by omega))⟩⟩, _, rfl, by omega, by omega, by (try rw [e19091]; try rw [e19092]; try rw [e19095]); omega⟩
            · refine WP_iload dX3_faultInParts_109 rfl ?_
              exact WP_iret dX3_faultInParts_111 rfl ⟨⟨hI19074, rfl, fr19077, fr19078, ⟨trivial, (by rw [e19081, ew18986] <;> exact (eq32 _ _).mpr (by omega)), (by rw [e19082, ew18987] <;> exact (eq32 _ _).mpr (by omega))⟩⟩, _, rfl, by omega, by omega, by (try rw [e19079]; try rw [e19080]; try rw [ew19085]); omega⟩
          · refine WQ_iconst (1) (1) dX3_faultInParts_72 rfl rfl (fun v19106 hv19106 => ?_)
            obtain ⟨w19107, ew19107⟩ : ∃ w : Int32, I19050 (ad g 4) 2 = w := ⟨_, rfl⟩
            have bw19107 := BT_get hI19050.1 4 0 5 (0) (0) (1000) (by decide) 2 (by decide) (by decide)
            rw [ew19107] at bw19107
            exact WP_iret dX3_faultInParts_73 rfl ⟨⟨hI19050, rfl, fr19052, fr19053, ⟨trivial, (by rw [e19055, ew18986] <;> exact (eq32 _ _).mpr (by omega)), (by rw [e19056, ew18987] <;> exact (eq32 _ _).mpr (by omega))⟩⟩, _, rfl, by omega, by omega, by (try rw [e19054]; try rw [e19057]; try rw [ew19107]); omega⟩
        · refine WP_iload dX3_faultInParts_109 rfl ?_
          obtain ⟨w19108, ew19108⟩ : ∃ w : Int32, I19038 (ad g 4) 2 = w := ⟨_, rfl⟩
          have bw19108 := BT_get hI19038.1 4 0 5 (0) (0) (1000) (by decide) 2 (by decide) (by decide)
          rw [ew19108] at bw19108
          exact WP_iret dX3_faultInParts_111 rfl ⟨⟨hI19038, rfl, fr19041, fr19042, ⟨trivial, (by rw [e19044, ew18986] <;> exact (eq32 _ _).mpr (by omega)), (by rw [e19045, ew18987] <;> exact (eq32 _ _).mpr (by omega))⟩⟩, _, rfl, by omega, by omega, by (try rw [e19043]; try rw [ew19048]; try rw [ew19108]); omega⟩
      · refine WQ_iconst (1) (1) dX3_faultInParts_72 rfl rfl (fun v19109 hv19109 => ?_)
        obtain ⟨w19110, ew19110⟩ : ∃ w : Int32, I19015 (ad g 4) 1 = w := ⟨_, rfl⟩
        have bw19110 := BT_get hI19015.1 4 0 5 (0) (0) (1000) (by decide) 1 (by decide) (by decide)
        rw [ew19110] at bw19110
        obtain ⟨w19111, ew19111⟩ : ∃ w : Int32, I19015 (ad g 4) 2 = w := ⟨_, rfl⟩
        have bw19111 := BT_get hI19015.1 4 0 5 (0) (0) (1000) (by decide) 2 (by decide) (by decide)
        rw [ew19111] at bw19111
        exact WP_iret dX3_faultInParts_73 rfl ⟨⟨hI19015, rfl, fr19017, fr19018, ⟨trivial, (by rw [e19019, ew18986] <;> exact (eq32 _ _).mpr (by omega)), (by rw [e19020, ew18987] <;> exact (eq32 _ _).mpr (by omega))⟩⟩, _, rfl, by omega, by omega, by (try rw [e19021]; try rw [ew19110]; try rw [ew19111]); omega⟩
    · refine WP_iload dX3_faultInParts_109 rfl ?_
      obtain ⟨w19112, ew19112⟩ : ∃ w : Int32, I19004 (ad g 4) 1 = w := ⟨_, rfl⟩
      have bw19112 := BT_get hI19004.1 4 0 5 (0) (0) (1000) (by decide) 1 (by decide) (by decide)
      rw [ew19112] at bw19112
      obtain ⟨w19113, ew19113⟩ : ∃ w : Int32, I19004 (ad g 4) 2 = w := ⟨_, rfl⟩
      have bw19113 := BT_get hI19004.1 4 0 5 (0) (0) (1000) (by decide) 2 (by decide) (by decide)
      rw [ew19113] at bw19113
      exact WP_iret dX3_faultInParts_111 rfl ⟨⟨hI19004, rfl, fr19007, fr19008, ⟨trivial, (by rw [e19009, ew18986] <;> exact (eq32 _ _).mpr (by omega)), (by rw [e19010, ew18987] <;> exact (eq32 _ _).mpr (by omega))⟩⟩, _, rfl, by omega, by omega, by (try rw [ew19013]; try rw [ew19112]; try rw [ew19113]); omega⟩
  · refine WQ_iconst (1) (1) dX3_faultInParts_72 rfl rfl (fun v19114 hv19114 => ?_)
    obtain ⟨w19115, ew19115⟩ : ∃ w : Int32, I (ad g 4) 0 = w := ⟨_, rfl⟩
    have bw19115 := BT_get hI.1 4 0 5 (0) (0) (1000) (by decide) 0 (by decide) (by decide)
    rw [ew19115] at bw19115
    obtain ⟨w19116, ew19116⟩ : ∃ w : Int32, I (ad g 4) 1 = w := ⟨_, rfl⟩
    have bw19116 := BT_get hI.1 4 0 5 (0) (0) (1000) (by decide) 1 (by decide) (by decide)
    rw [ew19116] at bw19116
    obtain ⟨w19117, ew19117⟩ : ∃ w : Int32, I (ad g 4) 2 = w := ⟨_, rfl⟩
    have bw19117 := BT_get hI.1 4 0 5 (0) (0) (1000) (by decide) 2 (by decide) (by decide)
    rw [ew19117] at bw19117
    exact WP_iret dX3_faultInParts_73 rfl ⟨⟨hI, rfl, fr0, frj0, ⟨trivial, rfl, rfl⟩⟩, _, rfl, by omega, by omega, by (try rw [ew19115]; try rw [ew19116]; try rw [ew19117]); omega⟩
set_option maxHeartbeats 4000000 in
set_option maxRecDepth 100000 in
theorem sx_parts_27_6 {g : GG} {n : Int} {L : Int32} (hy : LyX g) {aK aV : Nat → Nat} {fo : Option Nat} (hz : HZ g aK aV fo)  {I : pI} {J : pJ} {R : pR} (hr : RfX g R) (hI : XI g n L I) (cz : Int32) (cz_lo : 6 ≤ cz.toInt) (cz_hi : cz.toInt ≤ 6) : SP g mX3_faultInParts [.ref (ad g 3), .int cz, .ref (ad g 27)] I J R (fun r I' J' R' => (XI g n L I' ∧ R' = R ∧ fz 74 g [1, 4] I I' ∧ fz 74 g [1] J J' ∧ True ∧ I' (ad g 27) 1 = I (ad g 27) 1 ∧ I' (ad g 27) 2 = I (ad g 27) 2) ∧ ∃ v : Int32, r = some (.int v) ∧ 0 ≤ v.toInt ∧ v.toInt ≤ 5 ∧ (v.toInt = 0 → (I' (ad g 4) 0).toInt ≤ 3 ∧ (I' (ad g 4) 1).toInt ≤ 2 ∧ (I' (ad g 4) 2).toInt ≤ 6 ∧ (I' (ad g 4) 3).toInt ≤ 3 ∧ (I' (ad g 4) 4).toInt ≤ 99)) := by
  refine SP_of ⟨by decide, rfl⟩ (Nat.le_of_ble_eq_true rfl) ?_
  have e19118 : I (ad g 1) 1 = L := hI.2
  have b19119 := BT_get hI.1 1 1 2 (0) (0) (900) (by decide) 1 (by decide) (by decide)
  rw [e19118] at b19119
  have fr0 : fz 74 g [1, 4] I I := fz_rf
  have frj0 : fz 74 g [1] J J := fz_rf
  obtain ⟨w19120, ew19120⟩ : ∃ w : Int32, I (ad g 27) 1 = w := ⟨_, rfl⟩
  have bw19120 := BT_get hI.1 27 1 2 (0) (0) (4) (by decide) 1 (by decide) (by decide)
  rw [ew19120] at bw19120
  obtain ⟨w19121, ew19121⟩ : ∃ w : Int32, I (ad g 27) 2 = w := ⟨_, rfl⟩
  have bw19121 := BT_get hI.1 27 2 3 (0) (0) (3) (by decide) 2 (by decide) (by decide)
  rw [ew19121] at bw19121
  refine WP_iload_n dX3_faultInParts_0 rfl ?_
  refine WP_callS1 dX3_faultInParts_1 ⟨⟨⟨by decide, by decide⟩, zX3_shapeOf⟩, lX3_84, tX3_shapeOf⟩ (sx_shapeOf hy hz hr hI cz (by omega) (by omega)) (Nat.le_of_ble_eq_true rfl) ?_
  intro r Ia Ja Ra hq
  obtain ⟨⟨ea, eb, ec⟩, rfl⟩ := hq
  show WP _ _ _ _ (.ref _ :: _) _ _ _ _
  rw [show 10 + cz.toInt.toNat = 16 by omega]
  rw [ea, eb, ec]
  clear ea eb ec Ia Ja Ra
  refine WP_astore_n (ls' := [(0, _), (1, _), (2, _), (3, _)]) dX3_faultInParts_4 (by decide) rfl ?_
  refine WQ_iconst (0) (0) dX3_faultInParts_5 rfl rfl (fun v19122 hv19122 => ?_)
  refine WP_istore (ls' := [(0, _), (1, _), (2, _), (3, _), (4, _)]) dX3_faultInParts_6 (by decide) rfl ?_
  refine WP_iload dX3_faultInParts_8 rfl ?_
  refine WP_aload_n dX3_faultInParts_10 rfl ?_
  refine WS_call hz (i := 16) (by omega) dX3_faultInParts_11 ⟨⟨by decide, by decide⟩, zJ0_length_8abf5⟩ lX3_87 vJ0_length_8abf5 (As := []) (rest := [.int v19122]) (j_length hz (i := 16) (by omega)) rfl rfl (Nat.le_of_ble_eq_true rfl) ?_
  intro r Ia Ja Ra hq
  obtain ⟨⟨ea, eb, ec⟩, v19123, rfl, cv19123⟩ := hq
  show WP _ _ _ _ (.int _ :: _) _ _ _ _
  rw [ea, eb, ec]
  clear ea eb ec Ia Ja Ra
  have hv19123 : v19123.toInt = 5 := cv19123.trans rfl
  refine WQ_icmp_ge 125 dX3_faultInParts_14 rfl (fun c19123 => False.elim (by omega)) (fun c19123 => ?_)
  refine WP_iload dX3_faultInParts_17 rfl ?_
  refine WQ_iconst (5) (5) dX3_faultInParts_19 rfl rfl (fun v19125 hv19125 => ?_)
  refine WQ_icmp_ge 125 dX3_faultInParts_20 rfl (fun c19125 => False.elim (by omega)) (fun c19125 => ?_)
  refine WP_aload_n dX3_faultInParts_23 rfl ?_
  refine WP_iload dX3_faultInParts_24 rfl ?_
  refine WS_call hz (i := 16) (by omega) dX3_faultInParts_26 ⟨⟨by decide, by decide⟩, zJ0_charAt_5068e⟩ lX3_92 vJ0_charAt_5068e (As := [.int v19122]) (rest := []) (j_charAt hz (i := 16) (k := v19122) (by omega) (by omega) (by have z9 : ((liN.getD 16 0 : Nat) : Int) = 5 := rfl; omega)) rfl rfl (Nat.le_of_ble_eq_true rfl) ?_
  intro r Ia Ja Ra hq
  obtain ⟨⟨ea, eb, ec⟩, v19127, rfl, cv19127⟩ := hq
  show WP _ _ _ _ (.int _ :: _) _ _ _ _
  rw [ea, eb, ec]
  clear ea eb ec Ia Ja Ra
  have hv19127 : v19127.toInt = 115 := cv19127.trans (by rw [show v19122.toInt.toNat = 0 by omega]; rfl)
  refine WP_istore (ls' := [(0, _), (1, _), (2, _), (3, _), (4, _), (5, _)]) dX3_faultInParts_29 (by decide) rfl ?_
  refine WP_iload dX3_faultInParts_31 rfl ?_
  refine WQ_bipush (97) (97) dX3_faultInParts_33 rfl rfl (fun v19128 hv19128 => ?_)
  refine WQ_icmp_lt 49 dX3_faultInParts_35 rfl (fun c19128 => False.elim (by omega)) (fun c19128 => ?_)
  refine WP_iload dX3_faultInParts_38 rfl ?_
  refine WQ_bipush (122) (122) dX3_faultInParts_40 rfl rfl (fun v19130 hv19130 => ?_)
  refine WQ_icmp_gt 49 dX3_faultInParts_42 rfl (fun c19130 => False.elim (by omega)) (fun c19130 => ?_)
  refine WQ_iconst (1) (1) dX3_faultInParts_45 rfl rfl (fun v19132 hv19132 => ?_)
  refine WP_goto 50 dX3_faultInParts_46 rfl ?_
  refine WP_istore (ls' := [(0, _), (1, _), (2, _), (3, _), (4, _), (5, _), (6, _)]) dX3_faultInParts_50 (by decide) rfl ?_
  refine WP_aload_n dX3_faultInParts_52 rfl ?_
  refine WP_getr dX3_faultInParts_53 fX3_15 rfl (lyx_is hy 3 3 rfl) (rfx hr 3 2 1 (by decide)) ?_
  refine WQ_geti dX3_faultInParts_56 fX3_43 rfl (lyx_is hy 1 5 rfl) (BT_get hI.1 1 2 3 (0) (0) (4) (by decide) 2 (by decide) (by decide)) (fun v19133 ev19133 av19133 bv19133 => ?_)
  refine WP_iload dX3_faultInParts_59 rfl ?_
  refine WQ_if_eq 68 dX3_faultInParts_61 rfl (fun c19133 => False.elim (by omega)) (fun c19133 => ?_)
  refine WQ_iconst (1) (1) dX3_faultInParts_64 rfl rfl (fun v19135 hv19135 => ?_)
  refine WP_goto 69 dX3_faultInParts_65 rfl ?_
  refine WQ_icmp_eq 74 dX3_faultInParts_69 rfl (fun c19135 => ?_) (fun c19135 => ?_)
  · refine WP_iload dX3_faultInParts_74 rfl ?_
    refine WQ_if_eq 92 dX3_faultInParts_76 rfl (fun c19136 => False.elim (by omega)) (fun c19136 => ?_)
    refine WP_aload_n dX3_faultInParts_79 rfl ?_
    refine WP_iload dX3_faultInParts_80 rfl ?_
    refine WP_iload_n dX3_faultInParts_82 rfl ?_
    refine WP_iload dX3_faultInParts_83 rfl ?_
    refine WP_aload_n dX3_faultInParts_85 rfl ?_
    refine WP_callV4 (k := 3) dX3_faultInParts_86 ⟨⟨⟨by decide, by decide⟩, zX3_faultOfName⟩, lX3_96, by decide, rfl, vX3_faultOfName.1, vX3_faultOfName.2⟩ (lyx_is hy 3 3 rfl) (sx_part_27_6_0 hy hr hI v19127 cz v19122 (by omega) (by omega) (by omega) (by omega) (by omega) (by omega)) (Nat.le_of_ble_eq_true rfl) ?_
    intro r I19138 J19139 Ra hq
    obtain ⟨⟨hI19138, ec, fiI19138, fjI19138, ⟨pI19138, sI19138_27_1, sI19138_27_2⟩⟩, v19140, rfl, av19140, bv19140, cv19140⟩ := hq
    show WP _ _ _ _ (.int _ :: _) _ _ _ _
    rw [ec]
    clear ec Ra
    have fr19141 : fz 74 g [1, 4] I I19138 := fz_tr fr0 (fz_mono fiI19138 (by decide))
    have fr19142 : fz 74 g [1] J J19139 := fz_tr frj0 (fz_mono fjI19138 (by decide))
    have e19143 : I19138 (ad g 27) 1 = w19120 := by rw [sI19138_27_1]; exact ew19120
    have e19144 : I19138 (ad g 27) 2 = w19121 := by rw [sI19138_27_2]; exact ew19121
    have e19145 : I19138 (ad g 1) 1 = L := hI19138.2
    have b19146 := BT_get hI19138.1 1 1 2 (0) (0) (900) (by decide) 1 (by decide) (by decide)
    rw [e19145] at b19146
    obtain ⟨w19147, ew19147⟩ : ∃ w : Int32, I19138 (ad g 4) 0 = w := ⟨_, rfl⟩
    have bw19147 := BT_get hI19138.1 4 0 5 (0) (0) (1000) (by decide) 0 (by decide) (by decide)
    rw [ew19147] at bw19147
    rw [ew19147] at cv19140
    refine WP_goto 102 dX3_faultInParts_89 rfl ?_
    refine WP_istore (ls' := [(0, _), (1, _), (2, _), (3, _), (4, _), (5, _), (6, _), (7, _)]) dX3_faultInParts_102 (by decide) rfl ?_
    refine WP_iload dX3_faultInParts_104 rfl ?_
    refine WQ_if_eq 112 dX3_faultInParts_106 rfl (fun c19147 => ?_) (fun c19147 => ?_)
    · refine WP_aload_n dX3_faultInParts_112 rfl ?_
      refine WP_getr dX3_faultInParts_113 fX3_15 rfl (lyx_is hy 3 3 rfl) (rfx hr 3 2 1 (by decide)) ?_
      refine WP_callV0 (k := 5) dX3_faultInParts_116 ⟨⟨⟨by decide, by decide⟩, zX5_next⟩, lX3_40, by decide, rfl, vX5_next.1, vX5_next.2⟩ (lyx_is hy 1 5 rfl) (sx_nextf hy hr hI19138  ) (Nat.le_of_ble_eq_true rfl) ?_
      intro r I19149 J19150 Ra hq
      obtain ⟨⟨hI19149, ec, fiI19149, fjI19149⟩, rfl⟩ := hq
      rw [ec]
      clear ec Ra
      have fr19151 : fz 74 g [1, 4] I I19149 := fz_tr fr19141 (fz_mono fiI19149 (by decide))
      have fr19152 : fz 74 g [1] J J19150 := fz_tr fr19142 (fz_mono fjI19149 (by decide))
      have e19153 : I19149 (ad g 27) 1 = w19120 := by rw [fz_at fiI19149 27 (by decide) (by decide)]; exact e19143
      have e19154 : I19149 (ad g 27) 2 = w19121 := by rw [fz_at fiI19149 27 (by decide) (by decide)]; exact e19144
      have e19155 : I19149 (ad g 4) 0 = w19147 := by rw [fz_at fiI19149 4 (by decide) (by decide)]; exact ew19147
      have e19156 : I19149 (ad g 1) 1 = L := hI19149.2
      have b19157 := BT_get hI19149.1 1 1 2 (0) (0) (900) (by decide) 1 (by decide) (by decide)
      rw [e19156] at b19157
      refine WP_iinc (ls' := [(0, _), (1, _), (2, _), (3, _), (4, _), (5, _), (6, _), (7, _)]) dX3_faultInParts_119 rfl (by decide) rfl ?_
      have hv19158 : (v19122 + Int32.ofInt (1)).toInt = v19122.toInt + (1) := ia_n rfl (by omega) (by omega)
      generalize v19122 + Int32.ofInt (1) = v19158 at hv19158 ⊢
      refine WP_goto 8 dX3_faultInParts_122 rfl ?_
      refine WP_iload dX3_faultInParts_8 rfl ?_
      refine WP_aload_n dX3_faultInParts_10 rfl ?_
      refine WS_call hz (i := 16) (by omega) dX3_faultInParts_11 ⟨⟨by decide, by decide⟩, zJ0_length_8abf5⟩ lX3_87 vJ0_length_8abf5 (As := []) (rest := [.int v19158]) (j_length hz (i := 16) (by omega)) rfl rfl (Nat.le_of_ble_eq_true rfl) ?_
      intro r Ia Ja Ra hq
      obtain ⟨⟨ea, eb, ec⟩, v19159, rfl, cv19159⟩ := hq
      show WP _ _ _ _ (.int _ :: _) _ _ _ _
      rw [ea, eb, ec]
      clear ea eb ec Ia Ja Ra
      have hv19159 : v19159.toInt = 5 := cv19159.trans rfl
      refine WQ_icmp_ge 125 dX3_faultInParts_14 rfl (fun c19159 => False.elim (by omega)) (fun c19159 => ?_)
      refine WP_iload dX3_faultInParts_17 rfl ?_
      refine WQ_iconst (5) (5) dX3_faultInParts_19 rfl rfl (fun v19161 hv19161 => ?_)
      refine WQ_icmp_ge 125 dX3_faultInParts_20 rfl (fun c19161 => False.elim (by omega)) (fun c19161 => ?_)
      refine WP_aload_n dX3_faultInParts_23 rfl ?_
      refine WP_iload dX3_faultInParts_24 rfl ?_
      refine WS_call hz (i := 16) (by omega) dX3_faultInParts_26 ⟨⟨by decide, by decide⟩, zJ0_charAt_5068e⟩ lX3_92 vJ0_charAt_5068e (As := [.int v19158]) (rest := []) (j_charAt hz (i := 16) (k := v19158) (by omega) (by omega) (by have z9 : ((liN.getD 16 0 : Nat) : Int) = 5 := rfl; omega)) rfl rfl (Nat.le_of_ble_eq_true rfl) ?_
      intro r Ia Ja Ra hq
      obtain ⟨⟨ea, eb, ec⟩, v19163, rfl, cv19163⟩ := hq
      show WP _ _ _ _ (.int _ :: _) _ _ _ _
      rw [ea, eb, ec]
      clear ea eb ec Ia Ja Ra
      have hv19163 : v19163.toInt = 116 := cv19163.trans (by rw [show v19158.toInt.toNat = 1 by omega]; rfl)
      refine WP_istore (ls' := [(0, _), (1, _), (2, _), (3, _), (4, _), (5, _), (6, _), (7, _)]) dX3_faultInParts_29 (by decide) rfl ?_
      refine WP_iload dX3_faultInParts_31 rfl ?_
      refine WQ_bipush (97) (97) dX3_faultInParts_33 rfl rfl (fun v19164 hv19164 => ?_)
      refine WQ_icmp_lt 49 dX3_faultInParts_35 rfl (fun c19164 => False.elim (by omega)) (fun c19164 => ?_)
      refine WP_iload dX3_faultInParts_38 rfl ?_
      refine WQ_bipush (122) (122) dX3_faultInParts_40 rfl rfl (fun v19166 hv19166 => ?_)
      refine WQ_icmp_gt 49 dX3_faultInParts_42 rfl (fun c19166 => False.elim (by omega)) (fun c19166 => ?_)
      refine WQ_iconst (1) (1) dX3_faultInParts_45 rfl rfl (fun v19168 hv19168 => ?_)
      refine WP_goto 50 dX3_faultInParts_46 rfl ?_
      refine WP_istore (ls' := [(0, _), (1, _), (2, _), (3, _), (4, _), (5, _), (6, _), (7, _)]) dX3_faultInParts_50 (by decide) rfl ?_
      refine WP_aload_n dX3_faultInParts_52 rfl ?_
      refine WP_getr dX3_faultInParts_53 fX3_15 rfl (lyx_is hy 3 3 rfl) (rfx hr 3 2 1 (by decide)) ?_
      refine WQ_geti dX3_faultInParts_56 fX3_43 rfl (lyx_is hy 1 5 rfl) (BT_get hI19149.1 1 2 3 (0) (0) (4) (by decide) 2 (by decide) (by decide)) (fun v19169 ev19169 av19169 bv19169 => ?_)
      refine WP_iload dX3_faultInParts_59 rfl ?_
      refine WQ_if_eq 68 dX3_faultInParts_61 rfl (fun c19169 => False.elim (by omega)) (fun c19169 => ?_)
      refine WQ_iconst (1) (1) dX3_faultInParts_64 rfl rfl (fun v19171 hv19171 => ?_)
      refine WP_goto 69 dX3_faultInParts_65 rfl ?_
      refine WQ_icmp_eq 74 dX3_faultInParts_69 rfl (fun c19171 => ?_) (fun c19171 => ?_)
      · refine WP_iload dX3_faultInParts_74 rfl ?_
        refine WQ_if_eq 92 dX3_faultInParts_76 rfl (fun c19172 => False.elim (by omega)) (fun c19172 => ?_)
        refine WP_aload_n dX3_faultInParts_79 rfl ?_
        refine WP_iload dX3_faultInParts_80 rfl ?_
        refine WP_iload_n dX3_faultInParts_82 rfl ?_
        refine WP_iload dX3_faultInParts_83 rfl ?_
        refine WP_aload_n dX3_faultInParts_85 rfl ?_
        refine WP_callV4 (k := 3) dX3_faultInParts_86 ⟨⟨⟨by decide, by decide⟩, zX3_faultOfName⟩, lX3_96, by decide, rfl, vX3_faultOfName.1, vX3_faultOfName.2⟩ (lyx_is hy 3 3 rfl) (sx_part_27_6_1 hy hr hI19149 v19163 cz v19158 (by omega) (by omega) (by omega) (by omega) (by omega) (by omega)) (Nat.le_of_ble_eq_true rfl) ?_
        intro r I19174 J19175 Ra hq
        obtain ⟨⟨hI19174, ec, fiI19174, fjI19174, ⟨pI19174, sI19174_4_0, sI19174_27_1, sI19174_27_2⟩⟩, v19176, rfl, av19176, bv19176, cv19176⟩ := hq
        show WP _ _ _ _ (.int _ :: _) _ _ _ _
        rw [ec]
        clear ec Ra
        have fr19177 : fz 74 g [1, 4] I I19174 := fz_tr fr19151 (fz_mono fiI19174 (by decide))
        have fr19178 : fz 74 g [1] J J19175 := fz_tr fr19152 (fz_mono fjI19174 (by decide))
        have e19179 : I19174 (ad g 4) 0 = w19147 := by rw [sI19174_4_0]; exact e19155
        have e19180 : I19174 (ad g 27) 1 = w19120 := by rw [sI19174_27_1]; exact e19153
        have e19181 : I19174 (ad g 27) 2 = w19121 := by rw [sI19174_27_2]; exact e19154
        have e19182 : I19174 (ad g 1) 1 = L := hI19174.2
        have b19183 := BT_get hI19174.1 1 1 2 (0) (0) (900) (by decide) 1 (by decide) (by decide)
        rw [e19182] at b19183
        obtain ⟨w19184, ew19184⟩ : ∃ w : Int32, I19174 (ad g 4) 1 = w := ⟨_, rfl⟩
        have bw19184 := BT_get hI19174.1 4 0 5 (0) (0) (1000) (by decide) 1 (by decide) (by decide)
        rw [ew19184] at bw19184
        rw [ew19184] at cv19176
        refine WP_goto 102 dX3_faultInParts_89 rfl ?_
        refine WP_istore (ls' := [(0, _), (1, _), (2, _), (3, _), (4, _), (5, _), (6, _), (7, _)]) dX3_faultInParts_102 (by decide) rfl ?_
        refine WP_iload dX3_faultInParts_104 rfl ?_
        refine WQ_if_eq 112 dX3_faultInParts_106 rfl (fun c19184 => ?_) (fun c19184 => ?_)
        · refine WP_aload_n dX3_faultInParts_112 rfl ?_
          refine WP_getr dX3_faultInParts_113 fX3_15 rfl (lyx_is hy 3 3 rfl) (rfx hr 3 2 1 (by decide)) ?_
          refine WP_callV0 (k := 5) dX3_faultInParts_116 ⟨⟨⟨by decide, by decide⟩, zX5_next⟩, lX3_40, by decide, rfl, vX5_next.1, vX5_next.2⟩ (lyx_is hy 1 5 rfl) (sx_nextf hy hr hI19174  ) (Nat.le_of_ble_eq_true rfl) ?_
          intro r I19186 J19187 Ra hq
          obtain ⟨⟨hI19186, ec, fiI19186, fjI19186⟩, rfl⟩ := hq
          rw [ec]
          clear ec Ra
          have fr19188 : fz 74 g [1, 4] I I19186 := fz_tr fr19177 (fz_mono fiI19186 (by decide))
          have fr19189 : fz 74 g [1] J J19187 := fz_tr fr19178 (fz_mono fjI19186 (by decide))
          have e19190 : I19186 (ad g 4) 0 = w19147 := by rw [fz_at fiI19186 4 (by decide) (by decide)]; exact e19179
          have e19191 : I19186 (ad g 27) 1 = w19120 := by rw [fz_at fiI19186 27 (by decide) (by decide)]; exact e19180
          have e19192 : I19186 (ad g 27) 2 = w19121 := by rw [fz_at fiI19186 27 (by decide) (by decide)]; exact e19181
          have e19193 : I19186 (ad g 4) 1 = w19184 := by rw [fz_at fiI19186 4 (by decide) (by decide)]; exact ew19184
          have e19194 : I19186 (ad g 1) 1 = L := hI19186.2
          have b19195 := BT_get hI19186.1 1 1 2 (0) (0) (900) (by decide) 1 (by decide) (by decide)
          rw [e19194] at b19195
          refine WP_iinc (ls' := [(0, _), (1, _), (2, _), (3, _), (4, _), (5, _), (6, _), (7, _)]) dX3_faultInParts_119 rfl (by decide) rfl ?_
          have hv19196 : (v19158 + Int32.ofInt (1)).toInt = v19158.toInt + (1) := ia_n rfl (by omega) (by omega)
          generalize v19158 + Int32.ofInt (1) = v19196 at hv19196 ⊢
          refine WP_goto 8 dX3_faultInParts_122 rfl ?_
          refine WP_iload dX3_faultInParts_8 rfl ?_
          refine WP_aload_n dX3_faultInParts_10 rfl ?_
          refine WS_call hz (i := 16) (by omega) dX3_faultInParts_11 ⟨⟨by decide, by decide⟩, zJ0_length_8abf5⟩ lX3_87 vJ0_length_8abf5 (As := []) (rest := [.int v19196]) (j_length hz (i := 16) (by omega)) rfl rfl (Nat.le_of_ble_eq_true rfl) ?_
          intro r Ia Ja Ra hq
          obtain ⟨⟨ea, eb, ec⟩, v19197, rfl, cv19197⟩ := hq
          show WP _ _ _ _ (.int _ :: _) _ _ _ _
          rw [ea, eb, ec]
          clear ea eb ec Ia Ja Ra
          have hv19197 : v19197.toInt = 5 := cv19197.trans rfl
          refine WQ_icmp_ge 125 dX3_faultInParts_14 rfl (fun c19197 => False.elim (by omega)) (fun c19197 => ?_)
          refine WP_iload dX3_faultInParts_17 rfl ?_
          refine WQ_iconst (5) (5) dX3_faultInParts_19 rfl rfl (fun v19199 hv19199 => ?_)
          refine WQ_icmp_ge 125 dX3_faultInParts_20 rfl (fun c19199 => False.elim (by omega)) (fun c19199 => ?_)
          refine WP_aload_n dX3_faultInParts_23 rfl ?_
          refine WP_iload dX3_faultInParts_24 rfl ?_
          refine WS_call hz (i := 16) (by omega) dX3_faultInParts_26 ⟨⟨by decide, by decide⟩, zJ0_charAt_5068e⟩ lX3_92 vJ0_charAt_5068e (As := [.int v19196]) (rest := []) (j_charAt hz (i := 16) (k := v19196) (by omega) (by omega) (by have z9 : ((liN.getD 16 0 : Nat) : Int) = 5 := rfl; omega)) rfl rfl (Nat.le_of_ble_eq_true rfl) ?_
          intro r Ia Ja Ra hq
          obtain ⟨⟨ea, eb, ec⟩, v19201, rfl, cv19201⟩ := hq
          show WP _ _ _ _ (.int _ :: _) _ _ _ _
          rw [ea, eb, ec]
          clear ea eb ec Ia Ja Ra
          have hv19201 : v19201.toInt = 68 := cv19201.trans (by rw [show v19196.toInt.toNat = 2 by omega]; rfl)
          refine WP_istore (ls' := [(0, _), (1, _), (2, _), (3, _), (4, _), (5, _), (6, _), (7, _)]) dX3_faultInParts_29 (by decide) rfl ?_
          refine WP_iload dX3_faultInParts_31 rfl ?_
          refine WQ_bipush (97) (97) dX3_faultInParts_33 rfl rfl (fun v19202 hv19202 => ?_)
          refine WQ_icmp_lt 49 dX3_faultInParts_35 rfl (fun c19202 => ?_) (fun c19202 => False.elim (by omega))
          refine WQ_iconst (0) (0) dX3_faultInParts_49 rfl rfl (fun v19204 hv19204 => ?_)
          refine WP_istore (ls' := [(0, _), (1, _), (2, _), (3, _), (4, _), (5, _), (6, _), (7, _)]) dX3_faultInParts_50 (by decide) rfl ?_
          refine WP_aload_n dX3_faultInParts_52 rfl ?_
          refine WP_getr dX3_faultInParts_53 fX3_15 rfl (lyx_is hy 3 3 rfl) (rfx hr 3 2 1 (by decide)) ?_
          refine WQ_geti dX3_faultInParts_56 fX3_43 rfl (lyx_is hy 1 5 rfl) (BT_get hI19186.1 1 2 3 (0) (0) (4) (by decide) 2 (by decide) (by decide)) (fun v19205 ev19205 av19205 bv19205 => ?_)
          refine WP_iload dX3_faultInParts_59 rfl ?_
          refine WQ_if_eq 68 dX3_faultInParts_61 rfl (fun c19205 => ?_) (fun c19205 => False.elim (by omega))
          refine WQ_iconst (2) (2) dX3_faultInParts_68 rfl rfl (fun v19207 hv19207 => ?_)
          refine WQ_icmp_eq 74 dX3_faultInParts_69 rfl (fun c19207 => ?_) (fun c19207 => ?_)
          · refine WP_iload dX3_faultInParts_74 rfl ?_
            refine WQ_if_eq 92 dX3_faultInParts_76 rfl (fun c19208 => ?_) (fun c19208 => False.elim (by omega))
            refine WP_aload_n dX3_faultInParts_92 rfl ?_
            refine WP_iload dX3_faultInParts_93 rfl ?_
            refine WP_iload_n dX3_faultInParts_95 rfl ?_
            refine WP_iload dX3_faultInParts_96 rfl ?_
            refine WP_aload_n dX3_faultInParts_98 rfl ?_
            refine WP_callV4 (k := 3) dX3_faultInParts_99 ⟨⟨⟨by decide, by decide⟩, zX3_faultOfNumber⟩, lX3_100, by decide, rfl, vX3_faultOfNumber.1, vX3_faultOfNumber.2⟩ (lyx_is hy 3 3 rfl) (sx_part_27_6_2 hy hr hI19186 v19201 cz v19196 (by omega) (by omega) (by omega) (by omega) (by omega) (by omega) (by rw [e19190]; omega)) (Nat.le_of_ble_eq_true rfl) ?_
            intro r I19210 J19211 Ra hq
            obtain ⟨⟨hI19210, ec, fiI19210, fjI19210, ⟨pI19210, sI19210_4_0, sI19210_4_1, sI19210_27_1, sI19210_27_2⟩⟩, v19212, rfl, av19212, bv19212, cv19212⟩ := hq
            show WP _ _ _ _ (.int _ :: _) _ _ _ _
            rw [ec]
            clear ec Ra
            have fr19213 : fz 74 g [1, 4] I I19210 := fz_tr fr19188 (fz_mono fiI19210 (by decide))
            have fr19214 : fz 74 g [1] J J19211 := fz_tr fr19189 (fz_mono fjI19210 (by decide))
            have e19215 : I19210 (ad g 4) 0 = w19147 := by rw [sI19210_4_0]; exact e19190
            have e19216 : I19210 (ad g 4) 1 = w19184 := by rw [sI19210_4_1]; exact e19193
            have e19217 : I19210 (ad g 27) 1 = w19120 := by rw [sI19210_27_1]; exact e19191
            have e19218 : I19210 (ad g 27) 2 = w19121 := by rw [sI19210_27_2]; exact e19192
            have e19219 : I19210 (ad g 1) 1 = L := hI19210.2
            have b19220 := BT_get hI19210.1 1 1 2 (0) (0) (900) (by decide) 1 (by decide) (by decide)
            rw [e19219] at b19220
            obtain ⟨w19221, ew19221⟩ : ∃ w : Int32, I19210 (ad g 4) 2 = w := ⟨_, rfl⟩
            have bw19221 := BT_get hI19210.1 4 0 5 (0) (0) (1000) (by decide) 2 (by decide) (by decide)
            rw [ew19221] at bw19221
            rw [ew19221] at cv19212
            refine WP_istore (ls' := [(0, _), (1, _), (2, _), (3, _), (4, _), (5, _), (6, _), (7, _)]) dX3_faultInParts_102 (by decide) rfl ?_
            refine WP_iload dX3_faultInParts_104 rfl ?_
            refine WQ_if_eq 112 dX3_faultInParts_106 rfl (fun c19221 => ?_) (fun c19221 => ?_)
            · refine WP_aload_n dX3_faultInParts_112 rfl ?_
              refine WP_getr dX3_faultInParts_113 fX3_15 rfl (lyx_is hy 3 3 rfl) (rfx hr 3 2 1 (by decide)) ?_
              refine WP_callV0 (k := 5) dX3_faultInParts_116 ⟨⟨⟨by decide, by decide⟩, zX5_next⟩, lX3_40, by decide, rfl, vX5_next.1, vX5_next.2⟩ (lyx_is hy 1 5 rfl) (sx_nextf hy hr hI19210  ) (Nat.le_of_ble_eq_true rfl) ?_
              intro r I19223 J19224 Ra hq
              obtain ⟨⟨hI19223, ec, fiI19223, fjI19223⟩, rfl⟩ := hq
              rw [ec]
              clear ec Ra
              have fr19225 : fz 74 g [1, 4] I I19223 := fz_tr fr19213 (fz_mono fiI19223 (by decide))
              have fr19226 : fz 74 g [1] J J19224 := fz_tr fr19214 (fz_mono fjI19223 (by decide))
              have e19227 : I19223 (ad g 4) 0 = w19147 := by rw [fz_at fiI19223 4 (by decide) (by decide)]; exact e19215
              have e19228 : I19223 (ad g 4) 1 = w19184 := by rw [fz_at fiI19223 4 (by decide) (by decide)]; exact e19216
              have e19229 : I19223 (ad g 27) 1 = w19120 := by rw [fz_at fiI19223 27 (by decide) (by decide)]; exact e19217
              have e19230 : I19223 (ad g 27) 2 = w19121 := by rw [fz_at fiI19223 27 (by decide) (by decide)]; exact e19218
              have e19231 : I19223 (ad g 4) 2 = w19221 := by rw [fz_at fiI19223 4 (by decide) (by decide)]; exact ew19221
              have e19232 : I19223 (ad g 1) 1 = L := hI19223.2
              have b19233 := BT_get hI19223.1 1 1 2 (0) (0) (900) (by decide) 1 (by decide) (by decide)
              rw [e19232] at b19233
              refine WP_iinc (ls' := [(0, _), (1, _), (2, _), (3, _), (4, _), (5, _), (6, _), (7, _)]) dX3_faultInParts_119 rfl (by decide) rfl ?_
              have hv19234 : (v19196 + Int32.ofInt (1)).toInt = v19196.toInt + (1) := ia_n rfl (by omega) (by omega)
              generalize v19196 + Int32.ofInt (1) = v19234 at hv19234 ⊢
              refine WP_goto 8 dX3_faultInParts_122 rfl ?_
              refine WP_iload dX3_faultInParts_8 rfl ?_
              refine WP_aload_n dX3_faultInParts_10 rfl ?_
              refine WS_call hz (i := 16) (by omega) dX3_faultInParts_11 ⟨⟨by decide, by decide⟩, zJ0_length_8abf5⟩ lX3_87 vJ0_length_8abf5 (As := []) (rest := [.int v19234]) (j_length hz (i := 16) (by omega)) rfl rfl (Nat.le_of_ble_eq_true rfl) ?_
              intro r Ia Ja Ra hq
              obtain ⟨⟨ea, eb, ec⟩, v19235, rfl, cv19235⟩ := hq
              show WP _ _ _ _ (.int _ :: _) _ _ _ _
              rw [ea, eb, ec]
              clear ea eb ec Ia Ja Ra
              have hv19235 : v19235.toInt = 5 := cv19235.trans rfl
              refine WQ_icmp_ge 125 dX3_faultInParts_14 rfl (fun c19235 => False.elim (by omega)) (fun c19235 => ?_)
              refine WP_iload dX3_faultInParts_17 rfl ?_
              refine WQ_iconst (5) (5) dX3_faultInParts_19 rfl rfl (fun v19237 hv19237 => ?_)
              refine WQ_icmp_ge 125 dX3_faultInParts_20 rfl (fun c19237 => False.elim (by omega)) (fun c19237 => ?_)
              refine WP_aload_n dX3_faultInParts_23 rfl ?_
              refine WP_iload dX3_faultInParts_24 rfl ?_
              refine WS_call hz (i := 16) (by omega) dX3_faultInParts_26 ⟨⟨by decide, by decide⟩, zJ0_charAt_5068e⟩ lX3_92 vJ0_charAt_5068e (As := [.int v19234]) (rest := []) (j_charAt hz (i := 16) (k := v19234) (by omega) (by omega) (by have z9 : ((liN.getD 16 0 : Nat) : Int) = 5 := rfl; omega)) rfl rfl (Nat.le_of_ble_eq_true rfl) ?_
              intro r Ia Ja Ra hq
              obtain ⟨⟨ea, eb, ec⟩, v19239, rfl, cv19239⟩ := hq
              show WP _ _ _ _ (.int _ :: _) _ _ _ _
              rw [ea, eb, ec]
              clear ea eb ec Ia Ja Ra
              have hv19239 : v19239.toInt = 85 := cv19239.trans (by rw [show v19234.toInt.toNat = 3 by omega]; rfl)
              refine WP_istore (ls' := [(0, _), (1, _), (2, _), (3, _), (4, _), (5, _), (6, _), (7, _)]) dX3_faultInParts_29 (by decide) rfl ?_
              refine WP_iload dX3_faultInParts_31 rfl ?_
              refine WQ_bipush (97) (97) dX3_faultInParts_33 rfl rfl (fun v19240 hv19240 => ?_)
              refine WQ_icmp_lt 49 dX3_faultInParts_35 rfl (fun c19240 => ?_) (fun c19240 => False.elim (by omega))
              refine WQ_iconst (0) (0) dX3_faultInParts_49 rfl rfl (fun v19242 hv19242 => ?_)
              refine WP_istore (ls' := [(0, _), (1, _), (2, _), (3, _), (4, _), (5, _), (6, _), (7, _)]) dX3_faultInParts_50 (by decide) rfl ?_
              refine WP_aload_n dX3_faultInParts_52 rfl ?_
              refine WP_getr dX3_faultInParts_53 fX3_15 rfl (lyx_is hy 3 3 rfl) (rfx hr 3 2 1 (by decide)) ?_
              refine WQ_geti dX3_faultInParts_56 fX3_43 rfl (lyx_is hy 1 5 rfl) (BT_get hI19223.1 1 2 3 (0) (0) (4) (by decide) 2 (by decide) (by decide)) (fun v19243 ev19243 av19243 bv19243 => ?_)
              refine WP_iload dX3_faultInParts_59 rfl ?_
              refine WQ_if_eq 68 dX3_faultInParts_61 rfl (fun c19243 => ?_) (fun c19243 => False.elim (by omega))
              refine WQ_iconst (2) (2) dX3_faultInParts_68 rfl rfl (fun v19245 hv19245 => ?_)
              refine WQ_icmp_eq 74 dX3_faultInParts_69 rfl (fun c19245 => ?_) (fun c19245 => ?_)
              · refine WP_iload dX3_faultInParts_74 rfl ?_
                refine WQ_if_eq 92 dX3_faultInParts_76 rfl (fun c19246 => ?_) (fun c19246 => False.elim (by omega))
                refine WP_aload_n dX3_faultInParts_92 rfl ?_
                refine WP_iload dX3_faultInParts_93 rfl ?_
                refine WP_iload_n dX3_faultInParts_95 rfl ?_
                refine WP_iload dX3_faultInParts_96 rfl ?_
                refine WP_aload_n dX3_faultInParts_98 rfl ?_
                refine WP_callV4 (k := 3) dX3_faultInParts_99 ⟨⟨⟨by decide, by decide⟩, zX3_faultOfNumber⟩, lX3_100, by decide, rfl, vX3_faultOfNumber.1, vX3_faultOfNumber.2⟩ (lyx_is hy 3 3 rfl) (sx_part_27_6_3 hy hr hI19223 v19239 cz v19234 (by omega) (by omega) (by omega) (by omega) (by omega) (by omega)) (Nat.le_of_ble_eq_true rfl) ?_
                intro r I19248 J19249 Ra hq
                obtain ⟨⟨hI19248, ec, fiI19248, fjI19248, ⟨pI19248, sI19248_4_0, sI19248_4_1, sI19248_4_2, sI19248_27_1, sI19248_27_2⟩⟩, v19250, rfl, av19250, bv19250, cv19250⟩ := hq
                show WP _ _ _ _ (.int _ :: _) _ _ _ _
                rw [ec]
                clear ec Ra
                have fr19251 : fz 74 g [1, 4] I I19248 := fz_tr fr19225 (fz_mono fiI19248 (by decide))
                have fr19252 : fz 74 g [1] J J19249 := fz_tr fr19226 (fz_mono fjI19248 (by decide))
                have e19253 : I19248 (ad g 4) 0 = w19147 := by rw [sI19248_4_0]; exact e19227
                have e19254 : I19248 (ad g 4) 1 = w19184 := by rw [sI19248_4_1]; exact e19228
                have e19255 : I19248 (ad g 4) 2 = w19221 := by rw [sI19248_4_2]; exact e19231
                have e19256 : I19248 (ad g 27) 1 = w19120 := by rw [sI19248_27_1]; exact e19229
                have e19257 : I19248 (ad g 27) 2 = w19121 := by rw [sI19248_27_2]; exact e19230
                have e19258 : I19248 (ad g 1) 1 = L := hI19248.2
                have b19259 := BT_get hI19248.1 1 1 2 (0) (0) (900) (by decide) 1 (by decide) (by decide)
                rw [e19258] at b19259
                obtain ⟨w19260, ew19260⟩ : ∃ w : Int32, I19248 (ad g 4) 3 = w := ⟨_, rfl⟩
                have bw19260 := BT_get hI19248.1 4 0 5 (0) (0) (1000) (by decide) 3 (by decide) (by decide)
                rw [ew19260] at bw19260
                rw [ew19260] at cv19250
                refine WP_istore (ls' := [(0, _), (1, _), (2, _), (3, _), (4, _), (5, _), (6, _), (7, _)]) dX3_faultInParts_102 (by decide) rfl ?_
                refine WP_iload dX3_faultInParts_104 rfl ?_
                refine WQ_if_eq 112 dX3_faultInParts_106 rfl (fun c19260 => ?_) (fun c19260 => ?_)
                · refine WP_aload_n dX3_faultInParts_112 rfl ?_
                  refine WP_getr dX3_faultInParts_113 fX3_15 rfl (lyx_is hy 3 3 rfl) (rfx hr 3 2 1 (by decide)) ?_
                  refine WP_callV0 (k := 5) dX3_faultInParts_116 ⟨⟨⟨by decide, by decide⟩, zX5_next⟩, lX3_40, by decide, rfl, vX5_next.1, vX5_next.2⟩ (lyx_is hy 1 5 rfl) (sx_nextf hy hr hI19248  ) (Nat.le_of_ble_eq_true rfl) ?_
                  intro r I19262 J19263 Ra hq
                  obtain ⟨⟨hI19262, ec, fiI19262, fjI19262⟩, rfl⟩ := hq
                  rw [ec]
                  clear ec Ra
                  have fr19264 : fz 74 g [1, 4] I I19262 := fz_tr fr19251 (fz_mono fiI19262 (by decide))
                  have fr19265 : fz 74 g [1] J J19263 := fz_tr fr19252 (fz_mono fjI19262 (by decide))
                  have e19266 : I19262 (ad g 4) 0 = w19147 := by rw [fz_at fiI19262 4 (by decide) (by decide)]; exact e19253
                  have e19267 : I19262 (ad g 4) 1 = w19184 := by rw [fz_at fiI19262 4 (by decide) (by decide)]; exact e19254
                  have e19268 : I19262 (ad g 4) 2 = w19221 := by rw [fz_at fiI19262 4 (by decide) (by decide)]; exact e19255
                  have e19269 : I19262 (ad g 27) 1 = w19120 := by rw [fz_at fiI19262 27 (by decide) (by decide)]; exact e19256
                  have e19270 : I19262 (ad g 27) 2 = w19121 := by rw [fz_at fiI19262 27 (by decide) (by decide)]; exact e19257
                  have e19271 : I19262 (ad g 4) 3 = w19260 := by rw [fz_at fiI19262 4 (by decide) (by decide)]; exact ew19260
                  have e19272 : I19262 (ad g 1) 1 = L := hI19262.2
                  have b19273 := BT_get hI19262.1 1 1 2 (0) (0) (900) (by decide) 1 (by decide) (by decide)
                  rw [e19272] at b19273
                  refine WP_iinc (ls' := [(0, _), (1, _), (2, _), (3, _), (4, _), (5, _), (6, _), (7, _)]) dX3_faultInParts_119 rfl (by decide) rfl ?_
                  have hv19274 : (v19234 + Int32.ofInt (1)).toInt = v19234.toInt + (1) := ia_n rfl (by omega) (by omega)
                  generalize v19234 + Int32.ofInt (1) = v19274 at hv19274 ⊢
                  refine WP_goto 8 dX3_faultInParts_122 rfl ?_
                  refine WP_iload dX3_faultInParts_8 rfl ?_
                  refine WP_aload_n dX3_faultInParts_10 rfl ?_
                  refine WS_call hz (i := 16) (by omega) dX3_faultInParts_11 ⟨⟨by decide, by decide⟩, zJ0_length_8abf5⟩ lX3_87 vJ0_length_8abf5 (As := []) (rest := [.int v19274]) (j_length hz (i := 16) (by omega)) rfl rfl (Nat.le_of_ble_eq_true rfl) ?_
                  intro r Ia Ja Ra hq
                  obtain ⟨⟨ea, eb, ec⟩, v19275, rfl, cv19275⟩ := hq
                  show WP _ _ _ _ (.int _ :: _) _ _ _ _
                  rw [ea, eb, ec]
                  clear ea eb ec Ia Ja Ra
                  have hv19275 : v19275.toInt = 5 := cv19275.trans rfl
                  refine WQ_icmp_ge 125 dX3_faultInParts_14 rfl (fun c19275 => False.elim (by omega)) (fun c19275 => ?_)
                  refine WP_iload dX3_faultInParts_17 rfl ?_
                  refine WQ_iconst (5) (5) dX3_faultInParts_19 rfl rfl (fun v19277 hv19277 => ?_)
                  refine WQ_icmp_ge 125 dX3_faultInParts_20 rfl (fun c19277 => False.elim (by omega)) (fun c19277 => ?_)
                  refine WP_aload_n dX3_faultInParts_23 rfl ?_
                  refine WP_iload dX3_faultInParts_24 rfl ?_
                  refine WS_call hz (i := 16) (by omega) dX3_faultInParts_26 ⟨⟨by decide, by decide⟩, zJ0_charAt_5068e⟩ lX3_92 vJ0_charAt_5068e (As := [.int v19274]) (rest := []) (j_charAt hz (i := 16) (k := v19274) (by omega) (by omega) (by have z9 : ((liN.getD 16 0 : Nat) : Int) = 5 := rfl; omega)) rfl rfl (Nat.le_of_ble_eq_true rfl) ?_
                  intro r Ia Ja Ra hq
                  obtain ⟨⟨ea, eb, ec⟩, v19279, rfl, cv19279⟩ := hq
                  show WP _ _ _ _ (.int _ :: _) _ _ _ _
                  rw [ea, eb, ec]
                  clear ea eb ec Ia Ja Ra
                  have hv19279 : v19279.toInt = 86 := cv19279.trans (by rw [show v19274.toInt.toNat = 4 by omega]; rfl)
                  refine WP_istore (ls' := [(0, _), (1, _), (2, _), (3, _), (4, _), (5, _), (6, _), (7, _)]) dX3_faultInParts_29 (by decide) rfl ?_
                  refine WP_iload dX3_faultInParts_31 rfl ?_
                  refine WQ_bipush (97) (97) dX3_faultInParts_33 rfl rfl (fun v19280 hv19280 => ?_)
                  refine WQ_icmp_lt 49 dX3_faultInParts_35 rfl (fun c19280 => ?_) (fun c19280 => False.elim (by omega))
                  refine WQ_iconst (0) (0) dX3_faultInParts_49 rfl rfl (fun v19282 hv19282 => ?_)
                  refine WP_istore (ls' := [(0, _), (1, _), (2, _), (3, _), (4, _), (5, _), (6, _), (7, _)]) dX3_faultInParts_50 (by decide) rfl ?_
                  refine WP_aload_n dX3_faultInParts_52 rfl ?_
                  refine WP_getr dX3_faultInParts_53 fX3_15 rfl (lyx_is hy 3 3 rfl) (rfx hr 3 2 1 (by decide)) ?_
                  refine WQ_geti dX3_faultInParts_56 fX3_43 rfl (lyx_is hy 1 5 rfl) (BT_get hI19262.1 1 2 3 (0) (0) (4) (by decide) 2 (by decide) (by decide)) (fun v19283 ev19283 av19283 bv19283 => ?_)
                  refine WP_iload dX3_faultInParts_59 rfl ?_
                  refine WQ_if_eq 68 dX3_faultInParts_61 rfl (fun c19283 => ?_) (fun c19283 => False.elim (by omega))
                  refine WQ_iconst (2) (2) dX3_faultInParts_68 rfl rfl (fun v19285 hv19285 => ?_)
                  refine WQ_icmp_eq 74 dX3_faultInParts_69 rfl (fun c19285 => ?_) (fun c19285 => ?_)
                  · refine WP_iload dX3_faultInParts_74 rfl ?_
                    refine WQ_if_eq 92 dX3_faultInParts_76 rfl (fun c19286 => ?_) (fun c19286 => False.elim (by omega))
                    refine WP_aload_n dX3_faultInParts_92 rfl ?_
                    refine WP_iload dX3_faultInParts_93 rfl ?_
                    refine WP_iload_n dX3_faultInParts_95 rfl ?_
                    refine WP_iload dX3_faultInParts_96 rfl ?_
                    refine WP_aload_n dX3_faultInParts_98 rfl ?_
                    refine WP_callV4 (k := 3) dX3_faultInParts_99 ⟨⟨⟨by decide, by decide⟩, zX3_faultOfNumber⟩, lX3_100, by decide, rfl, vX3_faultOfNumber.1, vX3_faultOfNumber.2⟩ (lyx_is hy 3 3 rfl) (sx_part_27_6_4 hy hr hI19262 v19279 cz v19274 (by omega) (by omega) (by omega) (by omega) (by omega) (by omega)) (Nat.le_of_ble_eq_true rfl) ?_
                    intro r I19288 J19289 Ra hq
                    obtain ⟨⟨hI19288, ec, fiI19288, fjI19288, ⟨pI19288, sI19288_4_0, sI19288_4_1, sI19288_4_2, sI19288_4_3, sI19288_27_1, sI19288_27_2⟩⟩, v19290, rfl, av19290, bv19290, cv19290⟩ := hq
                    show WP _ _ _ _ (.int _ :: _) _ _ _ _
                    rw [ec]
                    clear ec Ra
                    have fr19291 : fz 74 g [1, 4] I I19288 := fz_tr fr19264 (fz_mono fiI19288 (by decide))
                    have fr19292 : fz 74 g [1] J J19289 := fz_tr fr19265 (fz_mono fjI19288 (by decide))
                    have e19293 : I19288 (ad g 4) 0 = w19147 := by rw [sI19288_4_0]; exact e19266
                    have e19294 : I19288 (ad g 4) 1 = w19184 := by rw [sI19288_4_1]; exact e19267
                    have e19295 : I19288 (ad g 4) 2 = w19221 := by rw [sI19288_4_2]; exact e19268
                    have e19296 : I19288 (ad g 4) 3 = w19260 := by rw [sI19288_4_3]; exact e19271
                    have e19297 : I19288 (ad g 27) 1 = w19120 := by rw [sI19288_27_1]; exact e19269
                    have e19298 : I19288 (ad g 27) 2 = w19121 := by rw [sI19288_27_2]; exact e19270
                    have e19299 : I19288 (ad g 1) 1 = L := hI19288.2
                    have b19300 := BT_get hI19288.1 1 1 2 (0) (0) (900) (by decide) 1 (by decide) (by decide)
                    rw [e19299] at b19300
                    obtain ⟨w19301, ew19301⟩ : ∃ w : Int32, I19288 (ad g 4) 4 = w := ⟨_, rfl⟩
                    have bw19301 := BT_get hI19288.1 4 0 5 (0) (0) (1000) (by decide) 4 (by decide) (by decide)
                    rw [ew19301] at bw19301
                    rw [ew19301] at cv19290
                    refine WP_istore (ls' := [(0, _), (1, _), (2, _), (3, _), (4, _), (5, _), (6, _), (7, _)]) dX3_faultInParts_102 (by decide) rfl ?_
                    refine WP_iload dX3_faultInParts_104 rfl ?_
                    refine WQ_if_eq 112 dX3_faultInParts_106 rfl (fun c19301 => ?_) (fun c19301 => ?_)
                    · refine WP_aload_n dX3_faultInParts_112 rfl ?_
                      refine WP_getr dX3_faultInParts_113 fX3_15 rfl (lyx_is hy 3 3 rfl) (rfx hr 3 2 1 (by decide)) ?_
                      refine WP_callV0 (k := 5) dX3_faultInParts_116 ⟨⟨⟨by decide, by decide⟩, zX5_next⟩, lX3_40, by decide, rfl, vX5_next.1, vX5_next.2⟩ (lyx_is hy 1 5 rfl) (sx_nextf hy hr hI19288  ) (Nat.le_of_ble_eq_true rfl) ?_
                      intro r I19303 J19304 Ra hq
                      obtain ⟨⟨hI19303, ec, fiI19303, fjI19303⟩, rfl⟩ := hq
                      rw [ec]
                      clear ec Ra
                      have fr19305 : fz 74 g [1, 4] I I19303 := fz_tr fr19291 (fz_mono fiI19303 (by decide))
                      have fr19306 : fz 74 g [1] J J19304 := fz_tr fr19292 (fz_mono fjI19303 (by decide))
                      have e19307 : I19303 (ad g 4) 0 = w19147 := by rw [fz_at fiI19303 4 (by decide) (by decide)]; exact e19293
                      have e19308 : I19303 (ad g 4) 1 = w19184 := by rw [fz_at fiI19303 4 (by decide) (by decide)]; exact e19294
                      have e19309 : I19303 (ad g 4) 2 = w19221 := by rw [fz_at fiI19303 4 (by decide) (by decide)]; exact e19295
                      have e19310 : I19303 (ad g 4) 3 = w19260 := by rw [fz_at fiI19303 4 (by decide) (by decide)]; exact e19296
                      have e19311 : I19303 (ad g 27) 1 = w19120 := by rw [fz_at fiI19303 27 (by decide) (by decide)]; exact e19297
                      have e19312 : I19303 (ad g 27) 2 = w19121 := by rw [fz_at fiI19303 27 (by decide) (by decide)]; exact e19298
                      have e19313 : I19303 (ad g 4) 4 = w19301 := by rw [fz_at fiI19303 4 (by decide) (by decide)]; exact ew19301
                      have e19314 : I19303 (ad g 1) 1 = L := hI19303.2
                      have b19315 := BT_get hI19303.1 1 1 2 (0) (0) (900) (by decide) 1 (by decide) (by decide)
                      rw [e19314] at b19315
                      refine WP_iinc (ls' := [(0, _), (1, _), (2, _), (3, _), (4, _), (5, _), (6, _), (7, _)]) dX3_faultInParts_119 rfl (by decide) rfl ?_
                      have hv19316 : (v19274 + Int32.ofInt (1)).toInt = v19274.toInt + (1) := ia_n rfl (by omega) (by omega)
                      generalize v19274 + Int32.ofInt (1) = v19316 at hv19316 ⊢
                      refine WP_goto 8 dX3_faultInParts_122 rfl ?_
                      refine WP_iload dX3_faultInParts_8 rfl ?_
                      refine WP_aload_n dX3_faultInParts_10 rfl ?_
                      refine WS_call hz (i := 16) (by omega) dX3_faultInParts_11 ⟨⟨by decide, by decide⟩, zJ0_length_8abf5⟩ lX3_87 vJ0_length_8abf5 (As := []) (rest := [.int v19316]) (j_length hz (i := 16) (by omega)) rfl rfl (Nat.le_of_ble_eq_true rfl) ?_
                      intro r Ia Ja Ra hq
                      obtain ⟨⟨ea, eb, ec⟩, v19317, rfl, cv19317⟩ := hq
                      show WP _ _ _ _ (.int _ :: _) _ _ _ _
                      rw [ea, eb, ec]
                      clear ea eb ec Ia Ja Ra
                      have hv19317 : v19317.toInt = 5 := cv19317.trans rfl
                      refine WQ_icmp_ge 125 dX3_faultInParts_14 rfl (fun c19317 => ?_) (fun c19317 => False.elim (by omega))
                      refine WP_aload_n dX3_faultInParts_125 rfl ?_
                      refine WP_getr dX3_faultInParts_126 fX3_15 rfl (lyx_is hy 3 3 rfl) (rfx hr 3 2 1 (by decide)) ?_
                      refine WQ_geti dX3_faultInParts_129 fX3_43 rfl (lyx_is hy 1 5 rfl) (BT_get hI19303.1 1 2 3 (0) (0) (4) (by decide) 2 (by decide) (by decide)) (fun v19319 ev19319 av19319 bv19319 => ?_)
                      refine WQ_iconst (3) (3) dX3_faultInParts_132 rfl rfl (fun v19320 hv19320 => ?_)
                      refine WQ_icmp_ne 140 dX3_faultInParts_133 rfl (fun c19320 => ?_) (fun c19320 => ?_)
                      · refine WQ_iconst (1) (1) dX3_faultInParts_140 rfl rfl (fun v19322 hv19322 => ?_)
                        exact WP_iret dX3_faultInParts_141 rfl ⟨⟨hI19303, rfl, fr19305, fr19306, ⟨trivial, (by rw [e19311, ew19120] <;> exact (eq32 _ _).mpr (by omega)), (by rw [e19312, ew19121] <;> exact (eq32 _ _).mpr (by omega))⟩⟩, _, rfl, by omega, by omega, by (try rw [e19307]; try rw [e19308]; try rw [e19309]; try rw [e19310]; try rw [e19313]); omega⟩
                      · refine WQ_iconst (0) (0) dX3_faultInParts_136 rfl rfl (fun v19323 hv19323 => ?_)
                        refine WP_goto 141 dX3_faultInParts_137 rfl ?_
                        exact WP_iret dX3_faultInParts_141 rfl ⟨⟨hI19303, rfl, fr19305, fr19306, ⟨trivial, (by rw [e19311, ew19120] <;> exact (eq32 _ _).mpr (by omega)), (by rw [e19312, ew19121] <;> exact (eq32 _ _).mpr (by omega))⟩⟩, _, rfl, by omega, by omega, by (try rw [e19307]; try rw [e19308]; try rw [e19309]; try rw [e19310]; try rw [e19313]); omega⟩
                    · refine WP_iload dX3_faultInParts_109 rfl ?_
                      exact WP_iret dX3_faultInParts_111 rfl ⟨⟨hI19288, rfl, fr19291, fr19292, ⟨trivial, (by rw [e19297, ew19120] <;> exact (eq32 _ _).mpr (by omega)), (by rw [e19298, ew19121] <;> exact (eq32 _ _).mpr (by omega))⟩⟩, _, rfl, by omega, by omega, by (try rw [e19293]; try rw [e19294]; try rw [e19295]; try rw [e19296]; try rw [ew19301]); omega⟩
                  · refine WQ_iconst (1) (1) dX3_faultInParts_72 rfl rfl (fun v19324 hv19324 => ?_)
                    obtain ⟨w19325, ew19325⟩ : ∃ w : Int32, I19262 (ad g 4) 4 = w := ⟨_, rfl⟩
                    have bw19325 := BT_get hI19262.1 4 0 5 (0) (0) (1000) (by decide) 4 (by decide) (by decide)
                    rw [ew19325] at bw19325
                    exact WP_iret dX3_faultInParts_73 rfl ⟨⟨hI19262, rfl, fr19264, fr19265, ⟨trivial, (by rw [e19269, ew19120] <;> exact (eq32 _ _).mpr (by omega)), (by rw [e19270, ew19121] <;> exact (eq32 _ _).mpr (by omega))⟩⟩, _, rfl, by omega, by omega, by (try rw [e19266]; try rw [e19267]; try rw [e19268]; try rw [e19271]; try rw [ew19325]); omega⟩
                · refine WP_iload dX3_faultInParts_109 rfl ?_
                  obtain ⟨w19326, ew19326⟩ : ∃ w : Int32, I19248 (ad g 4) 4 = w := ⟨_, rfl⟩
                  have bw19326 := BT_get hI19248.1 4 0 5 (0) (0) (1000) (by decide) 4 (by decide) (by decide)
                  rw [ew19326] at bw19326
                  exact WP_iret dX3_faultInParts_111 rfl ⟨⟨hI19248, rfl, fr19251, fr19252, ⟨trivial, (by rw [e19256, ew19120] <;> exact (eq32 _ _).mpr (by omega)), (by rw [e19257, ew19121] <;> exact (eq32 _ _).mpr (by omega))⟩⟩, _, rfl, by omega, by omega, by (try rw [e19253]; try rw [e19254]; try rw [e19255]; try rw [ew19260]; try rw [ew19326]); omega⟩
              · refine WQ_iconst (1) (1) dX3_faultInParts_72 rfl rfl (fun v19327 hv19327 => ?_)
                obtain ⟨w19328, ew19328⟩ : ∃ w : Int32, I19223 (ad g 4) 3 = w := ⟨_, rfl⟩
                have bw19328 := BT_get hI19223.1 4 0 5 (0) (0) (1000) (by decide) 3 (by decide) (by decide)
                rw [ew19328] at bw19328
                obtain ⟨w19329, ew19329⟩ : ∃ w : Int32, I19223 (ad g 4) 4 = w := ⟨_, rfl⟩
                have bw19329 := BT_get hI19223.1 4 0 5 (0) (0) (1000) (by decide) 4 (by decide) (by decide)
                rw [ew19329] at bw19329
                exact WP_iret dX3_faultInParts_73 rfl ⟨⟨hI19223, rfl, fr19225, fr19226, ⟨trivial, (by rw [e19229, ew19120] <;> exact (eq32 _ _).mpr (by omega)), (by rw [e19230, ew19121] <;> exact (eq32 _ _).mpr (by omega))⟩⟩, _, rfl, by omega, by omega, by (try rw [e19227]; try rw [e19228]; try rw [e19231]; try rw [ew19328]; try rw [ew19329]); omega⟩
            · refine WP_iload dX3_faultInParts_109 rfl ?_
              obtain ⟨w19330, ew19330⟩ : ∃ w : Int32, I19210 (ad g 4) 3 = w := ⟨_, rfl⟩
              have bw19330 := BT_get hI19210.1 4 0 5 (0) (0) (1000) (by decide) 3 (by decide) (by decide)
              rw [ew19330] at bw19330
              obtain ⟨w19331, ew19331⟩ : ∃ w : Int32, I19210 (ad g 4) 4 = w := ⟨_, rfl⟩
              have bw19331 := BT_get hI19210.1 4 0 5 (0) (0) (1000) (by decide) 4 (by decide) (by decide)
              rw [ew19331] at bw19331
              exact WP_iret dX3_faultInParts_111 rfl ⟨⟨hI19210, rfl, fr19213, fr19214, ⟨trivial, (by rw [e19217, ew19120] <;> exact (eq32 _ _).mpr (by omega)), (by rw [e19218, ew19121] <;> exact (eq32 _ _).mpr (by omega))⟩⟩, _, rfl, by omega, by omega, by (try rw [e19215]; try rw [e19216]; try rw [ew19221]; try rw [ew19330]; try rw [ew19331]); omega⟩
          · refine WQ_iconst (1) (1) dX3_faultInParts_72 rfl rfl (fun v19332 hv19332 => ?_)
            obtain ⟨w19333, ew19333⟩ : ∃ w : Int32, I19186 (ad g 4) 2 = w := ⟨_, rfl⟩
            have bw19333 := BT_get hI19186.1 4 0 5 (0) (0) (1000) (by decide) 2 (by decide) (by decide)
            rw [ew19333] at bw19333
            obtain ⟨w19334, ew19334⟩ : ∃ w : Int32, I19186 (ad g 4) 3 = w := ⟨_, rfl⟩
            have bw19334 := BT_get hI19186.1 4 0 5 (0) (0) (1000) (by decide) 3 (by decide) (by decide)
            rw [ew19334] at bw19334
            obtain ⟨w19335, ew19335⟩ : ∃ w : Int32, I19186 (ad g 4) 4 = w := ⟨_, rfl⟩
            have bw19335 := BT_get hI19186.1 4 0 5 (0) (0) (1000) (by decide) 4 (by decide) (by decide)
            rw [ew19335] at bw19335
            exact WP_iret dX3_faultInParts_73 rfl ⟨⟨hI19186, rfl, fr19188, fr19189, ⟨trivial, (by rw [e19191, ew19120] <;> exact (eq32 _ _).mpr (by omega)), (by rw [e19192, ew19121] <;> exact (eq32 _ _).mpr (by omega))⟩⟩, _, rfl, by omega, by omega, by (try rw [e19190]; try rw [e19193]; try rw [ew19333]; try rw [ew19334]; try rw [ew19335]); omega⟩
        · refine WP_iload dX3_faultInParts_109 rfl ?_
          obtain ⟨w19336, ew19336⟩ : ∃ w : Int32, I19174 (ad g 4) 2 = w := ⟨_, rfl⟩
          have bw19336 := BT_get hI19174.1 4 0 5 (0) (0) (1000) (by decide) 2 (by decide) (by decide)
          rw [ew19336] at bw19336
          obtain ⟨w19337, ew19337⟩ : ∃ w : Int32, I19174 (ad g 4) 3 = w := ⟨_, rfl⟩
          have bw19337 := BT_get hI19174.1 4 0 5 (0) (0) (1000) (by decide) 3 (by decide) (by decide)
          rw [ew19337] at bw19337
          obtain ⟨w19338, ew19338⟩ : ∃ w : Int32, I19174 (ad g 4) 4 = w := ⟨_, rfl⟩
          have bw19338 := BT_get hI19174.1 4 0 5 (0) (0) (1000) (by decide) 4 (by decide) (by decide)
          rw [ew19338] at bw19338
          exact WP_iret dX3_faultInParts_111 rfl ⟨⟨hI19174, rfl, fr19177, fr19178, ⟨trivial, (by rw [e19180, ew19120] <;> exact (eq32 _ _).mpr (by omega)), (by rw [e19181, ew19121] <;> exact (eq32 _ _).mpr (by omega))⟩⟩, _, rfl, by omega, by omega, by (try rw [e19179]; try rw [ew19184]; try rw [ew19336]; try rw [ew19337]; try rw [ew19338]); omega⟩
      · refine WQ_iconst (1) (1) dX3_faultInParts_72 rfl rfl (fun v19339 hv19339 => ?_)
        obtain ⟨w19340, ew19340⟩ : ∃ w : Int32, I19149 (ad g 4) 1 = w := ⟨_, rfl⟩
        have bw19340 := BT_get hI19149.1 4 0 5 (0) (0) (1000) (by decide) 1 (by decide) (by decide)
        rw [ew19340] at bw19340
        obtain ⟨w19341, ew19341⟩ : ∃ w : Int32, I19149 (ad g 4) 2 = w := ⟨_, rfl⟩
        have bw19341 := BT_get hI19149.1 4 0 5 (0) (0) (1000) (by decide) 2 (by decide) (by decide)
        rw [ew19341] at bw19341
        obtain ⟨w19342, ew19342⟩ : ∃ w : Int32, I19149 (ad g 4) 3 = w := ⟨_, rfl⟩
        have bw19342 := BT_get hI19149.1 4 0 5 (0) (0) (1000) (by decide) 3 (by decide) (by decide)
        rw [ew19342] at bw19342
        obtain ⟨w19343, ew19343⟩ : ∃ w : Int32, I19149 (ad g 4) 4 = w := ⟨_, rfl⟩
        have bw19343 := BT_get hI19149.1 4 0 5 (0) (0) (1000) (by decide) 4 (by decide) (by decide)
        rw [ew19343] at bw19343
        exact WP_iret dX3_faultInParts_73 rfl ⟨⟨hI19149, rfl, fr19151, fr19152, ⟨trivial, (by rw [e19153, ew19120] <;> exact (eq32 _ _).mpr (by omega)), (by rw [e19154, ew19121] <;> exact (eq32 _ _).mpr (by omega))⟩⟩, _, rfl, by omega, by omega, by (try rw [e19155]; try rw [ew19340]; try rw [ew19341]; try rw [ew19342]; try rw [ew19343]); omega⟩
    · refine WP_iload dX3_faultInParts_109 rfl ?_
      obtain ⟨w19344, ew19344⟩ : ∃ w : Int32, I19138 (ad g 4) 1 = w := ⟨_, rfl⟩
      have bw19344 := BT_get hI19138.1 4 0 5 (0) (0) (1000) (by decide) 1 (by decide) (by decide)
      rw [ew19344] at bw19344
      obtain ⟨w19345, ew19345⟩ : ∃ w : Int32, I19138 (ad g 4) 2 = w := ⟨_, rfl⟩
      have bw19345 := BT_get hI19138.1 4 0 5 (0) (0) (1000) (by decide) 2 (by decide) (by decide)
      rw [ew19345] at bw19345
      obtain ⟨w19346, ew19346⟩ : ∃ w : Int32, I19138 (ad g 4) 3 = w := ⟨_, rfl⟩
      have bw19346 := BT_get hI19138.1 4 0 5 (0) (0) (1000) (by decide) 3 (by decide) (by decide)
      rw [ew19346] at bw19346
      obtain ⟨w19347, ew19347⟩ : ∃ w : Int32, I19138 (ad g 4) 4 = w := ⟨_, rfl⟩
      have bw19347 := BT_get hI19138.1 4 0 5 (0) (0) (1000) (by decide) 4 (by decide) (by decide)
      rw [ew19347] at bw19347
      exact WP_iret dX3_faultInParts_111 rfl ⟨⟨hI19138, rfl, fr19141, fr19142, ⟨trivial, (by rw [e19143, ew19120] <;> exact (eq32 _ _).mpr (by omega)), (by rw [e19144, ew19121] <;> exact (eq32 _ _).mpr (by omega))⟩⟩, _, rfl, by omega, by omega, by (try rw [ew19147]; try rw [ew19344]; try rw [ew19345]; try rw [ew19346]; try rw [ew19347]); omega⟩
  · refine WQ_iconst (1) (1) dX3_faultInParts_72 rfl rfl (fun v19348 hv19348 => ?_)
    obtain ⟨w19349, ew19349⟩ : ∃ w : Int32, I (ad g 4) 0 = w := ⟨_, rfl⟩
    have bw19349 := BT_get hI.1 4 0 5 (0) (0) (1000) (by decide) 0 (by decide) (by decide)
    rw [ew19349] at bw19349
    obtain ⟨w19350, ew19350⟩ : ∃ w : Int32, I (ad g 4) 1 = w := ⟨_, rfl⟩
    have bw19350 := BT_get hI.1 4 0 5 (0) (0) (1000) (by decide) 1 (by decide) (by decide)
    rw [ew19350] at bw19350
    obtain ⟨w19351, ew19351⟩ : ∃ w : Int32, I (ad g 4) 2 = w := ⟨_, rfl⟩
    have bw19351 := BT_get hI.1 4 0 5 (0) (0) (1000) (by decide) 2 (by decide) (by decide)
    rw [ew19351] at bw19351
    obtain ⟨w19352, ew19352⟩ : ∃ w : Int32, I (ad g 4) 3 = w := ⟨_, rfl⟩
    have bw19352 := BT_get hI.1 4 0 5 (0) (0) (1000) (by decide) 3 (by decide) (by decide)
    rw [ew19352] at bw19352
    obtain ⟨w19353, ew19353⟩ : ∃ w : Int32, I (ad g 4) 4 = w := ⟨_, rfl⟩
    have bw19353 := BT_get hI.1 4 0 5 (0) (0) (1000) (by decide) 4 (by decide) (by decide)
    rw [ew19353] at bw19353
    exact WP_iret dX3_faultInParts_73 rfl ⟨⟨hI, rfl, fr0, frj0, ⟨trivial, rfl, rfl⟩⟩, _, rfl, by omega, by omega, by (try rw [ew19349]; try rw [ew19350]; try rw [ew19351]; try rw [ew19352]; try rw [ew19353]); omega⟩
set_option maxHeartbeats 4000000 in
set_option maxRecDepth 100000 in
theorem sx_parts_27_7 {g : GG} {n : Int} {L : Int32} (hy : LyX g) {aK aV : Nat → Nat} {fo : Option Nat} (hz : HZ g aK aV fo)  {I : pI} {J : pJ} {R : pR} (hr : RfX g R) (hI : XI g n L I) (cz : Int32) (cz_lo : 7 ≤ cz.toInt) (cz_hi : cz.toInt ≤ 7) : SP g mX3_faultInParts [.ref (ad g 3), .int cz, .ref (ad g 27)] I J R (fun r I' J' R' => (XI g n L I' ∧ R' = R ∧ fz 74 g [1, 4] I I' ∧ fz 74 g [1] J J' ∧ True ∧ I' (ad g 27) 1 = I (ad g 27) 1 ∧ I' (ad g 27) 2 = I (ad g 27) 2) ∧ ∃ v : Int32, r = some (.int v) ∧ 0 ≤ v.toInt ∧ v.toInt ≤ 5 ∧ (v.toInt = 0 → (I' (ad g 4) 0).toInt ≤ 3)) := by
  refine SP_of ⟨by decide, rfl⟩ (Nat.le_of_ble_eq_true rfl) ?_
  have e19354 : I (ad g 1) 1 = L := hI.2
  have b19355 := BT_get hI.1 1 1 2 (0) (0) (900) (by decide) 1 (by decide) (by decide)
  rw [e19354] at b19355
  have fr0 : fz 74 g [1, 4] I I := fz_rf
  have frj0 : fz 74 g [1] J J := fz_rf
  obtain ⟨w19356, ew19356⟩ : ∃ w : Int32, I (ad g 27) 1 = w := ⟨_, rfl⟩
  have bw19356 := BT_get hI.1 27 1 2 (0) (0) (4) (by decide) 1 (by decide) (by decide)
  rw [ew19356] at bw19356
  obtain ⟨w19357, ew19357⟩ : ∃ w : Int32, I (ad g 27) 2 = w := ⟨_, rfl⟩
  have bw19357 := BT_get hI.1 27 2 3 (0) (0) (3) (by decide) 2 (by decide) (by decide)
  rw [ew19357] at bw19357
  refine WP_iload_n dX3_faultInParts_0 rfl ?_
  refine WP_callS1 dX3_faultInParts_1 ⟨⟨⟨by decide, by decide⟩, zX3_shapeOf⟩, lX3_84, tX3_shapeOf⟩ (sx_shapeOf hy hz hr hI cz (by omega) (by omega)) (Nat.le_of_ble_eq_true rfl) ?_
  intro r Ia Ja Ra hq
  obtain ⟨⟨ea, eb, ec⟩, rfl⟩ := hq
  show WP _ _ _ _ (.ref _ :: _) _ _ _ _
  rw [show 10 + cz.toInt.toNat = 17 by omega]
  rw [ea, eb, ec]
  clear ea eb ec Ia Ja Ra
  refine WP_astore_n (ls' := [(0, _), (1, _), (2, _), (3, _)]) dX3_faultInParts_4 (by decide) rfl ?_
  refine WQ_iconst (0) (0) dX3_faultInParts_5 rfl rfl (fun v19358 hv19358 => ?_)
  refine WP_istore (ls' := [(0, _), (1, _), (2, _), (3, _), (4, _)]) dX3_faultInParts_6 (by decide) rfl ?_
  refine WP_iload dX3_faultInParts_8 rfl ?_
  refine WP_aload_n dX3_faultInParts_10 rfl ?_
  refine WS_call hz (i := 17) (by omega) dX3_faultInParts_11 ⟨⟨by decide, by decide⟩, zJ0_length_8abf5⟩ lX3_87 vJ0_length_8abf5 (As := []) (rest := [.int v19358]) (j_length hz (i := 17) (by omega)) rfl rfl (Nat.le_of_ble_eq_true rfl) ?_
  intro r Ia Ja Ra hq
  obtain ⟨⟨ea, eb, ec⟩, v19359, rfl, cv19359⟩ := hq
  show WP _ _ _ _ (.int _ :: _) _ _ _ _
  rw [ea, eb, ec]
  clear ea eb ec Ia Ja Ra
  have hv19359 : v19359.toInt = 2 := cv19359.trans rfl
  refine WQ_icmp_ge 125 dX3_faultInParts_14 rfl (fun c19359 => False.elim (by omega)) (fun c19359 => ?_)
  refine WP_iload dX3_faultInParts_17 rfl ?_
  refine WQ_iconst (5) (5) dX3_faultInParts_19 rfl rfl (fun v19361 hv19361 => ?_)
  refine WQ_icmp_ge 125 dX3_faultInParts_20 rfl (fun c19361 => False.elim (by omega)) (fun c19361 => ?_)
  refine WP_aload_n dX3_faultInParts_23 rfl ?_
  refine WP_iload dX3_faultInParts_24 rfl ?_
  refine WS_call hz (i := 17) (by omega) dX3_faultInParts_26 ⟨⟨by decide, by decide⟩, zJ0_charAt_5068e⟩ lX3_92 vJ0_charAt_5068e (As := [.int v19358]) (rest := []) (j_charAt hz (i := 17) (k := v19358) (by omega) (by omega) (by have z9 : ((liN.getD 17 0 : Nat) : Int) = 2 := rfl; omega)) rfl rfl (Nat.le_of_ble_eq_true rfl) ?_
  intro r Ia Ja Ra hq
  obtain ⟨⟨ea, eb, ec⟩, v19363, rfl, cv19363⟩ := hq
  show WP _ _ _ _ (.int _ :: _) _ _ _ _
  rw [ea, eb, ec]
  clear ea eb ec Ia Ja Ra
  have hv19363 : v19363.toInt = 115 := cv19363.trans (by rw [show v19358.toInt.toNat = 0 by omega]; rfl)
  refine WP_istore (ls' := [(0, _), (1, _), (2, _), (3, _), (4, _), (5, _)]) dX3_faultInParts_29 (by decide) rfl ?_
  refine WP_iload dX3_faultInParts_31 rfl ?_
  refine WQ_bipush (97) (97) dX3_faultInParts_33 rfl rfl (fun v19364 hv19364 => ?_)
  refine WQ_icmp_lt 49 dX3_faultInParts_35 rfl (fun c19364 => False.elim (by omega)) (fun c19364 => ?_)
  refine WP_iload dX3_faultInParts_38 rfl ?_
  refine WQ_bipush (122) (122) dX3_faultInParts_40 rfl rfl (fun v19366 hv19366 => ?_)
  refine WQ_icmp_gt 49 dX3_faultInParts_42 rfl (fun c19366 => False.elim (by omega)) (fun c19366 => ?_)
  refine WQ_iconst (1) (1) dX3_faultInParts_45 rfl rfl (fun v19368 hv19368 => ?_)
  refine WP_goto 50 dX3_faultInParts_46 rfl ?_
  refine WP_istore (ls' := [(0, _), (1, _), (2, _), (3, _), (4, _), (5, _), (6, _)]) dX3_faultInParts_50 (by decide) rfl ?_
  refine WP_aload_n dX3_faultInParts_52 rfl ?_
  refine WP_getr dX3_faultInParts_53 fX3_15 rfl (lyx_is hy 3 3 rfl) (rfx hr 3 2 1 (by decide)) ?_
  refine WQ_geti dX3_faultInParts_56 fX3_43 rfl (lyx_is hy 1 5 rfl) (BT_get hI.1 1 2 3 (0) (0) (4) (by decide) 2 (by decide) (by decide)) (fun v19369 ev19369 av19369 bv19369 => ?_)
  refine WP_iload dX3_faultInParts_59 rfl ?_
  refine WQ_if_eq 68 dX3_faultInParts_61 rfl (fun c19369 => False.elim (by omega)) (fun c19369 => ?_)
  refine WQ_iconst (1) (1) dX3_faultInParts_64 rfl rfl (fun v19371 hv19371 => ?_)
  refine WP_goto 69 dX3_faultInParts_65 rfl ?_
  refine WQ_icmp_eq 74 dX3_faultInParts_69 rfl (fun c19371 => ?_) (fun c19371 => ?_)
  · refine WP_iload dX3_faultInParts_74 rfl ?_
    refine WQ_if_eq 92 dX3_faultInParts_76 rfl (fun c19372 => False.elim (by omega)) (fun c19372 => ?_)
    refine WP_aload_n dX3_faultInParts_79 rfl ?_
    refine WP_iload dX3_faultInParts_80 rfl ?_
    refine WP_iload_n dX3_faultInParts_82 rfl ?_
    refine WP_iload dX3_faultInParts_83 rfl ?_
    refine WP_aload_n dX3_faultInParts_85 rfl ?_
    refine WP_callV4 (k := 3) dX3_faultInParts_86 ⟨⟨⟨by decide, by decide⟩, zX3_faultOfName⟩, lX3_96, by decide, rfl, vX3_faultOfName.1, vX3_faultOfName.2⟩ (lyx_is hy 3 3 rfl) (sx_part_27_7_0 hy hr hI v19363 cz v19358 (by omega) (by omega) (by omega) (by omega) (by omega) (by omega)) (Nat.le_of_ble_eq_true rfl) ?_
    intro r I19374 J19375 Ra hq
    obtain ⟨⟨hI19374, ec, fiI19374, fjI19374, ⟨pI19374, sI19374_27_1, sI19374_27_2⟩⟩, v19376, rfl, av19376, bv19376, cv19376⟩ := hq
    show WP _ _ _ _ (.int _ :: _) _ _ _ _
    rw [ec]
    clear ec Ra
    have fr19377 : fz 74 g [1, 4] I I19374 := fz_tr fr0 (fz_mono fiI19374 (by decide))
    have fr19378 : fz 74 g [1] J J19375 := fz_tr frj0 (fz_mono fjI19374 (by decide))
    have e19379 : I19374 (ad g 27) 1 = w19356 := by rw [sI19374_27_1]; exact ew19356
    have e19380 : I19374 (ad g 27) 2 = w19357 := by rw [sI19374_27_2]; exact ew19357
    have e19381 : I19374 (ad g 1) 1 = L := hI19374.2
    have b19382 := BT_get hI19374.1 1 1 2 (0) (0) (900) (by decide) 1 (by decide) (by decide)
    rw [e19381] at b19382
    obtain ⟨w19383, ew19383⟩ : ∃ w : Int32, I19374 (ad g 4) 0 = w := ⟨_, rfl⟩
    have bw19383 := BT_get hI19374.1 4 0 5 (0) (0) (1000) (by decide) 0 (by decide) (by decide)
    rw [ew19383] at bw19383
    rw [ew19383] at cv19376
    refine WP_goto 102 dX3_faultInParts_89 rfl ?_
    refine WP_istore (ls' := [(0, _), (1, _), (2, _), (3, _), (4, _), (5, _), (6, _), (7, _)]) dX3_faultInParts_102 (by decide) rfl ?_
    refine WP_iload dX3_faultInParts_104 rfl ?_
    refine WQ_if_eq 112 dX3_faultInParts_106 rfl (fun c19383 => ?_) (fun c19383 => ?_)
    · refine WP_aload_n dX3_faultInParts_112 rfl ?_
      refine WP_getr dX3_faultInParts_113 fX3_15 rfl (lyx_is hy 3 3 rfl) (rfx hr 3 2 1 (by decide)) ?_
      refine WP_callV0 (k := 5) dX3_faultInParts_116 ⟨⟨⟨by decide, by decide⟩, zX5_next⟩, lX3_40, by decide, rfl, vX5_next.1, vX5_next.2⟩ (lyx_is hy 1 5 rfl) (sx_nextf hy hr hI19374  ) (Nat.le_of_ble_eq_true rfl) ?_
      intro r I19385 J19386 Ra hq
      obtain ⟨⟨hI19385, ec, fiI19385, fjI19385⟩, rfl⟩ := hq
      rw [ec]
      clear ec Ra
      have fr19387 : fz 74 g [1, 4] I I19385 := fz_tr fr19377 (fz_mono fiI19385 (by decide))
      have fr19388 : fz 74 g [1] J J19386 := fz_tr fr19378 (fz_mono fjI19385 (by decide))
      have e19389 : I19385 (ad g 27) 1 = w19356 := by rw [fz_at fiI19385 27 (by decide) (by decide)]; exact e19379
      have e19390 : I19385 (ad g 27) 2 = w19357 := by rw [fz_at fiI19385 27 (by decide) (by decide)]; exact e19380
      have e19391 : I19385 (ad g 4) 0 = w19383 := by rw [fz_at fiI19385 4 (by decide) (by decide)]; exact ew19383
      have e19392 : I19385 (ad g 1) 1 = L := hI19385.2
      have b19393 := BT_get hI19385.1 1 1 2 (0) (0) (900) (by decide) 1 (by decide) (by decide)
      rw [e19392] at b19393
      refine WP_iinc (ls' := [(0, _), (1, _), (2, _), (3, _), (4, _), (5, _), (6, _), (7, _)]) dX3_faultInParts_119 rfl (by decide) rfl ?_
      have hv19394 : (v19358 + Int32.ofInt (1)).toInt = v19358.toInt + (1) := ia_n rfl (by omega) (by omega)
      generalize v19358 + Int32.ofInt (1) = v19394 at hv19394 ⊢
      refine WP_goto 8 dX3_faultInParts_122 rfl ?_
      refine WP_iload dX3_faultInParts_8 rfl ?_
      refine WP_aload_n dX3_faultInParts_10 rfl ?_
      refine WS_call hz (i := 17) (by omega) dX3_faultInParts_11 ⟨⟨by decide, by decide⟩, zJ0_length_8abf5⟩ lX3_87 vJ0_length_8abf5 (As := []) (rest := [.int v19394]) (j_length hz (i := 17) (by omega)) rfl rfl (Nat.le_of_ble_eq_true rfl) ?_
      intro r Ia Ja Ra hq
      obtain ⟨⟨ea, eb, ec⟩, v19395, rfl, cv19395⟩ := hq
      show WP _ _ _ _ (.int _ :: _) _ _ _ _
      rw [ea, eb, ec]
      clear ea eb ec Ia Ja Ra
      have hv19395 : v19395.toInt = 2 := cv19395.trans rfl
      refine WQ_icmp_ge 125 dX3_faultInParts_14 rfl (fun c19395 => False.elim (by omega)) (fun c19395 => ?_)
      refine WP_iload dX3_faultInParts_17 rfl ?_
      refine WQ_iconst (5) (5) dX3_faultInParts_19 rfl rfl (fun v19397 hv19397 => ?_)
      refine WQ_icmp_ge 125 dX3_faultInParts_20 rfl (fun c19397 => False.elim (by omega)) (fun c19397 => ?_)
      refine WP_aload_n dX3_faultInParts_23 rfl ?_
      refine WP_iload dX3_faultInParts_24 rfl ?_
      refine WS_call hz (i := 17) (by omega) dX3_faultInParts_26 ⟨⟨by decide, by decide⟩, zJ0_charAt_5068e⟩ lX3_92 vJ0_charAt_5068e (As := [.int v19394]) (rest := []) (j_charAt hz (i := 17) (k := v19394) (by omega) (by omega) (by have z9 : ((liN.getD 17 0 : Nat) : Int) = 2 := rfl; omega)) rfl rfl (Nat.le_of_ble_eq_true rfl) ?_
      intro r Ia Ja Ra hq
      obtain ⟨⟨ea, eb, ec⟩, v19399, rfl, cv19399⟩ := hq
      show WP _ _ _ _ (.int _ :: _) _ _ _ _
      rw [ea, eb, ec]
      clear ea eb ec Ia Ja Ra
      have hv19399 : v19399.toInt = 73 := cv19399.trans (by rw [show v19394.toInt.toNat = 1 by omega]; rfl)
      refine WP_istore (ls' := [(0, _), (1, _), (2, _), (3, _), (4, _), (5, _), (6, _), (7, _)]) dX3_faultInParts_29 (by decide) rfl ?_
      refine WP_iload dX3_faultInParts_31 rfl ?_
      refine WQ_bipush (97) (97) dX3_faultInParts_33 rfl rfl (fun v19400 hv19400 => ?_)
      refine WQ_icmp_lt 49 dX3_faultInParts_35 rfl (fun c19400 => ?_) (fun c19400 => False.elim (by omega))
      refine WQ_iconst (0) (0) dX3_faultInParts_49 rfl rfl (fun v19402 hv19402 => ?_)
      refine WP_istore (ls' := [(0, _), (1, _), (2, _), (3, _), (4, _), (5, _), (6, _), (7, _)]) dX3_faultInParts_50 (by decide) rfl ?_
      refine WP_aload_n dX3_faultInParts_52 rfl ?_
      refine WP_getr dX3_faultInParts_53 fX3_15 rfl (lyx_is hy 3 3 rfl) (rfx hr 3 2 1 (by decide)) ?_
      refine WQ_geti dX3_faultInParts_56 fX3_43 rfl (lyx_is hy 1 5 rfl) (BT_get hI19385.1 1 2 3 (0) (0) (4) (by decide) 2 (by decide) (by decide)) (fun v19403 ev19403 av19403 bv19403 => ?_)
      refine WP_iload dX3_faultInParts_59 rfl ?_
      refine WQ_if_eq 68 dX3_faultInParts_61 rfl (fun c19403 => ?_) (fun c19403 => False.elim (by omega))
      refine WQ_iconst (2) (2) dX3_faultInParts_68 rfl rfl (fun v19405 hv19405 => ?_)
      refine WQ_icmp_eq 74 dX3_faultInParts_69 rfl (fun c19405 => ?_) (fun c19405 => ?_)
      · refine WP_iload dX3_faultInParts_74 rfl ?_
        refine WQ_if_eq 92 dX3_faultInParts_76 rfl (fun c19406 => ?_) (fun c19406 => False.elim (by omega))
        refine WP_aload_n dX3_faultInParts_92 rfl ?_
        refine WP_iload dX3_faultInParts_93 rfl ?_
        refine WP_iload_n dX3_faultInParts_95 rfl ?_
        refine WP_iload dX3_faultInParts_96 rfl ?_
        refine WP_aload_n dX3_faultInParts_98 rfl ?_
        refine WP_callV4 (k := 3) dX3_faultInParts_99 ⟨⟨⟨by decide, by decide⟩, zX3_faultOfNumber⟩, lX3_100, by decide, rfl, vX3_faultOfNumber.1, vX3_faultOfNumber.2⟩ (lyx_is hy 3 3 rfl) (sx_part_27_7_1 hy hr hI19385 v19399 cz v19394 (by omega) (by omega) (by omega) (by omega) (by omega) (by omega)) (Nat.le_of_ble_eq_true rfl) ?_
        intro r I19408 J19409 Ra hq
        obtain ⟨⟨hI19408, ec, fiI19408, fjI19408, ⟨pI19408, sI19408_4_0, sI19408_27_1, sI19408_27_2⟩⟩, v19410, rfl, av19410, bv19410, cv19410⟩ := hq
        show WP _ _ _ _ (.int _ :: _) _ _ _ _
        rw [ec]
        clear ec Ra
        have fr19411 : fz 74 g [1, 4] I I19408 := fz_tr fr19387 (fz_mono fiI19408 (by decide))
        have fr19412 : fz 74 g [1] J J19409 := fz_tr fr19388 (fz_mono fjI19408 (by decide))
        have e19413 : I19408 (ad g 4) 0 = w19383 := by rw [sI19408_4_0]; exact e19391
        have e19414 : I19408 (ad g 27) 1 = w19356 := by rw [sI19408_27_1]; exact e19389
        have e19415 : I19408 (ad g 27) 2 = w19357 := by rw [sI19408_27_2]; exact e19390
        have e19416 : I19408 (ad g 1) 1 = L := hI19408.2
        have b19417 := BT_get hI19408.1 1 1 2 (0) (0) (900) (by decide) 1 (by decide) (by decide)
        rw [e19416] at b19417
        obtain ⟨w19418, ew19418⟩ : ∃ w : Int32, I19408 (ad g 4) 1 = w := ⟨_, rfl⟩
        have bw19418 := BT_get hI19408.1 4 0 5 (0) (0) (1000) (by decide) 1 (by decide) (by decide)
        rw [ew19418] at bw19418
        rw [ew19418] at cv19410
        refine WP_istore (ls' := [(0, _), (1, _), (2, _), (3, _), (4, _), (5, _), (6, _), (7, _)]) dX3_faultInParts_102 (by decide) rfl ?_
        refine WP_iload dX3_faultInParts_104 rfl ?_
        refine WQ_if_eq 112 dX3_faultInParts_106 rfl (fun c19418 => ?_) (fun c19418 => ?_)
        · refine WP_aload_n dX3_faultInParts_112 rfl ?_
          refine WP_getr dX3_faultInParts_113 fX3_15 rfl (lyx_is hy 3 3 rfl) (rfx hr 3 2 1 (by decide)) ?_
          refine WP_callV0 (k := 5) dX3_faultInParts_116 ⟨⟨⟨by decide, by decide⟩, zX5_next⟩, lX3_40, by decide, rfl, vX5_next.1, vX5_next.2⟩ (lyx_is hy 1 5 rfl) (sx_nextf hy hr hI19408  ) (Nat.le_of_ble_eq_true rfl) ?_
          intro r I19420 J19421 Ra hq
          obtain ⟨⟨hI19420, ec, fiI19420, fjI19420⟩, rfl⟩ := hq
          rw [ec]
          clear ec Ra
          have fr19422 : fz 74 g [1, 4] I I19420 := fz_tr fr19411 (fz_mono fiI19420 (by decide))
          have fr19423 : fz 74 g [1] J J19421 := fz_tr fr19412 (fz_mono fjI19420 (by decide))
          have e19424 : I19420 (ad g 4) 0 = w19383 := by rw [fz_at fiI19420 4 (by decide) (by decide)]; exact e19413
          have e19425 : I19420 (ad g 27) 1 = w19356 := by rw [fz_at fiI19420 27 (by decide) (by decide)]; exact e19414
          have e19426 : I19420 (ad g 27) 2 = w19357 := by rw [fz_at fiI19420 27 (by decide) (by decide)]; exact e19415
          have e19427 : I19420 (ad g 4) 1 = w19418 := by rw [fz_at fiI19420 4 (by decide) (by decide)]; exact ew19418
          have e19428 : I19420 (ad g 1) 1 = L := hI19420.2
          have b19429 := BT_get hI19420.1 1 1 2 (0) (0) (900) (by decide) 1 (by decide) (by decide)
          rw [e19428] at b19429
          refine WP_iinc (ls' := [(0, _), (1, _), (2, _), (3, _), (4, _), (5, _), (6, _), (7, _)]) dX3_faultInParts_119 rfl (by decide) rfl ?_
          have hv19430 : (v19394 + Int32.ofInt (1)).toInt = v19394.toInt + (1) := ia_n rfl (by omega) (by omega)
          generalize v19394 + Int32.ofInt (1) = v19430 at hv19430 ⊢
          refine WP_goto 8 dX3_faultInParts_122 rfl ?_
          refine WP_iload dX3_faultInParts_8 rfl ?_
          refine WP_aload_n dX3_faultInParts_10 rfl ?_
          refine WS_call hz (i := 17) (by omega) dX3_faultInParts_11 ⟨⟨by decide, by decide⟩, zJ0_length_8abf5⟩ lX3_87 vJ0_length_8abf5 (As := []) (rest := [.int v19430]) (j_length hz (i := 17) (by omega)) rfl rfl (Nat.le_of_ble_eq_true rfl) ?_
          intro r Ia Ja Ra hq
          obtain ⟨⟨ea, eb, ec⟩, v19431, rfl, cv19431⟩ := hq
          show WP _ _ _ _ (.int _ :: _) _ _ _ _
          rw [ea, eb, ec]
          clear ea eb ec Ia Ja Ra
          have hv19431 : v19431.toInt = 2 := cv19431.trans rfl
          refine WQ_icmp_ge 125 dX3_faultInParts_14 rfl (fun c19431 => ?_) (fun c19431 => False.elim (by omega))
          refine WP_aload_n dX3_faultInParts_125 rfl ?_
          refine WP_getr dX3_faultInParts_126 fX3_15 rfl (lyx_is hy 3 3 rfl) (rfx hr 3 2 1 (by decide)) ?_
          refine WQ_geti dX3_faultInParts_129 fX3_43 rfl (lyx_is hy 1 5 rfl) (BT_get hI19420.1 1 2 3 (0) (0) (4) (by decide) 2 (by decide) (by decide)) (fun v19433 ev19433 av19433 bv19433 => ?_)
          refine WQ_iconst (3) (3) dX3_faultInParts_132 rfl rfl (fun v19434 hv19434 => ?_)
          refine WQ_icmp_ne 140 dX3_faultInParts_133 rfl (fun c19434 => ?_) (fun c19434 => ?_)
          · refine WQ_iconst (1) (1) dX3_faultInParts_140 rfl rfl (fun v19436 hv19436 => ?_)
            exact WP_iret dX3_faultInParts_141 rfl ⟨⟨hI19420, rfl, fr19422, fr19423, ⟨trivial, (by rw [e19425, ew19356] <;> exact (eq32 _ _).mpr (by omega)), (by rw [e19426, ew19357] <;> exact (eq32 _ _).mpr (by omega))⟩⟩, _, rfl, by omega, by omega, by (try rw [e19424]); omega⟩
          · refine WQ_iconst (0) (0) dX3_faultInParts_136 rfl rfl (fun v19437 hv19437 => ?_)
            refine WP_goto 141 dX3_faultInParts_137 rfl ?_
            exact WP_iret dX3_faultInParts_141 rfl ⟨⟨hI19420, rfl, fr19422, fr19423, ⟨trivial, (by rw [e19425, ew19356] <;> exact (eq32 _ _).mpr (by omega)), (by rw [e19426, ew19357] <;> exact (eq32 _ _).mpr (by omega))⟩⟩, _, rfl, by omega, by omega, by (try rw [e19424]); omega⟩
        · refine WP_iload dX3_faultInParts_109 rfl ?_
          exact WP_iret dX3_faultInParts_111 rfl ⟨⟨hI19408, rfl, fr19411, fr19412, ⟨trivial, (by rw [e19414, ew19356] <;> exact (eq32 _ _).mpr (by omega)), (by rw [e19415, ew19357] <;> exact (eq32 _ _).mpr (by omega))⟩⟩, _, rfl, by omega, by omega, by (try rw [e19413]); omega⟩
      · refine WQ_iconst (1) (1) dX3_faultInParts_72 rfl rfl (fun v19438 hv19438 => ?_)
        exact WP_iret dX3_faultInParts_73 rfl ⟨⟨hI19385, rfl, fr19387, fr19388, ⟨trivial, (by rw [e19389, ew19356] <;> exact (eq32 _ _).mpr (by omega)), (by rw [e19390, ew19357] <;> exact (eq32 _ _).mpr (by omega))⟩⟩, _, rfl, by omega, by omega, by (try rw [e19391]); omega⟩
    · refine WP_iload dX3_faultInParts_109 rfl ?_
      exact WP_iret dX3_faultInParts_111 rfl ⟨⟨hI19374, rfl, fr19377, fr19378, ⟨trivial, (by rw [e19379, ew19356] <;> exact (eq32 _ _).mpr (by omega)), (by rw [e19380, ew19357] <;> exact (eq32 _ _).mpr (by omega))⟩⟩, _, rfl, by omega, by omega, by (try rw [ew19383]); omega⟩
  · refine WQ_iconst (1) (1) dX3_faultInParts_72 rfl rfl (fun v19439 hv19439 => ?_)
    obtain ⟨w19440, ew19440⟩ : ∃ w : Int32, I (ad g 4) 0 = w := ⟨_, rfl⟩
    have bw19440 := BT_get hI.1 4 0 5 (0) (0) (1000) (by decide) 0 (by decide) (by decide)
    rw [ew19440] at bw19440
    exact WP_iret dX3_faultInParts_73 rfl ⟨⟨hI, rfl, fr0, frj0, ⟨trivial, rfl, rfl⟩⟩, _, rfl, by omega, by omega, by (try rw [ew19440]); omega⟩
set_option maxHeartbeats 4000000 in
set_option maxRecDepth 100000 in
theorem sx_parts_27_8 {g : GG} {n : Int} {L : Int32} (hy : LyX g) {aK aV : Nat → Nat} {fo : Option Nat} (hz : HZ g aK aV fo)  {I : pI} {J : pJ} {R : pR} (hr : RfX g R) (hI : XI g n L I) (cz : Int32) (cz_lo : 8 ≤ cz.toInt) (cz_hi : cz.toInt ≤ 8) : SP g mX3_faultInParts [.ref (ad g 3), .int cz, .ref (ad g 27)] I J R (fun r I' J' R' => (XI g n L I' ∧ R' = R ∧ fz 74 g [1, 4] I I' ∧ fz 74 g [1] J J' ∧ True ∧ I' (ad g 27) 1 = I (ad g 27) 1 ∧ I' (ad g 27) 2 = I (ad g 27) 2) ∧ ∃ v : Int32, r = some (.int v) ∧ 0 ≤ v.toInt ∧ v.toInt ≤ 5 ∧ (v.toInt = 0 → (I' (ad g 4) 0).toInt ≤ 3)) := by
  refine SP_of ⟨by decide, rfl⟩ (Nat.le_of_ble_eq_true rfl) ?_
  have e19441 : I (ad g 1) 1 = L := hI.2
  have b19442 := BT_get hI.1 1 1 2 (0) (0) (900) (by decide) 1 (by decide) (by decide)
  rw [e19441] at b19442
  have fr0 : fz 74 g [1, 4] I I := fz_rf
  have frj0 : fz 74 g [1] J J := fz_rf
  obtain ⟨w19443, ew19443⟩ : ∃ w : Int32, I (ad g 27) 1 = w := ⟨_, rfl⟩
  have bw19443 := BT_get hI.1 27 1 2 (0) (0) (4) (by decide) 1 (by decide) (by decide)
  rw [ew19443] at bw19443
  obtain ⟨w19444, ew19444⟩ : ∃ w : Int32, I (ad g 27) 2 = w := ⟨_, rfl⟩
  have bw19444 := BT_get hI.1 27 2 3 (0) (0) (3) (by decide) 2 (by decide) (by decide)
  rw [ew19444] at bw19444
  refine WP_iload_n dX3_faultInParts_0 rfl ?_
  refine WP_callS1 dX3_faultInParts_1 ⟨⟨⟨by decide, by decide⟩, zX3_shapeOf⟩, lX3_84, tX3_shapeOf⟩ (sx_shapeOf hy hz hr hI cz (by omega) (by omega)) (Nat.le_of_ble_eq_true rfl) ?_
  intro r Ia Ja Ra hq
  obtain ⟨⟨ea, eb, ec⟩, rfl⟩ := hq
  show WP _ _ _ _ (.ref _ :: _) _ _ _ _
  rw [show 10 + cz.toInt.toNat = 18 by omega]
  rw [ea, eb, ec]
  clear ea eb ec Ia Ja Ra
  refine WP_astore_n (ls' := [(0, _), (1, _), (2, _), (3, _)]) dX3_faultInParts_4 (by decide) rfl ?_
  refine WQ_iconst (0) (0) dX3_faultInParts_5 rfl rfl (fun v19445 hv19445 => ?_)
  refine WP_istore (ls' := [(0, _), (1, _), (2, _), (3, _), (4, _)]) dX3_faultInParts_6 (by decide) rfl ?_
  refine WP_iload dX3_faultInParts_8 rfl ?_
  refine WP_aload_n dX3_faultInParts_10 rfl ?_
  refine WS_call hz (i := 18) (by omega) dX3_faultInParts_11 ⟨⟨by decide, by decide⟩, zJ0_length_8abf5⟩ lX3_87 vJ0_length_8abf5 (As := []) (rest := [.int v19445]) (j_length hz (i := 18) (by omega)) rfl rfl (Nat.le_of_ble_eq_true rfl) ?_
  intro r Ia Ja Ra hq
  obtain ⟨⟨ea, eb, ec⟩, v19446, rfl, cv19446⟩ := hq
  show WP _ _ _ _ (.int _ :: _) _ _ _ _
  rw [ea, eb, ec]
  clear ea eb ec Ia Ja Ra
  have hv19446 : v19446.toInt = 1 := cv19446.trans rfl
  refine WQ_icmp_ge 125 dX3_faultInParts_14 rfl (fun c19446 => False.elim (by omega)) (fun c19446 => ?_)
  refine WP_iload dX3_faultInParts_17 rfl ?_
  refine WQ_iconst (5) (5) dX3_faultInParts_19 rfl rfl (fun v19448 hv19448 => ?_)
  refine WQ_icmp_ge 125 dX3_faultInParts_20 rfl (fun c19448 => False.elim (by omega)) (fun c19448 => ?_)
  refine WP_aload_n dX3_faultInParts_23 rfl ?_
  refine WP_iload dX3_faultInParts_24 rfl ?_
  refine WS_call hz (i := 18) (by omega) dX3_faultInParts_26 ⟨⟨by decide, by decide⟩, zJ0_charAt_5068e⟩ lX3_92 vJ0_charAt_5068e (As := [.int v19445]) (rest := []) (j_charAt hz (i := 18) (k := v19445) (by omega) (by omega) (by have z9 : ((liN.getD 18 0 : Nat) : Int) = 1 := rfl; omega)) rfl rfl (Nat.le_of_ble_eq_true rfl) ?_
  intro r Ia Ja Ra hq
  obtain ⟨⟨ea, eb, ec⟩, v19450, rfl, cv19450⟩ := hq
  show WP _ _ _ _ (.int _ :: _) _ _ _ _
  rw [ea, eb, ec]
  clear ea eb ec Ia Ja Ra
  have hv19450 : v19450.toInt = 115 := cv19450.trans (by rw [show v19445.toInt.toNat = 0 by omega]; rfl)
  refine WP_istore (ls' := [(0, _), (1, _), (2, _), (3, _), (4, _), (5, _)]) dX3_faultInParts_29 (by decide) rfl ?_
  refine WP_iload dX3_faultInParts_31 rfl ?_
  refine WQ_bipush (97) (97) dX3_faultInParts_33 rfl rfl (fun v19451 hv19451 => ?_)
  refine WQ_icmp_lt 49 dX3_faultInParts_35 rfl (fun c19451 => False.elim (by omega)) (fun c19451 => ?_)
  refine WP_iload dX3_faultInParts_38 rfl ?_
  refine WQ_bipush (122) (122) dX3_faultInParts_40 rfl rfl (fun v19453 hv19453 => ?_)
  refine WQ_icmp_gt 49 dX3_faultInParts_42 rfl (fun c19453 => False.elim (by omega)) (fun c19453 => ?_)
  refine WQ_iconst (1) (1) dX3_faultInParts_45 rfl rfl (fun v19455 hv19455 => ?_)
  refine WP_goto 50 dX3_faultInParts_46 rfl ?_
  refine WP_istore (ls' := [(0, _), (1, _), (2, _), (3, _), (4, _), (5, _), (6, _)]) dX3_faultInParts_50 (by decide) rfl ?_
  refine WP_aload_n dX3_faultInParts_52 rfl ?_
  refine WP_getr dX3_faultInParts_53 fX3_15 rfl (lyx_is hy 3 3 rfl) (rfx hr 3 2 1 (by decide)) ?_
  refine WQ_geti dX3_faultInParts_56 fX3_43 rfl (lyx_is hy 1 5 rfl) (BT_get hI.1 1 2 3 (0) (0) (4) (by decide) 2 (by decide) (by decide)) (fun v19456 ev19456 av19456 bv19456 => ?_)
  refine WP_iload dX3_faultInParts_59 rfl ?_
  refine WQ_if_eq 68 dX3_faultInParts_61 rfl (fun c19456 => False.elim (by omega)) (fun c19456 => ?_)
  refine WQ_iconst (1) (1) dX3_faultInParts_64 rfl rfl (fun v19458 hv19458 => ?_)
  refine WP_goto 69 dX3_faultInParts_65 rfl ?_
  refine WQ_icmp_eq 74 dX3_faultInParts_69 rfl (fun c19458 => ?_) (fun c19458 => ?_)
  · refine WP_iload dX3_faultInParts_74 rfl ?_
    refine WQ_if_eq 92 dX3_faultInParts_76 rfl (fun c19459 => False.elim (by omega)) (fun c19459 => ?_)
    refine WP_aload_n dX3_faultInParts_79 rfl ?_
    refine WP_iload dX3_faultInParts_80 rfl ?_
    refine WP_iload_n dX3_faultInParts_82 rfl ?_
    refine WP_iload dX3_faultInParts_83 rfl ?_
    refine WP_aload_n dX3_faultInParts_85 rfl ?_
    refine WP_callV4 (k := 3) dX3_faultInParts_86 ⟨⟨⟨by decide, by decide⟩, zX3_faultOfName⟩, lX3_96, by decide, rfl, vX3_faultOfName.1, vX3_faultOfName.2⟩ (lyx_is hy 3 3 rfl) (sx_part_27_8_0 hy hr hI v19450 cz v19445 (by omega) (by omega) (by omega) (by omega) (by omega) (by omega)) (Nat.le_of_ble_eq_true rfl) ?_
    intro r I19461 J19462 Ra hq
    obtain ⟨⟨hI19461, ec, fiI19461, fjI19461, ⟨pI19461, sI19461_27_1, sI19461_27_2⟩⟩, v19463, rfl, av19463, bv19463, cv19463⟩ := hq
    show WP _ _ _ _ (.int _ :: _) _ _ _ _
    rw [ec]
    clear ec Ra
    have fr19464 : fz 74 g [1, 4] I I19461 := fz_tr fr0 (fz_mono fiI19461 (by decide))
    have fr19465 : fz 74 g [1] J J19462 := fz_tr frj0 (fz_mono fjI19461 (by decide))
    have e19466 : I19461 (ad g 27) 1 = w19443 := by rw [sI19461_27_1]; exact ew19443
    have e19467 : I19461 (ad g 27) 2 = w19444 := by rw [sI19461_27_2]; exact ew19444
    have e19468 : I19461 (ad g 1) 1 = L := hI19461.2
    have b19469 := BT_get hI19461.1 1 1 2 (0) (0) (900) (by decide) 1 (by decide) (by decide)
    rw [e19468] at b19469
    obtain ⟨w19470, ew19470⟩ : ∃ w : Int32, I19461 (ad g 4) 0 = w := ⟨_, rfl⟩
    have bw19470 := BT_get hI19461.1 4 0 5 (0) (0) (1000) (by decide) 0 (by decide) (by decide)
    rw [ew19470] at bw19470
    rw [ew19470] at cv19463
    refine WP_goto 102 dX3_faultInParts_89 rfl ?_
    refine WP_istore (ls' := [(0, _), (1, _), (2, _), (3, _), (4, _), (5, _), (6, _), (7, _)]) dX3_faultInParts_102 (by decide) rfl ?_
    refine WP_iload dX3_faultInParts_104 rfl ?_
    refine WQ_if_eq 112 dX3_faultInParts_106 rfl (fun c19470 => ?_) (fun c19470 => ?_)
    · refine WP_aload_n dX3_faultInParts_112 rfl ?_
      refine WP_getr dX3_faultInParts_113 fX3_15 rfl (lyx_is hy 3 3 rfl) (rfx hr 3 2 1 (by decide)) ?_
      refine WP_callV0 (k := 5) dX3_faultInParts_116 ⟨⟨⟨by decide, by decide⟩, zX5_next⟩, lX3_40, by decide, rfl, vX5_next.1, vX5_next.2⟩ (lyx_is hy 1 5 rfl) (sx_nextf hy hr hI19461  ) (Nat.le_of_ble_eq_true rfl) ?_
      intro r I19472 J19473 Ra hq
      obtain ⟨⟨hI19472, ec, fiI19472, fjI19472⟩, rfl⟩ := hq
      rw [ec]
      clear ec Ra
      have fr19474 : fz 74 g [1, 4] I I19472 := fz_tr fr19464 (fz_mono fiI19472 (by decide))
      have fr19475 : fz 74 g [1] J J19473 := fz_tr fr19465 (fz_mono fjI19472 (by decide))
      have e19476 : I19472 (ad g 27) 1 = w19443 := by rw [fz_at fiI19472 27 (by decide) (by decide)]; exact e19466
      have e19477 : I19472 (ad g 27) 2 = w19444 := by rw [fz_at fiI19472 27 (by decide) (by decide)]; exact e19467
      have e19478 : I19472 (ad g 4) 0 = w19470 := by rw [fz_at fiI19472 4 (by decide) (by decide)]; exact ew19470
      have e19479 : I19472 (ad g 1) 1 = L := hI19472.2
      have b19480 := BT_get hI19472.1 1 1 2 (0) (0) (900) (by decide) 1 (by decide) (by decide)
      rw [e19479] at b19480
      refine WP_iinc (ls' := [(0, _), (1, _), (2, _), (3, _), (4, _), (5, _), (6, _), (7, _)]) dX3_faultInParts_119 rfl (by decide) rfl ?_
      have hv19481 : (v19445 + Int32.ofInt (1)).toInt = v19445.toInt + (1) := ia_n rfl (by omega) (by omega)
      generalize v19445 + Int32.ofInt (1) = v19481 at hv19481 ⊢
      refine WP_goto 8 dX3_faultInParts_122 rfl ?_
      refine WP_iload dX3_faultInParts_8 rfl ?_
      refine WP_aload_n dX3_faultInParts_10 rfl ?_
      refine WS_call hz (i := 18) (by omega) dX3_faultInParts_11 ⟨⟨by decide, by decide⟩, zJ0_length_8abf5⟩ lX3_87 vJ0_length_8abf5 (As := []) (rest := [.int v19481]) (j_length hz (i := 18) (by omega)) rfl rfl (Nat.le_of_ble_eq_true rfl) ?_
      intro r Ia Ja Ra hq
      obtain ⟨⟨ea, eb, ec⟩, v19482, rfl, cv19482⟩ := hq
      show WP _ _ _ _ (.int _ :: _) _ _ _ _
      rw [ea, eb, ec]
      clear ea eb ec Ia Ja Ra
      have hv19482 : v19482.toInt = 1 := cv19482.trans rfl
      refine WQ_icmp_ge 125 dX3_faultInParts_14 rfl (fun c19482 => ?_) (fun c19482 => False.elim (by omega))
      refine WP_aload_n dX3_faultInParts_125 rfl ?_
      refine WP_getr dX3_faultInParts_126 fX3_15 rfl (lyx_is hy 3 3 rfl) (rfx hr 3 2 1 (by decide)) ?_
      refine WQ_geti dX3_faultInParts_129 fX3_43 rfl (lyx_is hy 1 5 rfl) (BT_get hI19472.1 1 2 3 (0) (0) (4) (by decide) 2 (by decide) (by decide)) (fun v19484 ev19484 av19484 bv19484 => ?_)
      refine WQ_iconst (3) (3) dX3_faultInParts_132 rfl rfl (fun v19485 hv19485 => ?_)
      refine WQ_icmp_ne 140 dX3_faultInParts_133 rfl (fun c19485 => ?_) (fun c19485 => ?_)
      · refine WQ_iconst (1) (1) dX3_faultInParts_140 rfl rfl (fun v19487 hv19487 => ?_)
        exact WP_iret dX3_faultInParts_141 rfl ⟨⟨hI19472, rfl, fr19474, fr19475, ⟨trivial, (by rw [e19476, ew19443] <;> exact (eq32 _ _).mpr (by omega)), (by rw [e19477, ew19444] <;> exact (eq32 _ _).mpr (by omega))⟩⟩, _, rfl, by omega, by omega, by (try rw [e19478]); omega⟩
      · refine WQ_iconst (0) (0) dX3_faultInParts_136 rfl rfl (fun v19488 hv19488 => ?_)
        refine WP_goto 141 dX3_faultInParts_137 rfl ?_
        exact WP_iret dX3_faultInParts_141 rfl ⟨⟨hI19472, rfl, fr19474, fr19475, ⟨trivial, (by rw [e19476, ew19443] <;> exact (eq32 _ _).mpr (by omega)), (by rw [e19477, ew19444] <;> exact (eq32 _ _).mpr (by omega))⟩⟩, _, rfl, by omega, by omega, by (try rw [e19478]); omega⟩
    · refine WP_iload dX3_faultInParts_109 rfl ?_
      exact WP_iret dX3_faultInParts_111 rfl ⟨⟨hI19461, rfl, fr19464, fr19465, ⟨trivial, (by rw [e19466, ew19443] <;> exact (eq32 _ _).mpr (by omega)), (by rw [e19467, ew19444] <;> exact (eq32 _ _).mpr (by omega))⟩⟩, _, rfl, by omega, by omega, by (try rw [ew19470]); omega⟩
  · refine WQ_iconst (1) (1) dX3_faultInParts_72 rfl rfl (fun v19489 hv19489 => ?_)
    obtain ⟨w19490, ew19490⟩ : ∃ w : Int32, I (ad g 4) 0 = w := ⟨_, rfl⟩
    have bw19490 := BT_get hI.1 4 0 5 (0) (0) (1000) (by decide) 0 (by decide) (by decide)
    rw [ew19490] at bw19490
    exact WP_iret dX3_faultInParts_73 rfl ⟨⟨hI, rfl, fr0, frj0, ⟨trivial, rfl, rfl⟩⟩, _, rfl, by omega, by omega, by (try rw [ew19490]); omega⟩
set_option maxHeartbeats 4000000 in
set_option maxRecDepth 100000 in
theorem sx_parts_27_9 {g : GG} {n : Int} {L : Int32} (hy : LyX g) {aK aV : Nat → Nat} {fo : Option Nat} (hz : HZ g aK aV fo)  {I : pI} {J : pJ} {R : pR} (hr : RfX g R) (hI : XI g n L I) (cz : Int32) (cz_lo : 9 ≤ cz.toInt) (cz_hi : cz.toInt ≤ 9) : SP g mX3_faultInParts [.ref (ad g 3), .int cz, .ref (ad g 27)] I J R (fun r I' J' R' => (XI g n L I' ∧ R' = R ∧ fz 74 g [1, 4] I I' ∧ fz 74 g [1] J J' ∧ True ∧ I' (ad g 27) 1 = I (ad g 27) 1 ∧ I' (ad g 27) 2 = I (ad g 27) 2) ∧ ∃ v : Int32, r = some (.int v) ∧ 0 ≤ v.toInt ∧ v.toInt ≤ 5 ∧ (v.toInt = 0 → (I' (ad g 4) 0).toInt ≤ 2)) := by
  refine SP_of ⟨by decide, rfl⟩ (Nat.le_of_ble_eq_true rfl) ?_
  have e19491 : I (ad g 1) 1 = L := hI.2
  have b19492 := BT_get hI.1 1 1 2 (0) (0) (900) (by decide) 1 (by decide) (by decide)
  rw [e19491] at b19492
  have fr0 : fz 74 g [1, 4] I I := fz_rf
  have frj0 : fz 74 g [1] J J := fz_rf
  obtain ⟨w19493, ew19493⟩ : ∃ w : Int32, I (ad g 27) 1 = w := ⟨_, rfl⟩
  have bw19493 := BT_get hI.1 27 1 2 (0) (0) (4) (by decide) 1 (by decide) (by decide)
  rw [ew19493] at bw19493
  obtain ⟨w19494, ew19494⟩ : ∃ w : Int32, I (ad g 27) 2 = w := ⟨_, rfl⟩
  have bw19494 := BT_get hI.1 27 2 3 (0) (0) (3) (by decide) 2 (by decide) (by decide)
  rw [ew19494] at bw19494
  refine WP_iload_n dX3_faultInParts_0 rfl ?_
  refine WP_callS1 dX3_faultInParts_1 ⟨⟨⟨by decide, by decide⟩, zX3_shapeOf⟩, lX3_84, tX3_shapeOf⟩ (sx_shapeOf hy hz hr hI cz (by omega) (by omega)) (Nat.le_of_ble_eq_true rfl) ?_
  intro r Ia Ja Ra hq
  obtain ⟨⟨ea, eb, ec⟩, rfl⟩ := hq
  show WP _ _ _ _ (.ref _ :: _) _ _ _ _
  rw [show 10 + cz.toInt.toNat = 19 by omega]
  rw [ea, eb, ec]
  clear ea eb ec Ia Ja Ra
  refine WP_astore_n (ls' := [(0, _), (1, _), (2, _), (3, _)]) dX3_faultInParts_4 (by decide) rfl ?_
  refine WQ_iconst (0) (0) dX3_faultInParts_5 rfl rfl (fun v19495 hv19495 => ?_)
  refine WP_istore (ls' := [(0, _), (1, _), (2, _), (3, _), (4, _)]) dX3_faultInParts_6 (by decide) rfl ?_
  refine WP_iload dX3_faultInParts_8 rfl ?_
  refine WP_aload_n dX3_faultInParts_10 rfl ?_
  refine WS_call hz (i := 19) (by omega) dX3_faultInParts_11 ⟨⟨by decide, by decide⟩, zJ0_length_8abf5⟩ lX3_87 vJ0_length_8abf5 (As := []) (rest := [.int v19495]) (j_length hz (i := 19) (by omega)) rfl rfl (Nat.le_of_ble_eq_true rfl) ?_
  intro r Ia Ja Ra hq
  obtain ⟨⟨ea, eb, ec⟩, v19496, rfl, cv19496⟩ := hq
  show WP _ _ _ _ (.int _ :: _) _ _ _ _
  rw [ea, eb, ec]
  clear ea eb ec Ia Ja Ra
  have hv19496 : v19496.toInt = 1 := cv19496.trans rfl
  refine WQ_icmp_ge 125 dX3_faultInParts_14 rfl (fun c19496 => False.elim (by omega)) (fun c19496 => ?_)
  refine WP_iload dX3_faultInParts_17 rfl ?_
  refine WQ_iconst (5) (5) dX3_faultInParts_19 rfl rfl (fun v19498 hv19498 => ?_)
  refine WQ_icmp_ge 125 dX3_faultInParts_20 rfl (fun c19498 => False.elim (by omega)) (fun c19498 => ?_)
  refine WP_aload_n dX3_faultInParts_23 rfl ?_
  refine WP_iload dX3_faultInParts_24 rfl ?_
  refine WS_call hz (i := 19) (by omega) dX3_faultInParts_26 ⟨⟨by decide, by decide⟩, zJ0_charAt_5068e⟩ lX3_92 vJ0_charAt_5068e (As := [.int v19495]) (rest := []) (j_charAt hz (i := 19) (k := v19495) (by omega) (by omega) (by have z9 : ((liN.getD 19 0 : Nat) : Int) = 1 := rfl; omega)) rfl rfl (Nat.le_of_ble_eq_true rfl) ?_
  intro r Ia Ja Ra hq
  obtain ⟨⟨ea, eb, ec⟩, v19500, rfl, cv19500⟩ := hq
  show WP _ _ _ _ (.int _ :: _) _ _ _ _
  rw [ea, eb, ec]
  clear ea eb ec Ia Ja Ra
  have hv19500 : v19500.toInt = 116 := cv19500.trans (by rw [show v19495.toInt.toNat = 0 by omega]; rfl)
  refine WP_istore (ls' := [(0, _), (1, _), (2, _), (3, _), (4, _), (5, _)]) dX3_faultInParts_29 (by decide) rfl ?_
  refine WP_iload dX3_faultInParts_31 rfl ?_
  refine WQ_bipush (97) (97) dX3_faultInParts_33 rfl rfl (fun v19501 hv19501 => ?_)
  refine WQ_icmp_lt 49 dX3_faultInParts_35 rfl (fun c19501 => False.elim (by omega)) (fun c19501 => ?_)
  refine WP_iload dX3_faultInParts_38 rfl ?_
  refine WQ_bipush (122) (122) dX3_faultInParts_40 rfl rfl (fun v19503 hv19503 => ?_)
  refine WQ_icmp_gt 49 dX3_faultInParts_42 rfl (fun c19503 => False.elim (by omega)) (fun c19503 => ?_)
  refine WQ_iconst (1) (1) dX3_faultInParts_45 rfl rfl (fun v19505 hv19505 => ?_)
  refine WP_goto 50 dX3_faultInParts_46 rfl ?_
  refine WP_istore (ls' := [(0, _), (1, _), (2, _), (3, _), (4, _), (5, _), (6, _)]) dX3_faultInParts_50 (by decide) rfl ?_
  refine WP_aload_n dX3_faultInParts_52 rfl ?_
  refine WP_getr dX3_faultInParts_53 fX3_15 rfl (lyx_is hy 3 3 rfl) (rfx hr 3 2 1 (by decide)) ?_
  refine WQ_geti dX3_faultInParts_56 fX3_43 rfl (lyx_is hy 1 5 rfl) (BT_get hI.1 1 2 3 (0) (0) (4) (by decide) 2 (by decide) (by decide)) (fun v19506 ev19506 av19506 bv19506 => ?_)
  refine WP_iload dX3_faultInParts_59 rfl ?_
  refine WQ_if_eq 68 dX3_faultInParts_61 rfl (fun c19506 => False.elim (by omega)) (fun c19506 => ?_)
  refine WQ_iconst (1) (1) dX3_faultInParts_64 rfl rfl (fun v19508 hv19508 => ?_)
  refine WP_goto 69 dX3_faultInParts_65 rfl ?_
  refine WQ_icmp_eq 74 dX3_faultInParts_69 rfl (fun c19508 => ?_) (fun c19508 => ?_)
  · refine WP_iload dX3_faultInParts_74 rfl ?_
    refine WQ_if_eq 92 dX3_faultInParts_76 rfl (fun c19509 => False.elim (by omega)) (fun c19509 => ?_)
    refine WP_aload_n dX3_faultInParts_79 rfl ?_
    refine WP_iload dX3_faultInParts_80 rfl ?_
    refine WP_iload_n dX3_faultInParts_82 rfl ?_
    refine WP_iload dX3_faultInParts_83 rfl ?_
    refine WP_aload_n dX3_faultInParts_85 rfl ?_
    refine WP_callV4 (k := 3) dX3_faultInParts_86 ⟨⟨⟨by decide, by decide⟩, zX3_faultOfName⟩, lX3_96, by decide, rfl, vX3_faultOfName.1, vX3_faultOfName.2⟩ (lyx_is hy 3 3 rfl) (sx_part_27_9_0 hy hr hI v19500 cz v19495 (by omega) (by omega) (by omega) (by omega) (by omega) (by omega)) (Nat.le_of_ble_eq_true rfl) ?_
    intro r I19511 J19512 Ra hq
    obtain ⟨⟨hI19511, ec, fiI19511, fjI19511, ⟨pI19511, sI19511_27_1, sI19511_27_2⟩⟩, v19513, rfl, av19513, bv19513, cv19513⟩ := hq
    show WP _ _ _ _ (.int _ :: _) _ _ _ _
    rw [ec]
    clear ec Ra
    have fr19514 : fz 74 g [1, 4] I I19511 := fz_tr fr0 (fz_mono fiI19511 (by decide))
    have fr19515 : fz 74 g [1] J J19512 := fz_tr frj0 (fz_mono fjI19511 (by decide))
    have e19516 : I19511 (ad g 27) 1 = w19493 := by rw [sI19511_27_1]; exact ew19493
    have e19517 : I19511 (ad g 27) 2 = w19494 := by rw [sI19511_27_2]; exact ew19494
    have e19518 : I19511 (ad g 1) 1 = L := hI19511.2
    have b19519 := BT_get hI19511.1 1 1 2 (0) (0) (900) (by decide) 1 (by decide) (by decide)
    rw [e19518] at b19519
    obtain ⟨w19520, ew19520⟩ : ∃ w : Int32, I19511 (ad g 4) 0 = w := ⟨_, rfl⟩
    have bw19520 := BT_get hI19511.1 4 0 5 (0) (0) (1000) (by decide) 0 (by decide) (by decide)
    rw [ew19520] at bw19520
    rw [ew19520] at cv19513
    refine WP_goto 102 dX3_faultInParts_89 rfl ?_
    refine WP_istore (ls' := [(0, _), (1, _), (2, _), (3, _), (4, _), (5, _), (6, _), (7, _)]) dX3_faultInParts_102 (by decide) rfl ?_
    refine WP_iload dX3_faultInParts_104 rfl ?_
    refine WQ_if_eq 112 dX3_faultInParts_106 rfl (fun c19520 => ?_) (fun c19520 => ?_)
    · refine WP_aload_n dX3_faultInParts_112 rfl ?_
      refine WP_getr dX3_faultInParts_113 fX3_15 rfl (lyx_is hy 3 3 rfl) (rfx hr 3 2 1 (by decide)) ?_
      refine WP_callV0 (k := 5) dX3_faultInParts_116 ⟨⟨⟨by decide, by decide⟩, zX5_next⟩, lX3_40, by decide, rfl, vX5_next.1, vX5_next.2⟩ (lyx_is hy 1 5 rfl) (sx_nextf hy hr hI19511  ) (Nat.le_of_ble_eq_true rfl) ?_
      intro r I19522 J19523 Ra hq
      obtain ⟨⟨hI19522, ec, fiI19522, fjI19522⟩, rfl⟩ := hq
      rw [ec]
      clear ec Ra
      have fr19524 : fz 74 g [1, 4] I I19522 := fz_tr fr19514 (fz_mono fiI19522 (by decide))
      have fr19525 : fz 74 g [1] J J19523 := fz_tr fr19515 (fz_mono fjI19522 (by decide))
      have e19526 : I19522 (ad g 27) 1 = w19493 := by rw [fz_at fiI19522 27 (by decide) (by decide)]; exact e19516
      have e19527 : I19522 (ad g 27) 2 = w19494 := by rw [fz_at fiI19522 27 (by decide) (by decide)]; exact e19517
      have e19528 : I19522 (ad g 4) 0 = w19520 := by rw [fz_at fiI19522 4 (by decide) (by decide)]; exact ew19520
      have e19529 : I19522 (ad g 1) 1 = L := hI19522.2
      have b19530 := BT_get hI19522.1 1 1 2 (0) (0) (900) (by decide) 1 (by decide) (by decide)
      rw [e19529] at b19530
      refine WP_iinc (ls' := [(0, _), (1, _), (2, _), (3, _), (4, _), (5, _), (6, _), (7, _)]) dX3_faultInParts_119 rfl (by decide) rfl ?_
      have hv19531 : (v19495 + Int32.ofInt (1)).toInt = v19495.toInt + (1) := ia_n rfl (by omega) (by omega)
      generalize v19495 + Int32.ofInt (1) = v19531 at hv19531 ⊢
      refine WP_goto 8 dX3_faultInParts_122 rfl ?_
      refine WP_iload dX3_faultInParts_8 rfl ?_
      refine WP_aload_n dX3_faultInParts_10 rfl ?_
      refine WS_call hz (i := 19) (by omega) dX3_faultInParts_11 ⟨⟨by decide, by decide⟩, zJ0_length_8abf5⟩ lX3_87 vJ0_length_8abf5 (As := []) (rest := [.int v19531]) (j_length hz (i := 19) (by omega)) rfl rfl (Nat.le_of_ble_eq_true rfl) ?_
      intro r Ia Ja Ra hq
      obtain ⟨⟨ea, eb, ec⟩, v19532, rfl, cv19532⟩ := hq
      show WP _ _ _ _ (.int _ :: _) _ _ _ _
      rw [ea, eb, ec]
      clear ea eb ec Ia Ja Ra
      have hv19532 : v19532.toInt = 1 := cv19532.trans rfl
      refine WQ_icmp_ge 125 dX3_faultInParts_14 rfl (fun c19532 => ?_) (fun c19532 => False.elim (by omega))
      refine WP_aload_n dX3_faultInParts_125 rfl ?_
      refine WP_getr dX3_faultInParts_126 fX3_15 rfl (lyx_is hy 3 3 rfl) (rfx hr 3 2 1 (by decide)) ?_
      refine WQ_geti dX3_faultInParts_129 fX3_43 rfl (lyx_is hy 1 5 rfl) (BT_get hI19522.1 1 2 3 (0) (0) (4) (by decide) 2 (by decide) (by decide)) (fun v19534 ev19534 av19534 bv19534 => ?_)
      refine WQ_iconst (3) (3) dX3_faultInParts_132 rfl rfl (fun v19535 hv19535 => ?_)
      refine WQ_icmp_ne 140 dX3_faultInParts_133 rfl (fun c19535 => ?_) (fun c19535 => ?_)
      · refine WQ_iconst (1) (1) dX3_faultInParts_140 rfl rfl (fun v19537 hv19537 => ?_)
        exact WP_iret dX3_faultInParts_141 rfl ⟨⟨hI19522, rfl, fr19524, fr19525, ⟨trivial, (by rw [e19526, ew19493] <;> exact (eq32 _ _).mpr (by omega)), (by rw [e19527, ew19494] <;> exact (eq32 _ _).mpr (by omega))⟩⟩, _, rfl, by omega, by omega, by (try rw [e19528]); omega⟩
      · refine WQ_iconst (0) (0) dX3_faultInParts_136 rfl rfl (fun v19538 hv19538 => ?_)
        refine WP_goto 141 dX3_faultInParts_137 rfl ?_
        exact WP_iret dX3_faultInParts_141 rfl ⟨⟨hI19522, rfl, fr19524, fr19525, ⟨trivial, (by rw [e19526, ew19493] <;> exact (eq32 _ _).mpr (by omega)), (by rw [e19527, ew19494] <;> exact (eq32 _ _).mpr (by omega))⟩⟩, _, rfl, by omega, by omega, by (try rw [e19528]); omega⟩
    · refine WP_iload dX3_faultInParts_109 rfl ?_
      exact WP_iret dX3_faultInParts_111 rfl ⟨⟨hI19511, rfl, fr19514, fr19515, ⟨trivial, (by rw [e19516, ew19493] <;> exact (eq32 _ _).mpr (by omega)), (by rw [e19517, ew19494] <;> exact (eq32 _ _).mpr (by omega))⟩⟩, _, rfl, by omega, by omega, by (try rw [ew19520]); omega⟩
  · refine WQ_iconst (1) (1) dX3_faultInParts_72 rfl rfl (fun v19539 hv19539 => ?_)
    obtain ⟨w19540, ew19540⟩ : ∃ w : Int32, I (ad g 4) 0 = w := ⟨_, rfl⟩
    have bw19540 := BT_get hI.1 4 0 5 (0) (0) (1000) (by decide) 0 (by decide) (by decide)
    rw [ew19540] at bw19540
    exact WP_iret dX3_faultInParts_73 rfl ⟨⟨hI, rfl, fr0, frj0, ⟨trivial, rfl, rfl⟩⟩, _, rfl, by omega, by omega, by (try rw [ew19540]); omega⟩
set_option maxHeartbeats 4000000 in
set_option maxRecDepth 100000 in
theorem sx_parts_27_10 {g : GG} {n : Int} {L : Int32} (hy : LyX g) {aK aV : Nat → Nat} {fo : Option Nat} (hz : HZ g aK aV fo)  {I : pI} {J : pJ} {R : pR} (hr : RfX g R) (hI : XI g n L I) (cz : Int32) (cz_lo : 10 ≤ cz.toInt) (cz_hi : cz.toInt ≤ 10) : SP g mX3_faultInParts [.ref (ad g 3), .int cz, .ref (ad g 27)] I J R (fun r I' J' R' => (XI g n L I' ∧ R' = R ∧ fz 74 g [1, 4] I I' ∧ fz 74 g [1] J J' ∧ True ∧ I' (ad g 27) 1 = I (ad g 27) 1 ∧ I' (ad g 27) 2 = I (ad g 27) 2) ∧ ∃ v : Int32, r = some (.int v) ∧ 0 ≤ v.toInt ∧ v.toInt ≤ 5 ∧ (v.toInt = 0 → (I' (ad g 4) 0).toInt ≤ 3 ∧ (I' (ad g 4) 1).toInt ≤ 2 ∧ (I' (ad g 4) 2).toInt ≤ 6 ∧ (I' (ad g 4) 3).toInt ≤ 3 ∧ (I' (ad g 4) 4).toInt ≤ 99)) := by
  refine SP_of ⟨by decide, rfl⟩ (Nat.le_of_ble_eq_true rfl) ?_
  have e19541 : I (ad g 1) 1 = L := hI.2
  have b19542 := BT_get hI.1 1 1 2 (0) (0) (900) (by decide) 1 (by decide) (by decide)
  rw [e19541] at b19542
  have fr0 : fz 74 g [1, 4] I I := fz_rf
  have frj0 : fz 74 g [1] J J := fz_rf
  obtain ⟨w19543, ew19543⟩ : ∃ w : Int32, I (ad g 27) 1 = w := ⟨_, rfl⟩
  have bw19543 := BT_get hI.1 27 1 2 (0) (0) (4) (by decide) 1 (by decide) (by decide)
  rw [ew19543] at bw19543
  obtain ⟨w19544, ew19544⟩ : ∃ w : Int32, I (ad g 27) 2 = w := ⟨_, rfl⟩
  have bw19544 := BT_get hI.1 27 2 3 (0) (0) (3) (by decide) 2 (by decide) (by decide)
  rw [ew19544] at bw19544
  refine WP_iload_n dX3_faultInParts_0 rfl ?_
  refine WP_callS1 dX3_faultInParts_1 ⟨⟨⟨by decide, by decide⟩, zX3_shapeOf⟩, lX3_84, tX3_shapeOf⟩ (sx_shapeOf hy hz hr hI cz (by omega) (by omega)) (Nat.le_of_ble_eq_true rfl) ?_
  intro r Ia Ja Ra hq
  obtain ⟨⟨ea, eb, ec⟩, rfl⟩ := hq
  show WP _ _ _ _ (.ref _ :: _) _ _ _ _
  rw [show 10 + cz.toInt.toNat = 20 by omega]
  rw [ea, eb, ec]
  clear ea eb ec Ia Ja Ra
  refine WP_astore_n (ls' := [(0, _), (1, _), (2, _), (3, _)]) dX3_faultInParts_4 (by decide) rfl ?_
  refine WQ_iconst (0) (0) dX3_faultInParts_5 rfl rfl (fun v19545 hv19545 => ?_)
  refine WP_istore (ls' := [(0, _), (1, _), (2, _), (3, _), (4, _)]) dX3_faultInParts_6 (by decide) rfl ?_
  refine WP_iload dX3_faultInParts_8 rfl ?_
  refine WP_aload_n dX3_faultInParts_10 rfl ?_
  refine WS_call hz (i := 20) (by omega) dX3_faultInParts_11 ⟨⟨by decide, by decide⟩, zJ0_length_8abf5⟩ lX3_87 vJ0_length_8abf5 (As := []) (rest := [.int v19545]) (j_length hz (i := 20) (by omega)) rfl rfl (Nat.le_of_ble_eq_true rfl) ?_
  intro r Ia Ja Ra hq
  obtain ⟨⟨ea, eb, ec⟩, v19546, rfl, cv19546⟩ := hq
  show WP _ _ _ _ (.int _ :: _) _ _ _ _
  rw [ea, eb, ec]
  clear ea eb ec Ia Ja Ra
  have hv19546 : v19546.toInt = 5 := cv19546.trans rfl
  refine WQ_icmp_ge 125 dX3_faultInParts_14 rfl (fun c19546 => False.elim (by omega)) (fun c19546 => ?_)
  refine WP_iload dX3_faultInParts_17 rfl ?_
  refine WQ_iconst (5) (5) dX3_faultInParts_19 rfl rfl (fun v19548 hv19548 => ?_)
  refine WQ_icmp_ge 125 dX3_faultInParts_20 rfl (fun c19548 => False.elim (by omega)) (fun c19548 => ?_)
  refine WP_aload_n dX3_faultInParts_23 rfl ?_
  refine WP_iload dX3_faultInParts_24 rfl ?_
  refine WS_call hz (i := 20) (by omega) dX3_faultInParts_26 ⟨⟨by decide, by decide⟩, zJ0_charAt_5068e⟩ lX3_92 vJ0_charAt_5068e (As := [.int v19545]) (rest := []) (j_charAt hz (i := 20) (k := v19545) (by omega) (by omega) (by have z9 : ((liN.getD 20 0 : Nat) : Int) = 5 := rfl; omega)) rfl rfl (Nat.le_of_ble_eq_true rfl) ?_
  intro r Ia Ja Ra hq
  obtain ⟨⟨ea, eb, ec⟩, v19550, rfl, cv19550⟩ := hq
  show WP _ _ _ _ (.int _ :: _) _ _ _ _
  rw [ea, eb, ec]
  clear ea eb ec Ia Ja Ra
  have hv19550 : v19550.toInt = 115 := cv19550.trans (by rw [show v19545.toInt.toNat = 0 by omega]; rfl)
  refine WP_istore (ls' := [(0, _), (1, _), (2, _), (3, _), (4, _), (5, _)]) dX3_faultInParts_29 (by decide) rfl ?_
  refine WP_iload dX3_faultInParts_31 rfl ?_
  refine WQ_bipush (97) (97) dX3_faultInParts_33 rfl rfl (fun v19551 hv19551 => ?_)
  refine WQ_icmp_lt 49 dX3_faultInParts_35 rfl (fun c19551 => False.elim (by omega)) (fun c19551 => ?_)
  refine WP_iload dX3_faultInParts_38 rfl ?_
  refine WQ_bipush (122) (122) dX3_faultInParts_40 rfl rfl (fun v19553 hv19553 => ?_)
  refine WQ_icmp_gt 49 dX3_faultInParts_42 rfl (fun c19553 => False.elim (by omega)) (fun c19553 => ?_)
  refine WQ_iconst (1) (1) dX3_faultInParts_45 rfl rfl (fun v19555 hv19555 => ?_)
  refine WP_goto 50 dX3_faultInParts_46 rfl ?_
  refine WP_istore (ls' := [(0, _), (1, _), (2, _), (3, _), (4, _), (5, _), (6, _)]) dX3_faultInParts_50 (by decide) rfl ?_
  refine WP_aload_n dX3_faultInParts_52 rfl ?_
  refine WP_getr dX3_faultInParts_53 fX3_15 rfl (lyx_is hy 3 3 rfl) (rfx hr 3 2 1 (by decide)) ?_
  refine WQ_geti dX3_faultInParts_56 fX3_43 rfl (lyx_is hy 1 5 rfl) (BT_get hI.1 1 2 3 (0) (0) (4) (by decide) 2 (by decide) (by decide)) (fun v19556 ev19556 av19556 bv19556 => ?_)
  refine WP_iload dX3_faultInParts_59 rfl ?_
  refine WQ_if_eq 68 dX3_faultInParts_61 rfl (fun c19556 => False.elim (by omega)) (fun c19556 => ?_)
  refine WQ_iconst (1) (1) dX3_faultInParts_64 rfl rfl (fun v19558 hv19558 => ?_)
  refine WP_goto 69 dX3_faultInParts_65 rfl ?_
  refine WQ_icmp_eq 74 dX3_faultInParts_69 rfl (fun c19558 => ?_) (fun c19558 => ?_)
  · refine WP_iload dX3_faultInParts_74 rfl ?_
    refine WQ_if_eq 92 dX3_faultInParts_76 rfl (fun c19559 => False.elim (by omega)) (fun c19559 => ?_)
    refine WP_aload_n dX3_faultInParts_79 rfl ?_
    refine WP_iload dX3_faultInParts_80 rfl ?_
    refine WP_iload_n dX3_faultInParts_82 rfl ?_
    refine WP_iload dX3_faultInParts_83 rfl ?_
    refine WP_aload_n dX3_faultInParts_85 rfl ?_
    refine WP_callV4 (k := 3) dX3_faultInParts_86 ⟨⟨⟨by decide, by decide⟩, zX3_faultOfName⟩, lX3_96, by decide, rfl, vX3_faultOfName.1, vX3_faultOfName.2⟩ (lyx_is hy 3 3 rfl) (sx_part_27_10_0 hy hr hI v19550 cz v19545 (by omega) (by omega) (by omega) (by omega) (by omega) (by omega)) (Nat.le_of_ble_eq_true rfl) ?_
    intro r I19561 J19562 Ra hq
    obtain ⟨⟨hI19561, ec, fiI19561, fjI19561, ⟨pI19561, sI19561_27_1, sI19561_27_2⟩⟩, v19563, rfl, av19563, bv19563, cv19563⟩ := hq
    show WP _ _ _ _ (.int _ :: _) _ _ _ _
    rw [ec]
    clear ec Ra
    have fr19564 : fz 74 g [1, 4] I I19561 := fz_tr fr0 (fz_mono fiI19561 (by decide))
    have fr19565 : fz 74 g [1] J J19562 := fz_tr frj0 (fz_mono fjI19561 (by decide))
    have e19566 : I19561 (ad g 27) 1 = w19543 := by rw [sI19561_27_1]; exact ew19543
    have e19567 : I19561 (ad g 27) 2 = w19544 := by rw [sI19561_27_2]; exact ew19544
    have e19568 : I19561 (ad g 1) 1 = L := hI19561.2
    have b19569 := BT_get hI19561.1 1 1 2 (0) (0) (900) (by decide) 1 (by decide) (by decide)
    rw [e19568] at b19569
    obtain ⟨w19570, ew19570⟩ : ∃ w : Int32, I19561 (ad g 4) 0 = w := ⟨_, rfl⟩
    have bw19570 := BT_get hI19561.1 4 0 5 (0) (0) (1000) (by decide) 0 (by decide) (by decide)
    rw [ew19570] at bw19570
    rw [ew19570] at cv19563
    refine WP_goto 102 dX3_faultInParts_89 rfl ?_
    refine WP_istore (ls' := [(0, _), (1, _), (2, _), (3, _), (4, _), (5, _), (6, _), (7, _)]) dX3_faultInParts_102 (by decide) rfl ?_
    refine WP_iload dX3_faultInParts_104 rfl ?_
    refine WQ_if_eq 112 dX3_faultInParts_106 rfl (fun c19570 => ?_) (fun c19570 => ?_)
    · refine WP_aload_n dX3_faultInParts_112 rfl ?_
      refine WP_getr dX3_faultInParts_113 fX3_15 rfl (lyx_is hy 3 3 rfl) (rfx hr 3 2 1 (by decide)) ?_
      refine WP_callV0 (k := 5) dX3_faultInParts_116 ⟨⟨⟨by decide, by decide⟩, zX5_next⟩, lX3_40, by decide, rfl, vX5_next.1, vX5_next.2⟩ (lyx_is hy 1 5 rfl) (sx_nextf hy hr hI19561  ) (Nat.le_of_ble_eq_true rfl) ?_
      intro r I19572 J19573 Ra hq
      obtain ⟨⟨hI19572, ec, fiI19572, fjI19572⟩, rfl⟩ := hq
      rw [ec]
      clear ec Ra
      have fr19574 : fz 74 g [1, 4] I I19572 := fz_tr fr19564 (fz_mono fiI19572 (by decide))
      have fr19575 : fz 74 g [1] J J19573 := fz_tr fr19565 (fz_mono fjI19572 (by decide))
      have e19576 : I19572 (ad g 27) 1 = w19543 := by rw [fz_at fiI19572 27 (by decide) (by decide)]; exact e19566
      have e19577 : I19572 (ad g 27) 2 = w19544 := by rw [fz_at fiI19572 27 (by decide) (by decide)]; exact e19567
      have e19578 : I19572 (ad g 4) 0 = w19570 := by rw [fz_at fiI19572 4 (by decide) (by decide)]; exact ew19570
      have e19579 : I19572 (ad g 1) 1 = L := hI19572.2
      have b19580 := BT_get hI19572.1 1 1 2 (0) (0) (900) (by decide) 1 (by decide) (by decide)
      rw [e19579] at b19580
      refine WP_iinc (ls' := [(0, _), (1, _), (2, _), (3, _), (4, _), (5, _), (6, _), (7, _)]) dX3_faultInParts_119 rfl (by decide) rfl ?_
      have hv19581 : (v19545 + Int32.ofInt (1)).toInt = v19545.toInt + (1) := ia_n rfl (by omega) (by omega)
      generalize v19545 + Int32.ofInt (1) = v19581 at hv19581 ⊢
      refine WP_goto 8 dX3_faultInParts_122 rfl ?_
      refine WP_iload dX3_faultInParts_8 rfl ?_
      refine WP_aload_n dX3_faultInParts_10 rfl ?_
      refine WS_call hz (i := 20) (by omega) dX3_faultInParts_11 ⟨⟨by decide, by decide⟩, zJ0_length_8abf5⟩ lX3_87 vJ0_length_8abf5 (As := []) (rest := [.int v19581]) (j_length hz (i := 20) (by omega)) rfl rfl (Nat.le_of_ble_eq_true rfl) ?_
      intro r Ia Ja Ra hq
      obtain ⟨⟨ea, eb, ec⟩, v19582, rfl, cv19582⟩ := hq
      show WP _ _ _ _ (.int _ :: _) _ _ _ _
      rw [ea, eb, ec]
      clear ea eb ec Ia Ja Ra
      have hv19582 : v19582.toInt = 5 := cv19582.trans rfl
      refine WQ_icmp_ge 125 dX3_faultInParts_14 rfl (fun c19582 => False.elim (by omega)) (fun c19582 => ?_)
      refine WP_iload dX3_faultInParts_17 rfl ?_
      refine WQ_iconst (5) (5) dX3_faultInParts_19 rfl rfl (fun v19584 hv19584 => ?_)
      refine WQ_icmp_ge 125 dX3_faultInParts_20 rfl (fun c19584 => False.elim (by omega)) (fun c19584 => ?_)
      refine WP_aload_n dX3_faultInParts_23 rfl ?_
      refine WP_iload dX3_faultInParts_24 rfl ?_
      refine WS_call hz (i := 20) (by omega) dX3_faultInParts_26 ⟨⟨by decide, by decide⟩, zJ0_charAt_5068e⟩ lX3_92 vJ0_charAt_5068e (As := [.int v19581]) (rest := []) (j_charAt hz (i := 20) (k := v19581) (by omega) (by omega) (by have z9 : ((liN.getD 20 0 : Nat) : Int) = 5 := rfl; omega)) rfl rfl (Nat.le_of_ble_eq_true rfl) ?_
      intro r Ia Ja Ra hq
      obtain ⟨⟨ea, eb, ec⟩, v19586, rfl, cv19586⟩ := hq
      show WP _ _ _ _ (.int _ :: _) _ _ _ _
      rw [ea, eb, ec]
      clear ea eb ec Ia Ja Ra
      have hv19586 : v19586.toInt = 116 := cv19586.trans (by rw [show v19581.toInt.toNat = 1 by omega]; rfl)
      refine WP_istore (ls' := [(0, _), (1, _), (2, _), (3, _), (4, _), (5, _), (6, _), (7, _)]) dX3_faultInParts_29 (by decide) rfl ?_
      refine WP_iload dX3_faultInParts_31 rfl ?_
      refine WQ_bipush (97) (97) dX3_faultInParts_33 rfl rfl (fun v19587 hv19587 => ?_)
      refine WQ_icmp_lt 49 dX3_faultInParts_35 rfl (fun c19587 => False.elim (by omega)) (fun c19587 => ?_)
      refine WP_iload dX3_faultInParts_38 rfl ?_
      refine WQ_bipush (122) (122) dX3_faultInParts_40 rfl rfl (fun v19589 hv19589 => ?_)
      refine WQ_icmp_gt 49 dX3_faultInParts_42 rfl (fun c19589 => False.elim (by omega)) (fun c19589 => ?_)
      refine WQ_iconst (1) (1) dX3_faultInParts_45 rfl rfl (fun v19591 hv19591 => ?_)
      refine WP_goto 50 dX3_faultInParts_46 rfl ?_
      refine WP_istore (ls' := [(0, _), (1, _), (2, _), (3, _), (4, _), (5, _), (6, _), (7, _)]) dX3_faultInParts_50 (by decide) rfl ?_
      refine WP_aload_n dX3_faultInParts_52 rfl ?_
      refine WP_getr dX3_faultInParts_53 fX3_15 rfl (lyx_is hy 3 3 rfl) (rfx hr 3 2 1 (by decide)) ?_
      refine WQ_geti dX3_faultInParts_56 fX3_43 rfl (lyx_is hy 1 5 rfl) (BT_get hI19572.1 1 2 3 (0) (0) (4) (by decide) 2 (by decide) (by decide)) (fun v19592 ev19592 av19592 bv19592 => ?_)
      refine WP_iload dX3_faultInParts_59 rfl ?_
      refine WQ_if_eq 68 dX3_faultInParts_61 rfl (fun c19592 => False.elim (by omega)) (fun c19592 => ?_)
      refine WQ_iconst (1) (1) dX3_faultInParts_64 rfl rfl (fun v19594 hv19594 => ?_)
      refine WP_goto 69 dX3_faultInParts_65 rfl ?_
      refine WQ_icmp_eq 74 dX3_faultInParts_69 rfl (fun c19594 => ?_) (fun c19594 => ?_)
      · refine WP_iload dX3_faultInParts_74 rfl ?_
        refine WQ_if_eq 92 dX3_faultInParts_76 rfl (fun c19595 => False.elim (by omega)) (fun c19595 => ?_)
        refine WP_aload_n dX3_faultInParts_79 rfl ?_
        refine WP_iload dX3_faultInParts_80 rfl ?_
        refine WP_iload_n dX3_faultInParts_82 rfl ?_
        refine WP_iload dX3_faultInParts_83 rfl ?_
        refine WP_aload_n dX3_faultInParts_85 rfl ?_
        refine WP_callV4 (k := 3) dX3_faultInParts_86 ⟨⟨⟨by decide, by decide⟩, zX3_faultOfName⟩, lX3_96, by decide, rfl, vX3_faultOfName.1, vX3_faultOfName.2⟩ (lyx_is hy 3 3 rfl) (sx_part_27_10_1 hy hr hI19572 v19586 cz v19581 (by omega) (by omega) (by omega) (by omega) (by omega) (by omega)) (Nat.le_of_ble_eq_true rfl) ?_
        intro r I19597 J19598 Ra hq
        obtain ⟨⟨hI19597, ec, fiI19597, fjI19597, ⟨pI19597, sI19597_4_0, sI19597_27_1, sI19597_27_2⟩⟩, v19599, rfl, av19599, bv19599, cv19599⟩ := hq
        show WP _ _ _ _ (.int _ :: _) _ _ _ _
        rw [ec]
        clear ec Ra
        have fr19600 : fz 74 g [1, 4] I I19597 := fz_tr fr19574 (fz_mono fiI19597 (by decide))
        have fr19601 : fz 74 g [1] J J19598 := fz_tr fr19575 (fz_mono fjI19597 (by decide))
        have e19602 : I19597 (ad g 4) 0 = w19570 := by rw [sI19597_4_0]; exact e19578
        have e19603 : I19597 (ad g 27) 1 = w19543 := by rw [sI19597_27_1]; exact e19576
        have e19604 : I19597 (ad g 27) 2 = w19544 := by rw [sI19597_27_2]; exact e19577
        have e19605 : I19597 (ad g 1) 1 = L := hI19597.2
        have b19606 := BT_get hI19597.1 1 1 2 (0) (0) (900) (by decide) 1 (by decide) (by decide)
        rw [e19605] at b19606
        obtain ⟨w19607, ew19607⟩ : ∃ w : Int32, I19597 (ad g 4) 1 = w := ⟨_, rfl⟩
        have bw19607 := BT_get hI19597.1 4 0 5 (0) (0) (1000) (by decide) 1 (by decide) (by decide)
        rw [ew19607] at bw19607
        rw [ew19607] at cv19599
        refine WP_goto 102 dX3_faultInParts_89 rfl ?_
        refine WP_istore (ls' := [(0, _), (1, _), (2, _), (3, _), (4, _), (5, _), (6, _), (7, _)]) dX3_faultInParts_102 (by decide) rfl ?_
        refine WP_iload dX3_faultInParts_104 rfl ?_
        refine WQ_if_eq 112 dX3_faultInParts_106 rfl (fun c19607 => ?_) (fun c19607 => ?_)
        · refine WP_aload_n dX3_faultInParts_112 rfl ?_
          refine WP_getr dX3_faultInParts_113 fX3_15 rfl (lyx_is hy 3 3 rfl) (rfx hr 3 2 1 (by decide)) ?_
          refine WP_callV0 (k := 5) dX3_faultInParts_116 ⟨⟨⟨by decide, by decide⟩, zX5_next⟩, lX3_40, by decide, rfl, vX5_next.1, vX5_next.2⟩ (lyx_is hy 1 5 rfl) (sx_nextf hy hr hI19597  ) (Nat.le_of_ble_eq_true rfl) ?_
          intro r I19609 J19610 Ra hq
          obtain ⟨⟨hI19609, ec, fiI19609, fjI19609⟩, rfl⟩ := hq
          rw [ec]
          clear ec Ra
          have fr19611 : fz 74 g [1, 4] I I19609 := fz_tr fr19600 (fz_mono fiI19609 (by decide))
          have fr19612 : fz 74 g [1] J J19610 := fz_tr fr19601 (fz_mono fjI19609 (by decide))
          have e19613 : I19609 (ad g 4) 0 = w19570 := by rw [fz_at fiI19609 4 (by decide) (by decide)]; exact e19602
          have e19614 : I19609 (ad g 27) 1 = w19543 := by rw [fz_at fiI19609 27 (by decide) (by decide)]; exact e19603
          have e19615 : I19609 (ad g 27) 2 = w19544 := by rw [fz_at fiI19609 27 (by decide) (by decide)]; exact e19604
          have e19616 : I19609 (ad g 4) 1 = w19607 := by rw [fz_at fiI19609 4 (by decide) (by decide)]; exact ew19607
          have e19617 : I19609 (ad g 1) 1 = L := hI19609.2
          have b19618 := BT_get hI19609.1 1 1 2 (0) (0) (900) (by decide) 1 (by decide) (by decide)
          rw [e19617] at b19618
          refine WP_iinc (ls' := [(0, _), (1, _), (2, _), (3, _), (4, _), (5, _), (6, _), (7, _)]) dX3_faultInParts_119 rfl (by decide) rfl ?_
          have hv19619 : (v19581 + Int32.ofInt (1)).toInt = v19581.toInt + (1) := ia_n rfl (by omega) (by omega)
          generalize v19581 + Int32.ofInt (1) = v19619 at hv19619 ⊢
          refine WP_goto 8 dX3_faultInParts_122 rfl ?_
          refine WP_iload dX3_faultInParts_8 rfl ?_
          refine WP_aload_n dX3_faultInParts_10 rfl ?_
          refine WS_call hz (i := 20) (by omega) dX3_faultInParts_11 ⟨⟨by decide, by decide⟩, zJ0_length_8abf5⟩ lX3_87 vJ0_length_8abf5 (As := []) (rest := [.int v19619]) (j_length hz (i := 20) (by omega)) rfl rfl (Nat.le_of_ble_eq_true rfl) ?_
          intro r Ia Ja Ra hq
          obtain ⟨⟨ea, eb, ec⟩, v19620, rfl, cv19620⟩ := hq
          show WP _ _ _ _ (.int _ :: _) _ _ _ _
          rw [ea, eb, ec]
          clear ea eb ec Ia Ja Ra
          have hv19620 : v19620.toInt = 5 := cv19620.trans rfl
          refine WQ_icmp_ge 125 dX3_faultInParts_14 rfl (fun c19620 => False.elim (by omega)) (fun c19620 => ?_)
          refine WP_iload dX3_faultInParts_17 rfl ?_
          refine WQ_iconst (5) (5) dX3_faultInParts_19 rfl rfl (fun v19622 hv19622 => ?_)
          refine WQ_icmp_ge 125 dX3_faultInParts_20 rfl (fun c19622 => False.elim (by omega)) (fun c19622 => ?_)
          refine WP_aload_n dX3_faultInParts_23 rfl ?_
          refine WP_iload dX3_faultInParts_24 rfl ?_
          refine WS_call hz (i := 20) (by omega) dX3_faultInParts_26 ⟨⟨by decide, by decide⟩, zJ0_charAt_5068e⟩ lX3_92 vJ0_charAt_5068e (As := [.int v19619]) (rest := []) (j_charAt hz (i := 20) (k := v19619) (by omega) (by omega) (by have z9 : ((liN.getD 20 0 : Nat) : Int) = 5 := rfl; omega)) rfl rfl (Nat.le_of_ble_eq_true rfl) ?_
          intro r Ia Ja Ra hq
          obtain ⟨⟨ea, eb, ec⟩, v19624, rfl, cv19624⟩ := hq
          show WP _ _ _ _ (.int _ :: _) _ _ _ _
          rw [ea, eb, ec]
          clear ea eb ec Ia Ja Ra
          have hv19624 : v19624.toInt = 68 := cv19624.trans (by rw [show v19619.toInt.toNat = 2 by omega]; rfl)
          refine WP_istore (ls' := [(0, _), (1, _), (2, _), (3, _), (4, _), (5, _), (6, _), (7, _)]) dX3_faultInParts_29 (by decide) rfl ?_
          refine WP_iload dX3_faultInParts_31 rfl ?_
          refine WQ_bipush (97) (97) dX3_faultInParts_33 rfl rfl (fun v19625 hv19625 => ?_)
          refine WQ_icmp_lt 49 dX3_faultInParts_35 rfl (fun c19625 => ?_) (fun c19625 => False.elim (by omega))
          refine WQ_iconst (0) (0) dX3_faultInParts_49 rfl rfl (fun v19627 hv19627 => ?_)
          refine WP_istore (ls' := [(0, _), (1, _), (2, _), (3, _), (4, _), (5, _), (6, _), (7, _)]) dX3_faultInParts_50 (by decide) rfl ?_
          refine WP_aload_n dX3_faultInParts_52 rfl ?_
          refine WP_getr dX3_faultInParts_53 fX3_15 rfl (lyx_is hy 3 3 rfl) (rfx hr 3 2 1 (by decide)) ?_
          refine WQ_geti dX3_faultInParts_56 fX3_43 rfl (lyx_is hy 1 5 rfl) (BT_get hI19609.1 1 2 3 (0) (0) (4) (by decide) 2 (by decide) (by decide)) (fun v19628 ev19628 av19628 bv19628 => ?_)
          refine WP_iload dX3_faultInParts_59 rfl ?_
          refine WQ_if_eq 68 dX3_faultInParts_61 rfl (fun c19628 => ?_) (fun c19628 => False.elim (by omega))
          refine WQ_iconst (2) (2) dX3_faultInParts_68 rfl rfl (fun v19630 hv19630 => ?_)
          refine WQ_icmp_eq 74 dX3_faultInParts_69 rfl (fun c19630 => ?_) (fun c19630 => ?_)
          · refine WP_iload dX3_faultInParts_74 rfl ?_
            refine WQ_if_eq 92 dX3_faultInParts_76 rfl (fun c19631 => ?_) (fun c19631 => False.elim (by omega))
            refine WP_aload_n dX3_faultInParts_92 rfl ?_
            refine WP_iload dX3_faultInParts_93 rfl ?_
            refine WP_iload_n dX3_faultInParts_95 rfl ?_
            refine WP_iload dX3_faultInParts_96 rfl ?_
            refine WP_aload_n dX3_faultInParts_98 rfl ?_
            refine WP_callV4 (k := 3) dX3_faultInParts_99 ⟨⟨⟨by decide, by decide⟩, zX3_faultOfNumber⟩, lX3_100, by decide, rfl, vX3_faultOfNumber.1, vX3_faultOfNumber.2⟩ (lyx_is hy 3 3 rfl) (sx_part_27_10_2 hy hr hI19609 v19624 cz v19619 (by omega) (by omega) (by omega) (by omega) (by omega) (by omega) (by rw [e19613]; omega)) (Nat.le_of_ble_eq_true rfl) ?_
            intro r I19633 J19634 Ra hq
            obtain ⟨⟨hI19633, ec, fiI19633, fjI19633, ⟨pI19633, sI19633_4_0, sI19633_4_1, sI19633_27_1, sI19633_27_2⟩⟩, v19635, rfl, av19635, bv19635, cv19635⟩ := hq
            show WP _ _ _ _ (.int _ :: _) _ _ _ _
            rw [ec]
            clear ec Ra
            have fr19636 : fz 74 g [1, 4] I I19633 := fz_tr fr19611 (fz_mono fiI19633 (by decide))
            have fr19637 : fz 74 g [1] J J19634 := fz_tr fr19612 (fz_mono fjI19633 (by decide))
            have e19638 : I19633 (ad g 4) 0 = w19570 := by rw [sI19633_4_0]; exact e19613
            have e19639 : I19633 (ad g 4) 1 = w19607 := by rw [sI19633_4_1]; exact e19616
            have e19640 : I19633 (ad g 27) 1 = w19543 := by rw [sI19633_27_1]; exact e19614
            have e19641 : I19633 (ad g 27) 2 = w19544 := by rw [sI19633_27_2]; exact e19615
            have e19642 : I19633 (ad g 1) 1 = L := hI19633.2
            have b19643 := BT_get hI19633.1 1 1 2 (0) (0) (900) (by decide) 1 (by decide) (by decide)
            rw [e19642] at b19643
            obtain ⟨w19644, ew19644⟩ : ∃ w : Int32, I19633 (ad g 4) 2 = w := ⟨_, rfl⟩
            have bw19644 := BT_get hI19633.1 4 0 5 (0) (0) (1000) (by decide) 2 (by decide) (by decide)
            rw [ew19644] at bw19644
            rw [ew19644] at cv19635
            refine WP_istore (ls' := [(0, _), (1, _), (2, _), (3, _), (4, _), (5, _), (6, _), (7, _)]) dX3_faultInParts_102 (by decide) rfl ?_
            refine WP_iload dX3_faultInParts_104 rfl ?_
            refine WQ_if_eq 112 dX3_faultInParts_106 rfl (fun c19644 => ?_) (fun c19644 => ?_)
            · refine WP_aload_n dX3_faultInParts_112 rfl ?_
              refine WP_getr dX3_faultInParts_113 fX3_15 rfl (lyx_is hy 3 3 rfl) (rfx hr 3 2 1 (by decide)) ?_
              refine WP_callV0 (k := 5) dX3_faultInParts_116 ⟨⟨⟨by decide, by decide⟩, zX5_next⟩, lX3_40, by decide, rfl, vX5_next.1, vX5_next.2⟩ (lyx_is hy 1 5 rfl) (sx_nextf hy hr hI19633  ) (Nat.le_of_ble_eq_true rfl) ?_
              intro r I19646 J19647 Ra hq
              obtain ⟨⟨hI19646, ec, fiI19646, fjI19646⟩, rfl⟩ := hq
              rw [ec]
              clear ec Ra
              have fr19648 : fz 74 g [1, 4] I I19646 := fz_tr fr19636 (fz_mono fiI19646 (by decide))
              have fr19649 : fz 74 g [1] J J19647 := fz_tr fr19637 (fz_mono fjI19646 (by decide))
              have e19650 : I19646 (ad g 4) 0 = w19570 := by rw [fz_at fiI19646 4 (by decide) (by decide)]; exact e19638
              have e19651 : I19646 (ad g 4) 1 = w19607 := by rw [fz_at fiI19646 4 (by decide) (by decide)]; exact e19639
              have e19652 : I19646 (ad g 27) 1 = w19543 := by rw [fz_at fiI19646 27 (by decide) (by decide)]; exact e19640
              have e19653 : I19646 (ad g 27) 2 = w19544 := by rw [fz_at fiI19646 27 (by decide) (by decide)]; exact e19641
              have e19654 : I19646 (ad g 4) 2 = w19644 := by rw [fz_at fiI19646 4 (by decide) (by decide)]; exact ew19644
              have e19655 : I19646 (ad g 1) 1 = L := hI19646.2
              have b19656 := BT_get hI19646.1 1 1 2 (0) (0) (900) (by decide) 1 (by decide) (by decide)
              rw [e19655] at b19656
              refine WP_iinc (ls' := [(0, _), (1, _), (2, _), (3, _), (4, _), (5, _), (6, _), (7, _)]) dX3_faultInParts_119 rfl (by decide) rfl ?_
              have hv19657 : (v19619 + Int32.ofInt (1)).toInt = v19619.toInt + (1) := ia_n rfl (by omega) (by omega)
              generalize v19619 + Int32.ofInt (1) = v19657 at hv19657 ⊢
              refine WP_goto 8 dX3_faultInParts_122 rfl ?_
              refine WP_iload dX3_faultInParts_8 rfl ?_
              refine WP_aload_n dX3_faultInParts_10 rfl ?_
              refine WS_call hz (i := 20) (by omega) dX3_faultInParts_11 ⟨⟨by decide, by decide⟩, zJ0_length_8abf5⟩ lX3_87 vJ0_length_8abf5 (As := []) (rest := [.int v19657]) (j_length hz (i := 20) (by omega)) rfl rfl (Nat.le_of_ble_eq_true rfl) ?_
              intro r Ia Ja Ra hq
              obtain ⟨⟨ea, eb, ec⟩, v19658, rfl, cv19658⟩ := hq
              show WP _ _ _ _ (.int _ :: _) _ _ _ _
              rw [ea, eb, ec]
              clear ea eb ec Ia Ja Ra
              have hv19658 : v19658.toInt = 5 := cv19658.trans rfl
              refine WQ_icmp_ge 125 dX3_faultInParts_14 rfl (fun c19658 => False.elim (by omega)) (fun c19658 => ?_)
              refine WP_iload dX3_faultInParts_17 rfl ?_
              refine WQ_iconst (5) (5) dX3_faultInParts_19 rfl rfl (fun v19660 hv19660 => ?_)
              refine WQ_icmp_ge 125 dX3_faultInParts_20 rfl (fun c19660 => False.elim (by omega)) (fun c19660 => ?_)
              refine WP_aload_n dX3_faultInParts_23 rfl ?_
              refine WP_iload dX3_faultInParts_24 rfl ?_
              refine WS_call hz (i := 20) (by omega) dX3_faultInParts_26 ⟨⟨by decide, by decide⟩, zJ0_charAt_5068e⟩ lX3_92 vJ0_charAt_5068e (As := [.int v19657]) (rest := []) (j_charAt hz (i := 20) (k := v19657) (by omega) (by omega) (by have z9 : ((liN.getD 20 0 : Nat) : Int) = 5 := rfl; omega)) rfl rfl (Nat.le_of_ble_eq_true rfl) ?_
              intro r Ia Ja Ra hq
              obtain ⟨⟨ea, eb, ec⟩, v19662, rfl, cv19662⟩ := hq
              show WP _ _ _ _ (.int _ :: _) _ _ _ _
              rw [ea, eb, ec]
              clear ea eb ec Ia Ja Ra
              have hv19662 : v19662.toInt = 85 := cv19662.trans (by rw [show v19657.toInt.toNat = 3 by omega]; rfl)
              refine WP_istore (ls' := [(0, _), (1, _), (2, _), (3, _), (4, _), (5, _), (6, _), (7, _)]) dX3_faultInParts_29 (by decide) rfl ?_
              refine WP_iload dX3_faultInParts_31 rfl ?_
              refine WQ_bipush (97) (97) dX3_faultInParts_33 rfl rfl (fun v19663 hv19663 => ?_)
              refine WQ_icmp_lt 49 dX3_faultInParts_35 rfl (fun c19663 => ?_) (fun c19663 => False.elim (by omega))
              refine WQ_iconst (0) (0) dX3_faultInParts_49 rfl rfl (fun v19665 hv19665 => ?_)
              refine WP_istore (ls' := [(0, _), (1, _), (2, _), (3, _), (4, _), (5, _), (6, _), (7, _)]) dX3_faultInParts_50 (by decide) rfl ?_
              refine WP_aload_n dX3_faultInParts_52 rfl ?_
              refine WP_getr dX3_faultInParts_53 fX3_15 rfl (lyx_is hy 3 3 rfl) (rfx hr 3 2 1 (by decide)) ?_
              refine WQ_geti dX3_faultInParts_56 fX3_43 rfl (lyx_is hy 1 5 rfl) (BT_get hI19646.1 1 2 3 (0) (0) (4) (by decide) 2 (by decide) (by decide)) (fun v19666 ev19666 av19666 bv19666 => ?_)
              refine WP_iload dX3_faultInParts_59 rfl ?_
              refine WQ_if_eq 68 dX3_faultInParts_61 rfl (fun c19666 => ?_) (fun c19666 => False.elim (by omega))
              refine WQ_iconst (2) (2) dX3_faultInParts_68 rfl rfl (fun v19668 hv19668 => ?_)
              refine WQ_icmp_eq 74 dX3_faultInParts_69 rfl (fun c19668 => ?_) (fun c19668 => ?_)
              · refine WP_iload dX3_faultInParts_74 rfl ?_
                refine WQ_if_eq 92 dX3_faultInParts_76 rfl (fun c19669 => ?_) (fun c19669 => False.elim (by omega))
                refine WP_aload_n dX3_faultInParts_92 rfl ?_
                refine WP_iload dX3_faultInParts_93 rfl ?_
                refine WP_iload_n dX3_faultInParts_95 rfl ?_
                refine WP_iload dX3_faultInParts_96 rfl ?_
                refine WP_aload_n dX3_faultInParts_98 rfl ?_
                refine WP_callV4 (k := 3) dX3_faultInParts_99 ⟨⟨⟨by decide, by decide⟩, zX3_faultOfNumber⟩, lX3_100, by decide, rfl, vX3_faultOfNumber.1, vX3_faultOfNumber.2⟩ (lyx_is hy 3 3 rfl) (sx_part_27_10_3 hy hr hI19646 v19662 cz v19657 (by omega) (by omega) (by omega) (by omega) (by omega) (by omega)) (Nat.le_of_ble_eq_true rfl) ?_
                intro r I19671 J19672 Ra hq
                obtain ⟨⟨hI19671, ec, fiI19671, fjI19671, ⟨pI19671, sI19671_4_0, sI19671_4_1, sI19671_4_2, sI19671_27_1, sI19671_27_2⟩⟩, v19673, rfl, av19673, bv19673, cv19673⟩ := hq
                show WP _ _ _ _ (.int _ :: _) _ _ _ _
                rw [ec]
                clear ec Ra
                have fr19674 : fz 74 g [1, 4] I I19671 := fz_tr fr19648 (fz_mono fiI19671 (by decide))
                have fr19675 : fz 74 g [1] J J19672 := fz_tr fr19649 (fz_mono fjI19671 (by decide))
                have e19676 : I19671 (ad g 4) 0 = w19570 := by rw [sI19671_4_0]; exact e19650
                have e19677 : I19671 (ad g 4) 1 = w19607 := by rw [sI19671_4_1]; exact e19651
                have e19678 : I19671 (ad g 4) 2 = w19644 := by rw [sI19671_4_2]; exact e19654
                have e19679 : I19671 (ad g 27) 1 = w19543 := by rw [sI19671_27_1]; exact e19652
                have e19680 : I19671 (ad g 27) 2 = w19544 := by rw [sI19671_27_2]; exact e19653
                have e19681 : I19671 (ad g 1) 1 = L := hI19671.2
                have b19682 := BT_get hI19671.1 1 1 2 (0) (0) (900) (by decide) 1 (by decide) (by decide)
                rw [e19681] at b19682
                obtain ⟨w19683, ew19683⟩ : ∃ w : Int32, I19671 (ad g 4) 3 = w := ⟨_, rfl⟩
                have bw19683 := BT_get hI19671.1 4 0 5 (0) (0) (1000) (by decide) 3 (by decide) (by decide)
                rw [ew19683] at bw19683
                rw [ew19683] at cv19673
                refine WP_istore (ls' := [(0, _), (1, _), (2, _), (3, _), (4, _), (5, _), (6, _), (7, _)]) dX3_faultInParts_102 (by decide) rfl ?_
                refine WP_iload dX3_faultInParts_104 rfl ?_
                refine WQ_if_eq 112 dX3_faultInParts_106 rfl (fun c19683 => ?_) (fun c19683 => ?_)
                · refine WP_aload_n dX3_faultInParts_112 rfl ?_
                  refine WP_getr dX3_faultInParts_113 fX3_15 rfl (lyx_is hy 3 3 rfl) (rfx hr 3 2 1 (by decide)) ?_
                  refine WP_callV0 (k := 5) dX3_faultInParts_116 ⟨⟨⟨by decide, by decide⟩, zX5_next⟩, lX3_40, by decide, rfl, vX5_next.1, vX5_next.2⟩ (lyx_is hy 1 5 rfl) (sx_nextf hy hr hI19671  ) (Nat.le_of_ble_eq_true rfl) ?_
                  intro r I19685 J19686 Ra hq
                  obtain ⟨⟨hI19685, ec, fiI19685, fjI19685⟩, rfl⟩ := hq
                  rw [ec]
                  clear ec Ra
                  have fr19687 : fz 74 g [1, 4] I I19685 := fz_tr fr19674 (fz_mono fiI19685 (by decide))
                  have fr19688 : fz 74 g [1] J J19686 := fz_tr fr19675 (fz_mono fjI19685 (by decide))
                  have e19689 : I19685 (ad g 4) 0 = w19570 := by rw [fz_at fiI19685 4 (by decide) (by decide)]; exact e19676
                  have e19690 : I19685 (ad g 4) 1 = w19607 := by rw [fz_at fiI19685 4 (by decide) (by decide)]; exact e19677
                  have e19691 : I19685 (ad g 4) 2 = w19644 := by rw [fz_at fiI19685 4 (by decide) (by decide)]; exact e19678
                  have e19692 : I19685 (ad g 27) 1 = w19543 := by rw [fz_at fiI19685 27 (by decide) (by decide)]; exact e19679
                  have e19693 : I19685 (ad g 27) 2 = w19544 := by rw [fz_at fiI19685 27 (by decide) (by decide)]; exact e19680
                  have e19694 : I19685 (ad g 4) 3 = w19683 := by rw [fz_at fiI19685 4 (by decide) (by decide)]; exact ew19683
                  have e19695 : I19685 (ad g 1) 1 = L := hI19685.2
                  have b19696 := BT_get hI19685.1 1 1 2 (0) (0) (900) (by decide) 1 (by decide) (by decide)
                  rw [e19695] at b19696
                  refine WP_iinc (ls' := [(0, _), (1, _), (2, _), (3, _), (4, _), (5, _), (6, _), (7, _)]) dX3_faultInParts_119 rfl (by decide) rfl ?_
                  have hv19697 : (v19657 + Int32.ofInt (1)).toInt = v19657.toInt + (1) := ia_n rfl (by omega) (by omega)
                  generalize v19657 + Int32.ofInt (1) = v19697 at hv19697 ⊢
                  refine WP_goto 8 dX3_faultInParts_122 rfl ?_
                  refine WP_iload dX3_faultInParts_8 rfl ?_
                  refine WP_aload_n dX3_faultInParts_10 rfl ?_
                  refine WS_call hz (i := 20) (by omega) dX3_faultInParts_11 ⟨⟨by decide, by decide⟩, zJ0_length_8abf5⟩ lX3_87 vJ0_length_8abf5 (As := []) (rest := [.int v19697]) (j_length hz (i := 20) (by omega)) rfl rfl (Nat.le_of_ble_eq_true rfl) ?_
                  intro r Ia Ja Ra hq
                  obtain ⟨⟨ea, eb, ec⟩, v19698, rfl, cv19698⟩ := hq
                  show WP _ _ _ _ (.int _ :: _) _ _ _ _
                  rw [ea, eb, ec]
                  clear ea eb ec Ia Ja Ra
                  have hv19698 : v19698.toInt = 5 := cv19698.trans rfl
                  refine WQ_icmp_ge 125 dX3_faultInParts_14 rfl (fun c19698 => False.elim (by omega)) (fun c19698 => ?_)
                  refine WP_iload dX3_faultInParts_17 rfl ?_
                  refine WQ_iconst (5) (5) dX3_faultInParts_19 rfl rfl (fun v19700 hv19700 => ?_)
                  refine WQ_icmp_ge 125 dX3_faultInParts_20 rfl (fun c19700 => False.elim (by omega)) (fun c19700 => ?_)
                  refine WP_aload_n dX3_faultInParts_23 rfl ?_
                  refine WP_iload dX3_faultInParts_24 rfl ?_
                  refine WS_call hz (i := 20) (by omega) dX3_faultInParts_26 ⟨⟨by decide, by decide⟩, zJ0_charAt_5068e⟩ lX3_92 vJ0_charAt_5068e (As := [.int v19697]) (rest := []) (j_charAt hz (i := 20) (k := v19697) (by omega) (by omega) (by have z9 : ((liN.getD 20 0 : Nat) : Int) = 5 := rfl; omega)) rfl rfl (Nat.le_of_ble_eq_true rfl) ?_
                  intro r Ia Ja Ra hq
                  obtain ⟨⟨ea, eb, ec⟩, v19702, rfl, cv19702⟩ := hq
                  show WP _ _ _ _ (.int _ :: _) _ _ _ _
                  rw [ea, eb, ec]
                  clear ea eb ec Ia Ja Ra
                  have hv19702 : v19702.toInt = 80 := cv19702.trans (by rw [show v19697.toInt.toNat = 4 by omega]; rfl)
                  refine WP_istore (ls' := [(0, _), (1, _), (2, _), (3, _), (4, _), (5, _), (6, _), (7, _)]) dX3_faultInParts_29 (by decide) rfl ?_
                  refine WP_iload dX3_faultInParts_31 rfl ?_
                  refine WQ_bipush (97) (97) dX3_faultInParts_33 rfl rfl (fun v19703 hv19703 => ?_)
                  refine WQ_icmp_lt 49 dX3_faultInParts_35 rfl (fun c19703 => ?_) (fun c19703 => False.elim (by omega))
                  refine WQ_iconst (0) (0) dX3_faultInParts_49 rfl rfl (fun v19705 hv19705 => ?_)
                  refine WP_istore (ls' := [(0, _), (1, _), (2, _), (3, _), (4, _), (5, _), (6, _), (7, _)]) dX3_faultInParts_50 (by decide) rfl ?_
                  refine WP_aload_n dX3_faultInParts_52 rfl ?_
                  refine WP_getr dX3_faultInParts_53 fX3_15 rfl (lyx_is hy 3 3 rfl) (rfx hr 3 2 1 (by decide)) ?_
                  refine WQ_geti dX3_faultInParts_56 fX3_43 rfl (lyx_is hy 1 5 rfl) (BT_get hI19685.1 1 2 3 (0) (0) (4) (by decide) 2 (by decide) (by decide)) (fun v19706 ev19706 av19706 bv19706 => ?_)
                  refine WP_iload dX3_faultInParts_59 rfl ?_
                  refine WQ_if_eq 68 dX3_faultInParts_61 rfl (fun c19706 => ?_) (fun c19706 => False.elim (by omega))
                  refine WQ_iconst (2) (2) dX3_faultInParts_68 rfl rfl (fun v19708 hv19708 => ?_)
                  refine WQ_icmp_eq 74 dX3_faultInParts_69 rfl (fun c19708 => ?_) (fun c19708 => ?_)
                  · refine WP_iload dX3_faultInParts_74 rfl ?_
                    refine WQ_if_eq 92 dX3_faultInParts_76 rfl (fun c19709 => ?_) (fun c19709 => False.elim (by omega))
                    refine WP_aload_n dX3_faultInParts_92 rfl ?_
                    refine WP_iload dX3_faultInParts_93 rfl ?_
                    refine WP_iload_n dX3_faultInParts_95 rfl ?_
                    refine WP_iload dX3_faultInParts_96 rfl ?_
                    refine WP_aload_n dX3_faultInParts_98 rfl ?_
                    refine WP_callV4 (k := 3) dX3_faultInParts_99 ⟨⟨⟨by decide, by decide⟩, zX3_faultOfNumber⟩, lX3_100, by decide, rfl, vX3_faultOfNumber.1, vX3_faultOfNumber.2⟩ (lyx_is hy 3 3 rfl) (sx_part_27_10_4 hy hr hI19685 v19702 cz v19697 (by omega) (by omega) (by omega) (by omega) (by omega) (by omega)) (Nat.le_of_ble_eq_true rfl) ?_
                    intro r I19711 J19712 Ra hq
                    obtain ⟨⟨hI19711, ec, fiI19711, fjI19711, ⟨pI19711, sI19711_4_0, sI19711_4_1, sI19711_4_2, sI19711_4_3, sI19711_27_1, sI19711_27_2⟩⟩, v19713, rfl, av19713, bv19713, cv19713⟩ := hq
                    show WP _ _ _ _ (.int _ :: _) _ _ _ _
                    rw [ec]
                    clear ec Ra
                    have fr19714 : fz 74 g [1, 4] I I19711 := fz_tr fr19687 (fz_mono fiI19711 (by decide))
                    have fr19715 : fz 74 g [1] J J19712 := fz_tr fr19688 (fz_mono fjI19711 (by decide))
                    have e19716 : I19711 (ad g 4) 0 = w19570 := by rw [sI19711_4_0]; exact e19689
                    have e19717 : I19711 (ad g 4) 1 = w19607 := by rw [sI19711_4_1]; exact e19690
                    have e19718 : I19711 (ad g 4) 2 = w19644 := by rw [sI19711_4_2]; exact e19691
                    have e19719 : I19711 (ad g 4) 3 = w19683 := by rw [sI19711_4_3]; exact e19694
                    have e19720 : I19711 (ad g 27) 1 = w19543 := by rw [sI19711_27_1]; exact e19692
                    have e19721 : I19711 (ad g 27) 2 = w19544 := by rw [sI19711_27_2]; exact e19693
                    have e19722 : I19711 (ad g 1) 1 = L := hI19711.2
                    have b19723 := BT_get hI19711.1 1 1 2 (0) (0) (900) (by decide) 1 (by decide) (by decide)
                    rw [e19722] at b19723
                    obtain ⟨w19724, ew19724⟩ : ∃ w : Int32, I19711 (ad g 4) 4 = w := ⟨_, rfl⟩
                    have bw19724 := BT_get hI19711.1 4 0 5 (0) (0) (1000) (by decide) 4 (by decide) (by decide)
                    rw [ew19724] at bw19724
                    rw [ew19724] at cv19713
                    refine WP_istore (ls' := [(0, _), (1, _), (2, _), (3, _), (4, _), (5, _), (6, _), (7, _)]) dX3_faultInParts_102 (by decide) rfl ?_
                    refine WP_iload dX3_faultInParts_104 rfl ?_
                    refine WQ_if_eq 112 dX3_faultInParts_106 rfl (fun c19724 => ?_) (fun c19724 => ?_)
                    · refine WP_aload_n dX3_faultInParts_112 rfl ?_
                      refine WP_getr dX3_faultInParts_113 fX3_15 rfl (lyx_is hy 3 3 rfl) (rfx hr 3 2 1 (by decide)) ?_
                      refine WP_callV0 (k := 5) dX3_faultInParts_116 ⟨⟨⟨by decide, by decide⟩, zX5_next⟩, lX3_40, by decide, rfl, vX5_next.1, vX5_next.2⟩ (lyx_is hy 1 5 rfl) (sx_nextf hy hr hI19711  ) (Nat.le_of_ble_eq_true rfl) ?_
                      intro r I19726 J19727 Ra hq
                      obtain ⟨⟨hI19726, ec, fiI19726, fjI19726⟩, rfl⟩ := hq
                      rw [ec]
                      clear ec Ra
                      have fr19728 : fz 74 g [1, 4] I I19726 := fz_tr fr19714 (fz_mono fiI19726 (by decide))
                      have fr19729 : fz 74 g [1] J J19727 := fz_tr fr19715 (fz_mono fjI19726 (by decide))
                      have e19730 : I19726 (ad g 4) 0 = w19570 := by rw [fz_at fiI19726 4 (by decide) (by decide)]; exact e19716
                      have e19731 : I19726 (ad g 4) 1 = w19607 := by rw [fz_at fiI19726 4 (by decide) (by decide)]; exact e19717
                      have e19732 : I19726 (ad g 4) 2 = w19644 := by rw [fz_at fiI19726 4 (by decide) (by decide)]; exact e19718
                      have e19733 : I19726 (ad g 4) 3 = w19683 := by rw [fz_at fiI19726 4 (by decide) (by decide)]; exact e19719
                      have e19734 : I19726 (ad g 27) 1 = w19543 := by rw [fz_at fiI19726 27 (by decide) (by decide)]; exact e19720
                      have e19735 : I19726 (ad g 27) 2 = w19544 := by rw [fz_at fiI19726 27 (by decide) (by decide)]; exact e19721
                      have e19736 : I19726 (ad g 4) 4 = w19724 := by rw [fz_at fiI19726 4 (by decide) (by decide)]; exact ew19724
                      have e19737 : I19726 (ad g 1) 1 = L := hI19726.2
                      have b19738 := BT_get hI19726.1 1 1 2 (0) (0) (900) (by decide) 1 (by decide) (by decide)
                      rw [e19737] at b19738
                      refine WP_iinc (ls' := [(0, _), (1, _), (2, _), (3, _), (4, _), (5, _), (6, _), (7, _)]) dX3_faultInParts_119 rfl (by decide) rfl ?_
                      have hv19739 : (v19697 + Int32.ofInt (1)).toInt = v19697.toInt + (1) := ia_n rfl (by omega) (by omega)
                      generalize v19697 + Int32.ofInt (1) = v19739 at hv19739 ⊢
                      refine WP_goto 8 dX3_faultInParts_122 rfl ?_
                      refine WP_iload dX3_faultInParts_8 rfl ?_
                      refine WP_aload_n dX3_faultInParts_10 rfl ?_
                      refine WS_call hz (i := 20) (by omega) dX3_faultInParts_11 ⟨⟨by decide, by decide⟩, zJ0_length_8abf5⟩ lX3_87 vJ0_length_8abf5 (As := []) (rest := [.int v19739]) (j_length hz (i := 20) (by omega)) rfl rfl (Nat.le_of_ble_eq_true rfl) ?_
                      intro r Ia Ja Ra hq
                      obtain ⟨⟨ea, eb, ec⟩, v19740, rfl, cv19740⟩ := hq
                      show WP _ _ _ _ (.int _ :: _) _ _ _ _
                      rw [ea, eb, ec]
                      clear ea eb ec Ia Ja Ra
                      have hv19740 : v19740.toInt = 5 := cv19740.trans rfl
                      refine WQ_icmp_ge 125 dX3_faultInParts_14 rfl (fun c19740 => ?_) (fun c19740 => False.elim (by omega))
                      refine WP_aload_n dX3_faultInParts_125 rfl ?_
                      refine WP_getr dX3_faultInParts_126 fX3_15 rfl (lyx_is hy 3 3 rfl) (rfx hr 3 2 1 (by decide)) ?_
                      refine WQ_geti dX3_faultInParts_129 fX3_43 rfl (lyx_is hy 1 5 rfl) (BT_get hI19726.1 1 2 3 (0) (0) (4) (by decide) 2 (by decide) (by decide)) (fun v19742 ev19742 av19742 bv19742 => ?_)
                      refine WQ_iconst (3) (3) dX3_faultInParts_132 rfl rfl (fun v19743 hv19743 => ?_)
                      refine WQ_icmp_ne 140 dX3_faultInParts_133 rfl (fun c19743 => ?_) (fun c19743 => ?_)
                      · refine WQ_iconst (1) (1) dX3_faultInParts_140 rfl rfl (fun v19745 hv19745 => ?_)
                        exact WP_iret dX3_faultInParts_141 rfl ⟨⟨hI19726, rfl, fr19728, fr19729, ⟨trivial, (by rw [e19734, ew19543] <;> exact (eq32 _ _).mpr (by omega)), (by rw [e19735, ew19544] <;> exact (eq32 _ _).mpr (by omega))⟩⟩, _, rfl, by omega, by omega, by (try rw [e19730]; try rw [e19731]; try rw [e19732]; try rw [e19733]; try rw [e19736]); omega⟩
                      · refine WQ_iconst (0) (0) dX3_faultInParts_136 rfl rfl (fun v19746 hv19746 => ?_)
                        refine WP_goto 141 dX3_faultInParts_137 rfl ?_
                        exact WP_iret dX3_faultInParts_141 rfl ⟨⟨hI19726, rfl, fr19728, fr19729, ⟨trivial, (by rw [e19734, ew19543] <;> exact (eq32 _ _).mpr (by omega)), (by rw [e19735, ew19544] <;> exact (eq32 _ _).mpr (by omega))⟩⟩, _, rfl, by omega, by omega, by (try rw [e19730]; try rw [e19731]; try rw [e19732]; try rw [e19733]; try rw [e19736]); omega⟩
                    · refine WP_iload dX3_faultInParts_109 rfl ?_
                      exact WP_iret dX3_faultInParts_111 rfl ⟨⟨hI19711, rfl, fr19714, fr19715, ⟨trivial, (by rw [e19720, ew19543] <;> exact (eq32 _ _).mpr (by omega)), (by rw [e19721, ew19544] <;> exact (eq32 _ _).mpr (by omega))⟩⟩, _, rfl, by omega, by omega, by (try rw [e19716]; try rw [e19717]; try rw [e19718]; try rw [e19719]; try rw [ew19724]); omega⟩
                  · refine WQ_iconst (1) (1) dX3_faultInParts_72 rfl rfl (fun v19747 hv19747 => ?_)
                    obtain ⟨w19748, ew19748⟩ : ∃ w : Int32, I19685 (ad g 4) 4 = w := ⟨_, rfl⟩
                    have bw19748 := BT_get hI19685.1 4 0 5 (0) (0) (1000) (by decide) 4 (by decide) (by decide)
                    rw [ew19748] at bw19748
                    exact WP_iret dX3_faultInParts_73 rfl ⟨⟨hI19685, rfl, fr19687, fr19688, ⟨trivial, (by rw [e19692, ew19543] <;> exact (eq32 _ _).mpr (by omega)), (by rw [e19693, ew19544] <;> exact (eq32 _ _).mpr (by omega))⟩⟩, _, rfl, by omega, by omega, by (try rw [e19689]; try rw [e19690]; try rw [e19691]; try rw [e19694]; try rw [ew19748]); omega⟩
                · refine WP_iload dX3_faultInParts_109 rfl ?_
                  obtain ⟨w19749, ew19749⟩ : ∃ w : Int32, I19671 (ad g 4) 4 = w := ⟨_, rfl⟩
                  have bw19749 := BT_get hI19671.1 4 0 5 (0) (0) (1000) (by decide) 4 (by decide) (by decide)
                  rw [ew19749] at bw19749
                  exact WP_iret dX3_faultInParts_111 rfl ⟨⟨hI19671, rfl, fr19674, fr19675, ⟨trivial, (by rw [e19679, ew19543] <;> exact (eq32 _ _).mpr (by omega)), (by rw [e19680, ew19544] <;> exact (eq32 _ _).mpr (by omega))⟩⟩, _, rfl, by omega, by omega, by (try rw [e19676]; try rw [e19677]; try rw [e19678]; try rw [ew19683]; try rw [ew19749]); omega⟩
              · refine WQ_iconst (1) (1) dX3_faultInParts_72 rfl rfl (fun v19750 hv19750 => ?_)
                obtain ⟨w19751, ew19751⟩ : ∃ w : Int32, I19646 (ad g 4) 3 = w := ⟨_, rfl⟩
                have bw19751 := BT_get hI19646.1 4 0 5 (0) (0) (1000) (by decide) 3 (by decide) (by decide)
                rw [ew19751] at bw19751
                obtain ⟨w19752, ew19752⟩ : ∃ w : Int32, I19646 (ad g 4) 4 = w := ⟨_, rfl⟩
                have bw19752 := BT_get hI19646.1 4 0 5 (0) (0) (1000) (by decide) 4 (by decide) (by decide)
                rw [ew19752] at bw19752
                exact WP_iret dX3_faultInParts_73 rfl ⟨⟨hI19646, rfl, fr19648, fr19649, ⟨trivial, (by rw [e19652, ew19543] <;> exact (eq32 _ _).mpr (by omega)), (by rw [e19653, ew19544] <;> exact (eq32 _ _).mpr (by omega))⟩⟩, _, rfl, by omega, by omega, by (try rw [e19650]; try rw [e19651]; try rw [e19654]; try rw [ew19751]; try rw [ew19752]); omega⟩
            · refine WP_iload dX3_faultInParts_109 rfl ?_
              obtain ⟨w19753, ew19753⟩ : ∃ w : Int32, I19633 (ad g 4) 3 = w := ⟨_, rfl⟩
              have bw19753 := BT_get hI19633.1 4 0 5 (0) (0) (1000) (by decide) 3 (by decide) (by decide)
              rw [ew19753] at bw19753
              obtain ⟨w19754, ew19754⟩ : ∃ w : Int32, I19633 (ad g 4) 4 = w := ⟨_, rfl⟩
              have bw19754 := BT_get hI19633.1 4 0 5 (0) (0) (1000) (by decide) 4 (by decide) (by decide)
              rw [ew19754] at bw19754
              exact WP_iret dX3_faultInParts_111 rfl ⟨⟨hI19633, rfl, fr19636, fr19637, ⟨trivial, (by rw [e19640, ew19543] <;> exact (eq32 _ _).mpr (by omega)), (by rw [e19641, ew19544] <;> exact (eq32 _ _).mpr (by omega))⟩⟩, _, rfl, by omega, by omega, by (try rw [e19638]; try rw [e19639]; try rw [ew19644]; try rw [ew19753]; try rw [ew19754]); omega⟩
          · refine WQ_iconst (1) (1) dX3_faultInParts_72 rfl rfl (fun v19755 hv19755 => ?_)
            obtain ⟨w19756, ew19756⟩ : ∃ w : Int32, I19609 (ad g 4) 2 = w := ⟨_, rfl⟩
            have bw19756 := BT_get hI19609.1 4 0 5 (0) (0) (1000) (by decide) 2 (by decide) (by decide)
            rw [ew19756] at bw19756
            obtain ⟨w19757, ew19757⟩ : ∃ w : Int32, I19609 (ad g 4) 3 = w := ⟨_, rfl⟩
            have bw19757 := BT_get hI19609.1 4 0 5 (0) (0) (1000) (by decide) 3 (by decide) (by decide)
            rw [ew19757] at bw19757
            obtain ⟨w19758, ew19758⟩ : ∃ w : Int32, I19609 (ad g 4) 4 = w := ⟨_, rfl⟩
            have bw19758 := BT_get hI19609.1 4 0 5 (0) (0) (1000) (by decide) 4 (by decide) (by decide)
            rw [ew19758] at bw19758
            exact WP_iret dX3_faultInParts_73 rfl ⟨⟨hI19609, rfl, fr19611, fr19612, ⟨trivial, (by rw [e19614, ew19543] <;> exact (eq32 _ _).mpr (by omega)), (by rw [e19615, ew19544] <;> exact (eq32 _ _).mpr (by omega))⟩⟩, _, rfl, by omega, by omega, by (try rw [e19613]; try rw [e19616]; try rw [ew19756]; try rw [ew19757]; try rw [ew19758]); omega⟩
        · refine WP_iload dX3_faultInParts_109 rfl ?_
          obtain ⟨w19759, ew19759⟩ : ∃ w : Int32, I19597 (ad g 4) 2 = w := ⟨_, rfl⟩
          have bw19759 := BT_get hI19597.1 4 0 5 (0) (0) (1000) (by decide) 2 (by decide) (by decide)
          rw [ew19759] at bw19759
          obtain ⟨w19760, ew19760⟩ : ∃ w : Int32, I19597 (ad g 4) 3 = w := ⟨_, rfl⟩
          have bw19760 := BT_get hI19597.1 4 0 5 (0) (0) (1000) (by decide) 3 (by decide) (by decide)
          rw [ew19760] at bw19760
          obtain ⟨w19761, ew19761⟩ : ∃ w : Int32, I19597 (ad g 4) 4 = w := ⟨_, rfl⟩
          have bw19761 := BT_get hI19597.1 4 0 5 (0) (0) (1000) (by decide) 4 (by decide) (by decide)
          rw [ew19761] at bw19761
          exact WP_iret dX3_faultInParts_111 rfl ⟨⟨hI19597, rfl, fr19600, fr19601, ⟨trivial, (by rw [e19603, ew19543] <;> exact (eq32 _ _).mpr (by omega)), (by rw [e19604, ew19544] <;> exact (eq32 _ _).mpr (by omega))⟩⟩, _, rfl, by omega, by omega, by (try rw [e19602]; try rw [ew19607]; try rw [ew19759]; try rw [ew19760]; try rw [ew19761]); omega⟩
      · refine WQ_iconst (1) (1) dX3_faultInParts_72 rfl rfl (fun v19762 hv19762 => ?_)
        obtain ⟨w19763, ew19763⟩ : ∃ w : Int32, I19572 (ad g 4) 1 = w := ⟨_, rfl⟩
        have bw19763 := BT_get hI19572.1 4 0 5 (0) (0) (1000) (by decide) 1 (by decide) (by decide)
        rw [ew19763] at bw19763
        obtain ⟨w19764, ew19764⟩ : ∃ w : Int32, I19572 (ad g 4) 2 = w := ⟨_, rfl⟩
        have bw19764 := BT_get hI19572.1 4 0 5 (0) (0) (1000) (by decide) 2 (by decide) (by decide)
        rw [ew19764] at bw19764
        obtain ⟨w19765, ew19765⟩ : ∃ w : Int32, I19572 (ad g 4) 3 = w := ⟨_, rfl⟩
        have bw19765 := BT_get hI19572.1 4 0 5 (0) (0) (1000) (by decide) 3 (by decide) (by decide)
        rw [ew19765] at bw19765
        obtain ⟨w19766, ew19766⟩ : ∃ w : Int32, I19572 (ad g 4) 4 = w := ⟨_, rfl⟩
        have bw19766 := BT_get hI19572.1 4 0 5 (0) (0) (1000) (by decide) 4 (by decide) (by decide)
        rw [ew19766] at bw19766
        exact WP_iret dX3_faultInParts_73 rfl ⟨⟨hI19572, rfl, fr19574, fr19575, ⟨trivial, (by rw [e19576, ew19543] <;> exact (eq32 _ _).mpr (by omega)), (by rw [e19577, ew19544] <;> exact (eq32 _ _).mpr (by omega))⟩⟩, _, rfl, by omega, by omega, by (try rw [e19578]; try rw [ew19763]; try rw [ew19764]; try rw [ew19765]; try rw [ew19766]); omega⟩
    · refine WP_iload dX3_faultInParts_109 rfl ?_
      obtain ⟨w19767, ew19767⟩ : ∃ w : Int32, I19561 (ad g 4) 1 = w := ⟨_, rfl⟩
      have bw19767 := BT_get hI19561.1 4 0 5 (0) (0) (1000) (by decide) 1 (by decide) (by decide)
      rw [ew19767] at bw19767
      obtain ⟨w19768, ew19768⟩ : ∃ w : Int32, I19561 (ad g 4) 2 = w := ⟨_, rfl⟩
      have bw19768 := BT_get hI19561.1 4 0 5 (0) (0) (1000) (by decide) 2 (by decide) (by decide)
      rw [ew19768] at bw19768
      obtain ⟨w19769, ew19769⟩ : ∃ w : Int32, I19561 (ad g 4) 3 = w := ⟨_, rfl⟩
      have bw19769 := BT_get hI19561.1 4 0 5 (0) (0) (1000) (by decide) 3 (by decide) (by decide)
      rw [ew19769] at bw19769
      obtain ⟨w19770, ew19770⟩ : ∃ w : Int32, I19561 (ad g 4) 4 = w := ⟨_, rfl⟩
      have bw19770 := BT_get hI19561.1 4 0 5 (0) (0) (1000) (by decide) 4 (by decide) (by decide)
      rw [ew19770] at bw19770
      exact WP_iret dX3_faultInParts_111 rfl ⟨⟨hI19561, rfl, fr19564, fr19565, ⟨trivial, (by rw [e19566, ew19543] <;> exact (eq32 _ _).mpr (by omega)), (by rw [e19567, ew19544] <;> exact (eq32 _ _).mpr (by omega))⟩⟩, _, rfl, by omega, by omega, by (try rw [ew19570]; try rw [ew19767]; try rw [ew19768]; try rw [ew19769]; try rw [ew19770]); omega⟩
  · refine WQ_iconst (1) (1) dX3_faultInParts_72 rfl rfl (fun v19771 hv19771 => ?_)
    obtain ⟨w19772, ew19772⟩ : ∃ w : Int32, I (ad g 4) 0 = w := ⟨_, rfl⟩
    have bw19772 := BT_get hI.1 4 0 5 (0) (0) (1000) (by decide) 0 (by decide) (by decide)
    rw [ew19772] at bw19772
    obtain ⟨w19773, ew19773⟩ : ∃ w : Int32, I (ad g 4) 1 = w := ⟨_, rfl⟩
    have bw19773 := BT_get hI.1 4 0 5 (0) (0) (1000) (by decide) 1 (by decide) (by decide)
    rw [ew19773] at bw19773
    obtain ⟨w19774, ew19774⟩ : ∃ w : Int32, I (ad g 4) 2 = w := ⟨_, rfl⟩
    have bw19774 := BT_get hI.1 4 0 5 (0) (0) (1000) (by decide) 2 (by decide) (by decide)
    rw [ew19774] at bw19774
    obtain ⟨w19775, ew19775⟩ : ∃ w : Int32, I (ad g 4) 3 = w := ⟨_, rfl⟩
    have bw19775 := BT_get hI.1 4 0 5 (0) (0) (1000) (by decide) 3 (by decide) (by decide)
    rw [ew19775] at bw19775
    obtain ⟨w19776, ew19776⟩ : ∃ w : Int32, I (ad g 4) 4 = w := ⟨_, rfl⟩
    have bw19776 := BT_get hI.1 4 0 5 (0) (0) (1000) (by decide) 4 (by decide) (by decide)
    rw [ew19776] at bw19776
    exact WP_iret dX3_faultInParts_73 rfl ⟨⟨hI, rfl, fr0, frj0, ⟨trivial, rfl, rfl⟩⟩, _, rfl, by omega, by omega, by (try rw [ew19772]; try rw [ew19773]; try rw [ew19774]; try rw [ew19775]; try rw [ew19776]); omega⟩
set_option maxHeartbeats 4000000 in
set_option maxRecDepth 100000 in
theorem sx_parts_27_11 {g : GG} {n : Int} {L : Int32} (hy : LyX g) {aK aV : Nat → Nat} {fo : Option Nat} (hz : HZ g aK aV fo)  {I : pI} {J : pJ} {R : pR} (hr : RfX g R) (hI : XI g n L I) (cz : Int32) (cz_lo : 11 ≤ cz.toInt) (cz_hi : cz.toInt ≤ 11) : SP g mX3_faultInParts [.ref (ad g 3), .int cz, .ref (ad g 27)] I J R (fun r I' J' R' => (XI g n L I' ∧ R' = R ∧ fz 74 g [1, 4] I I' ∧ fz 74 g [1] J J' ∧ True ∧ I' (ad g 27) 1 = I (ad g 27) 1 ∧ I' (ad g 27) 2 = I (ad g 27) 2) ∧ ∃ v : Int32, r = some (.int v) ∧ 0 ≤ v.toInt ∧ v.toInt ≤ 5 ∧ (v.toInt = 0 → (I' (ad g 4) 0).toInt ≤ 99 ∧ (I' (ad g 4) 1).toInt ≤ 99)) := by
  refine SP_of ⟨by decide, rfl⟩ (Nat.le_of_ble_eq_true rfl) ?_
  have e19777 : I (ad g 1) 1 = L := hI.2
  have b19778 := BT_get hI.1 1 1 2 (0) (0) (900) (by decide) 1 (by decide) (by decide)
  rw [e19777] at b19778
  have fr0 : fz 74 g [1, 4] I I := fz_rf
  have frj0 : fz 74 g [1] J J := fz_rf
  obtain ⟨w19779, ew19779⟩ : ∃ w : Int32, I (ad g 27) 1 = w := ⟨_, rfl⟩
  have bw19779 := BT_get hI.1 27 1 2 (0) (0) (4) (by decide) 1 (by decide) (by decide)
  rw [ew19779] at bw19779
  obtain ⟨w19780, ew19780⟩ : ∃ w : Int32, I (ad g 27) 2 = w := ⟨_, rfl⟩
  have bw19780 := BT_get hI.1 27 2 3 (0) (0) (3) (by decide) 2 (by decide) (by decide)
  rw [ew19780] at bw19780
  refine WP_iload_n dX3_faultInParts_0 rfl ?_
  refine WP_callS1 dX3_faultInParts_1 ⟨⟨⟨by decide, by decide⟩, zX3_shapeOf⟩, lX3_84, tX3_shapeOf⟩ (sx_shapeOf hy hz hr hI cz (by omega) (by omega)) (Nat.le_of_ble_eq_true rfl) ?_
  intro r Ia Ja Ra hq
  obtain ⟨⟨ea, eb, ec⟩, rfl⟩ := hq
  show WP _ _ _ _ (.ref _ :: _) _ _ _ _
  rw [show 10 + cz.toInt.toNat = 21 by omega]
  rw [ea, eb, ec]
  clear ea eb ec Ia Ja Ra
  refine WP_astore_n (ls' := [(0, _), (1, _), (2, _), (3, _)]) dX3_faultInParts_4 (by decide) rfl ?_
  refine WQ_iconst (0) (0) dX3_faultInParts_5 rfl rfl (fun v19781 hv19781 => ?_)
  refine WP_istore (ls' := [(0, _), (1, _), (2, _), (3, _), (4, _)]) dX3_faultInParts_6 (by decide) rfl ?_
  refine WP_iload dX3_faultInParts_8 rfl ?_
  refine WP_aload_n dX3_faultInParts_10 rfl ?_
  refine WS_call hz (i := 21) (by omega) dX3_faultInParts_11 ⟨⟨by decide, by decide⟩, zJ0_length_8abf5⟩ lX3_87 vJ0_length_8abf5 (As := []) (rest := [.int v19781]) (j_length hz (i := 21) (by omega)) rfl rfl (Nat.le_of_ble_eq_true rfl) ?_
  intro r Ia Ja Ra hq
  obtain ⟨⟨ea, eb, ec⟩, v19782, rfl, cv19782⟩ := hq
  show WP _ _ _ _ (.int _ :: _) _ _ _ _
  rw [ea, eb, ec]
  clear ea eb ec Ia Ja Ra
  have hv19782 : v19782.toInt = 2 := cv19782.trans rfl
  refine WQ_icmp_ge 125 dX3_faultInParts_14 rfl (fun c19782 => False.elim (by omega)) (fun c19782 => ?_)
  refine WP_iload dX3_faultInParts_17 rfl ?_
  refine WQ_iconst (5) (5) dX3_faultInParts_19 rfl rfl (fun v19784 hv19784 => ?_)
  refine WQ_icmp_ge 125 dX3_faultInParts_20 rfl (fun c19784 => False.elim (by omega)) (fun c19784 => ?_)
  refine WP_aload_n dX3_faultInParts_23 rfl ?_
  refine WP_iload dX3_faultInParts_24 rfl ?_
  refine WS_call hz (i := 21) (by omega) dX3_faultInParts_26 ⟨⟨by decide, by decide⟩, zJ0_charAt_5068e⟩ lX3_92 vJ0_charAt_5068e (As := [.int v19781]) (rest := []) (j_charAt hz (i := 21) (k := v19781) (by omega) (by omega) (by have z9 : ((liN.getD 21 0 : Nat) : Int) = 2 := rfl; omega)) rfl rfl (Nat.le_of_ble_eq_true rfl) ?_
  intro r Ia Ja Ra hq
  obtain ⟨⟨ea, eb, ec⟩, v19786, rfl, cv19786⟩ := hq
  show WP _ _ _ _ (.int _ :: _) _ _ _ _
  rw [ea, eb, ec]
  clear ea eb ec Ia Ja Ra
  have hv19786 : v19786.toInt = 86 := cv19786.trans (by rw [show v19781.toInt.toNat = 0 by omega]; rfl)
  refine WP_istore (ls' := [(0, _), (1, _), (2, _), (3, _), (4, _), (5, _)]) dX3_faultInParts_29 (by decide) rfl ?_
  refine WP_iload dX3_faultInParts_31 rfl ?_
  refine WQ_bipush (97) (97) dX3_faultInParts_33 rfl rfl (fun v19787 hv19787 => ?_)
  refine WQ_icmp_lt 49 dX3_faultInParts_35 rfl (fun c19787 => ?_) (fun c19787 => False.elim (by omega))
  refine WQ_iconst (0) (0) dX3_faultInParts_49 rfl rfl (fun v19789 hv19789 => ?_)
  refine WP_istore (ls' := [(0, _), (1, _), (2, _), (3, _), (4, _), (5, _), (6, _)]) dX3_faultInParts_50 (by decide) rfl ?_
  refine WP_aload_n dX3_faultInParts_52 rfl ?_
  refine WP_getr dX3_faultInParts_53 fX3_15 rfl (lyx_is hy 3 3 rfl) (rfx hr 3 2 1 (by decide)) ?_
  refine WQ_geti dX3_faultInParts_56 fX3_43 rfl (lyx_is hy 1 5 rfl) (BT_get hI.1 1 2 3 (0) (0) (4) (by decide) 2 (by decide) (by decide)) (fun v19790 ev19790 av19790 bv19790 => ?_)
  refine WP_iload dX3_faultInParts_59 rfl ?_
  refine WQ_if_eq 68 dX3_faultInParts_61 rfl (fun c19790 => ?_) (fun c19790 => False.elim (by omega))
  refine WQ_iconst (2) (2) dX3_faultInParts_68 rfl rfl (fun v19792 hv19792 => ?_)
  refine WQ_icmp_eq 74 dX3_faultInParts_69 rfl (fun c19792 => ?_) (fun c19792 => ?_)
  · refine WP_iload dX3_faultInParts_74 rfl ?_
    refine WQ_if_eq 92 dX3_faultInParts_76 rfl (fun c19793 => ?_) (fun c19793 => False.elim (by omega))
    refine WP_aload_n dX3_faultInParts_92 rfl ?_
    refine WP_iload dX3_faultInParts_93 rfl ?_
    refine WP_iload_n dX3_faultInParts_95 rfl ?_
    refine WP_iload dX3_faultInParts_96 rfl ?_
    refine WP_aload_n dX3_faultInParts_98 rfl ?_
    refine WP_callV4 (k := 3) dX3_faultInParts_99 ⟨⟨⟨by decide, by decide⟩, zX3_faultOfNumber⟩, lX3_100, by decide, rfl, vX3_faultOfNumber.1, vX3_faultOfNumber.2⟩ (lyx_is hy 3 3 rfl) (sx_part_27_11_0 hy hr hI v19786 cz v19781 (by omega) (by omega) (by omega) (by omega) (by omega) (by omega)) (Nat.le_of_ble_eq_true rfl) ?_
    intro r I19795 J19796 Ra hq
    obtain ⟨⟨hI19795, ec, fiI19795, fjI19795, ⟨pI19795, sI19795_27_1, sI19795_27_2⟩⟩, v19797, rfl, av19797, bv19797, cv19797⟩ := hq
    show WP _ _ _ _ (.int _ :: _) _ _ _ _
    rw [ec]
    clear ec Ra
    have fr19798 : fz 74 g [1, 4] I I19795 := fz_tr fr0 (fz_mono fiI19795 (by decide))
    have fr19799 : fz 74 g [1] J J19796 := fz_tr frj0 (fz_mono fjI19795 (by decide))
    have e19800 : I19795 (ad g 27) 1 = w19779 := by rw [sI19795_27_1]; exact ew19779
    have e19801 : I19795 (ad g 27) 2 = w19780 := by rw [sI19795_27_2]; exact ew19780
    have e19802 : I19795 (ad g 1) 1 = L := hI19795.2
    have b19803 := BT_get hI19795.1 1 1 2 (0) (0) (900) (by decide) 1 (by decide) (by decide)
    rw [e19802] at b19803
    obtain ⟨w19804, ew19804⟩ : ∃ w : Int32, I19795 (ad g 4) 0 = w := ⟨_, rfl⟩
    have bw19804 := BT_get hI19795.1 4 0 5 (0) (0) (1000) (by decide) 0 (by decide) (by decide)
    rw [ew19804] at bw19804
    rw [ew19804] at cv19797
    refine WP_istore (ls' := [(0, _), (1, _), (2, _), (3, _), (4, _), (5, _), (6, _), (7, _)]) dX3_faultInParts_102 (by decide) rfl ?_
    refine WP_iload dX3_faultInParts_104 rfl ?_
    refine WQ_if_eq 112 dX3_faultInParts_106 rfl (fun c19804 => ?_) (fun c19804 => ?_)
    · refine WP_aload_n dX3_faultInParts_112 rfl ?_
      refine WP_getr dX3_faultInParts_113 fX3_15 rfl (lyx_is hy 3 3 rfl) (rfx hr 3 2 1 (by decide)) ?_
      refine WP_callV0 (k := 5) dX3_faultInParts_116 ⟨⟨⟨by decide, by decide⟩, zX5_next⟩, lX3_40, by decide, rfl, vX5_next.1, vX5_next.2⟩ (lyx_is hy 1 5 rfl) (sx_nextf hy hr hI19795  ) (Nat.le_of_ble_eq_true rfl) ?_
      intro r I19806 J19807 Ra hq
      obtain ⟨⟨hI19806, ec, fiI19806, fjI19806⟩, rfl⟩ := hq
      rw [ec]
      clear ec Ra
      have fr19808 : fz 74 g [1, 4] I I19806 := fz_tr fr19798 (fz_mono fiI19806 (by decide))
      have fr19809 : fz 74 g [1] J J19807 := fz_tr fr19799 (fz_mono fjI19806 (by decide))
      have e19810 : I19806 (ad g 27) 1 = w19779 := by rw [fz_at fiI19806 27 (by decide) (by decide)]; exact e19800
      have e19811 : I19806 (ad g 27) 2 = w19780 := by rw [fz_at fiI19806 27 (by decide) (by decide)]; exact e19801
      have e19812 : I19806 (ad g 4) 0 = w19804 := by rw [fz_at fiI19806 4 (by decide) (by decide)]; exact ew19804
      have e19813 : I19806 (ad g 1) 1 = L := hI19806.2
      have b19814 := BT_get hI19806.1 1 1 2 (0) (0) (900) (by decide) 1 (by decide) (by decide)
      rw [e19813] at b19814
      refine WP_iinc (ls' := [(0, _), (1, _), (2, _), (3, _), (4, _), (5, _), (6, _), (7, _)]) dX3_faultInParts_119 rfl (by decide) rfl ?_
      have hv19815 : (v19781 + Int32.ofInt (1)).toInt = v19781.toInt + (1) := ia_n rfl (by omega) (by omega)
      generalize v19781 + Int32.ofInt (1) = v19815 at hv19815 ⊢
      refine WP_goto 8 dX3_faultInParts_122 rfl ?_
      refine WP_iload dX3_faultInParts_8 rfl ?_
      refine WP_aload_n dX3_faultInParts_10 rfl ?_
      refine WS_call hz (i := 21) (by omega) dX3_faultInParts_11 ⟨⟨by decide, by decide⟩, zJ0_length_8abf5⟩ lX3_87 vJ0_length_8abf5 (As := []) (rest := [.int v19815]) (j_length hz (i := 21) (by omega)) rfl rfl (Nat.le_of_ble_eq_true rfl) ?_
      intro r Ia Ja Ra hq
      obtain ⟨⟨ea, eb, ec⟩, v19816, rfl, cv19816⟩ := hq
      show WP _ _ _ _ (.int _ :: _) _ _ _ _
      rw [ea, eb, ec]
      clear ea eb ec Ia Ja Ra
      have hv19816 : v19816.toInt = 2 := cv19816.trans rfl
      refine WQ_icmp_ge 125 dX3_faultInParts_14 rfl (fun c19816 => False.elim (by omega)) (fun c19816 => ?_)
      refine WP_iload dX3_faultInParts_17 rfl ?_
      refine WQ_iconst (5) (5) dX3_faultInParts_19 rfl rfl (fun v19818 hv19818 => ?_)
      refine WQ_icmp_ge 125 dX3_faultInParts_20 rfl (fun c19818 => False.elim (by omega)) (fun c19818 => ?_)
      refine WP_aload_n dX3_faultInParts_23 rfl ?_
      refine WP_iload dX3_faultInParts_24 rfl ?_
      refine WS_call hz (i := 21) (by omega) dX3_faultInParts_26 ⟨⟨by decide, by decide⟩, zJ0_charAt_5068e⟩ lX3_92 vJ0_charAt_5068e (As := [.int v19815]) (rest := []) (j_charAt hz (i := 21) (k := v19815) (by omega) (by omega) (by have z9 : ((liN.getD 21 0 : Nat) : Int) = 2 := rfl; omega)) rfl rfl (Nat.le_of_ble_eq_true rfl) ?_
      intro r Ia Ja Ra hq
      obtain ⟨⟨ea, eb, ec⟩, v19820, rfl, cv19820⟩ := hq
      show WP _ _ _ _ (.int _ :: _) _ _ _ _
      rw [ea, eb, ec]
      clear ea eb ec Ia Ja Ra
      have hv19820 : v19820.toInt = 86 := cv19820.trans (by rw [show v19815.toInt.toNat = 1 by omega]; rfl)
      refine WP_istore (ls' := [(0, _), (1, _), (2, _), (3, _), (4, _), (5, _), (6, _), (7, _)]) dX3_faultInParts_29 (by decide) rfl ?_
      refine WP_iload dX3_faultInParts_31 rfl ?_
      refine WQ_bipush (97) (97) dX3_faultInParts_33 rfl rfl (fun v19821 hv19821 => ?_)
      refine WQ_icmp_lt 49 dX3_faultInParts_35 rfl (fun c19821 => ?_) (fun c19821 => False.elim (by omega))
      refine WQ_iconst (0) (0) dX3_faultInParts_49 rfl rfl (fun v19823 hv19823 => ?_)
      refine WP_istore (ls' := [(0, _), (1, _), (2, _), (3, _), (4, _), (5, _), (6, _), (7, _)]) dX3_faultInParts_50 (by decide) rfl ?_
      refine WP_aload_n dX3_faultInParts_52 rfl ?_
      refine WP_getr dX3_faultInParts_53 fX3_15 rfl (lyx_is hy 3 3 rfl) (rfx hr 3 2 1 (by decide)) ?_
      refine WQ_geti dX3_faultInParts_56 fX3_43 rfl (lyx_is hy 1 5 rfl) (BT_get hI19806.1 1 2 3 (0) (0) (4) (by decide) 2 (by decide) (by decide)) (fun v19824 ev19824 av19824 bv19824 => ?_)
      refine WP_iload dX3_faultInParts_59 rfl ?_
      refine WQ_if_eq 68 dX3_faultInParts_61 rfl (fun c19824 => ?_) (fun c19824 => False.elim (by omega))
      refine WQ_iconst (2) (2) dX3_faultInParts_68 rfl rfl (fun v19826 hv19826 => ?_)
      refine WQ_icmp_eq 74 dX3_faultInParts_69 rfl (fun c19826 => ?_) (fun c19826 => ?_)
      · refine WP_iload dX3_faultInParts_74 rfl ?_
        refine WQ_if_eq 92 dX3_faultInParts_76 rfl (fun c19827 => ?_) (fun c19827 => False.elim (by omega))
        refine WP_aload_n dX3_faultInParts_92 rfl ?_
        refine WP_iload dX3_faultInParts_93 rfl ?_
        refine WP_iload_n dX3_faultInParts_95 rfl ?_
        refine WP_iload dX3_faultInParts_96 rfl ?_
        refine WP_aload_n dX3_faultInParts_98 rfl ?_
        refine WP_callV4 (k := 3) dX3_faultInParts_99 ⟨⟨⟨by decide, by decide⟩, zX3_faultOfNumber⟩, lX3_100, by decide, rfl, vX3_faultOfNumber.1, vX3_faultOfNumber.2⟩ (lyx_is hy 3 3 rfl) (sx_part_27_11_1 hy hr hI19806 v19820 cz v19815 (by omega) (by omega) (by omega) (by omega) (by omega) (by omega)) (Nat.le_of_ble_eq_true rfl) ?_
        intro r I19829 J19830 Ra hq
        obtain ⟨⟨hI19829, ec, fiI19829, fjI19829, ⟨pI19829, sI19829_4_0, sI19829_27_1, sI19829_27_2⟩⟩, v19831, rfl, av19831, bv19831, cv19831⟩ := hq
        show WP _ _ _ _ (.int _ :: _) _ _ _ _
        rw [ec]
        clear ec Ra
        have fr19832 : fz 74 g [1, 4] I I19829 := fz_tr fr19808 (fz_mono fiI19829 (by decide))
        have fr19833 : fz 74 g [1] J J19830 := fz_tr fr19809 (fz_mono fjI19829 (by decide))
        have e19834 : I19829 (ad g 4) 0 = w19804 := by rw [sI19829_4_0]; exact e19812
        have e19835 : I19829 (ad g 27) 1 = w19779 := by rw [sI19829_27_1]; exact e19810
        have e19836 : I19829 (ad g 27) 2 = w19780 := by rw [sI19829_27_2]; exact e19811
        have e19837 : I19829 (ad g 1) 1 = L := hI19829.2
        have b19838 := BT_get hI19829.1 1 1 2 (0) (0) (900) (by decide) 1 (by decide) (by decide)
        rw [e19837] at b19838
        obtain ⟨w19839, ew19839⟩ : ∃ w : Int32, I19829 (ad g 4) 1 = w := ⟨_, rfl⟩
        have bw19839 := BT_get hI19829.1 4 0 5 (0) (0) (1000) (by decide) 1 (by decide) (by decide)
        rw [ew19839] at bw19839
        rw [ew19839] at cv19831
        refine WP_istore (ls' := [(0, _), (1, _), (2, _), (3, _), (4, _), (5, _), (6, _), (7, _)]) dX3_faultInParts_102 (by decide) rfl ?_
        refine WP_iload dX3_faultInParts_104 rfl ?_
        refine WQ_if_eq 112 dX3_faultInParts_106 rfl (fun c19839 => ?_) (fun c19839 => ?_)
        · refine WP_aload_n dX3_faultInParts_112 rfl ?_
          refine WP_getr dX3_faultInParts_113 fX3_15 rfl (lyx_is hy 3 3 rfl) (rfx hr 3 2 1 (by decide)) ?_
          refine WP_callV0 (k := 5) dX3_faultInParts_116 ⟨⟨⟨by decide, by decide⟩, zX5_next⟩, lX3_40, by decide, rfl, vX5_next.1, vX5_next.2⟩ (lyx_is hy 1 5 rfl) (sx_nextf hy hr hI19829  ) (Nat.le_of_ble_eq_true rfl) ?_
          intro r I19841 J19842 Ra hq
          obtain ⟨⟨hI19841, ec, fiI19841, fjI19841⟩, rfl⟩ := hq
          rw [ec]
          clear ec Ra
          have fr19843 : fz 74 g [1, 4] I I19841 := fz_tr fr19832 (fz_mono fiI19841 (by decide))
          have fr19844 : fz 74 g [1] J J19842 := fz_tr fr19833 (fz_mono fjI19841 (by decide))
          have e19845 : I19841 (ad g 4) 0 = w19804 := by rw [fz_at fiI19841 4 (by decide) (by decide)]; exact e19834
          have e19846 : I19841 (ad g 27) 1 = w19779 := by rw [fz_at fiI19841 27 (by decide) (by decide)]; exact e19835
          have e19847 : I19841 (ad g 27) 2 = w19780 := by rw [fz_at fiI19841 27 (by decide) (by decide)]; exact e19836
          have e19848 : I19841 (ad g 4) 1 = w19839 := by rw [fz_at fiI19841 4 (by decide) (by decide)]; exact ew19839
          have e19849 : I19841 (ad g 1) 1 = L := hI19841.2
          have b19850 := BT_get hI19841.1 1 1 2 (0) (0) (900) (by decide) 1 (by decide) (by decide)
          rw [e19849] at b19850
          refine WP_iinc (ls' := [(0, _), (1, _), (2, _), (3, _), (4, _), (5, _), (6, _), (7, _)]) dX3_faultInParts_119 rfl (by decide) rfl ?_
          have hv19851 : (v19815 + Int32.ofInt (1)).toInt = v19815.toInt + (1) := ia_n rfl (by omega) (by omega)
          generalize v19815 + Int32.ofInt (1) = v19851 at hv19851 ⊢
          refine WP_goto 8 dX3_faultInParts_122 rfl ?_
          refine WP_iload dX3_faultInParts_8 rfl ?_
          refine WP_aload_n dX3_faultInParts_10 rfl ?_
          refine WS_call hz (i := 21) (by omega) dX3_faultInParts_11 ⟨⟨by decide, by decide⟩, zJ0_length_8abf5⟩ lX3_87 vJ0_length_8abf5 (As := []) (rest := [.int v19851]) (j_length hz (i := 21) (by omega)) rfl rfl (Nat.le_of_ble_eq_true rfl) ?_
          intro r Ia Ja Ra hq
          obtain ⟨⟨ea, eb, ec⟩, v19852, rfl, cv19852⟩ := hq
          show WP _ _ _ _ (.int _ :: _) _ _ _ _
          rw [ea, eb, ec]
          clear ea eb ec Ia Ja Ra
          have hv19852 : v19852.toInt = 2 := cv19852.trans rfl
          refine WQ_icmp_ge 125 dX3_faultInParts_14 rfl (fun c19852 => ?_) (fun c19852 => False.elim (by omega))
          refine WP_aload_n dX3_faultInParts_125 rfl ?_
          refine WP_getr dX3_faultInParts_126 fX3_15 rfl (lyx_is hy 3 3 rfl) (rfx hr 3 2 1 (by decide)) ?_
          refine WQ_geti dX3_faultInParts_129 fX3_43 rfl (lyx_is hy 1 5 rfl) (BT_get hI19841.1 1 2 3 (0) (0) (4) (by decide) 2 (by decide) (by decide)) (fun v19854 ev19854 av19854 bv19854 => ?_)
          refine WQ_iconst (3) (3) dX3_faultInParts_132 rfl rfl (fun v19855 hv19855 => ?_)
          refine WQ_icmp_ne 140 dX3_faultInParts_133 rfl (fun c19855 => ?_) (fun c19855 => ?_)
          · refine WQ_iconst (1) (1) dX3_faultInParts_140 rfl rfl (fun v19857 hv19857 => ?_)
            exact WP_iret dX3_faultInParts_141 rfl ⟨⟨hI19841, rfl, fr19843, fr19844, ⟨trivial, (by rw [e19846, ew19779] <;> exact (eq32 _ _).mpr (by omega)), (by rw [e19847, ew19780] <;> exact (eq32 _ _).mpr (by omega))⟩⟩, _, rfl, by omega, by omega, by (try rw [e19845]; try rw [e19848]); omega⟩
          · refine WQ_iconst (0) (0) dX3_faultInParts_136 rfl rfl (fun v19858 hv19858 => ?_)
            refine WP_goto 141 dX3_faultInParts_137 rfl ?_
            exact WP_iret dX3_faultInParts_141 rfl ⟨⟨hI19841, rfl, fr19843, fr19844, ⟨trivial, (by rw [e19846, ew19779] <;> exact (eq32 _ _).mpr (by omega)), (by rw [e19847, ew19780] <;> exact (eq32 _ _).mpr (by omega))⟩⟩, _, rfl, by omega, by omega, by (try rw [e19845]; try rw [e19848]); omega⟩
        · refine WP_iload dX3_faultInParts_109 rfl ?_
          exact WP_iret dX3_faultInParts_111 rfl ⟨⟨hI19829, rfl, fr19832, fr19833, ⟨trivial, (by rw [e19835, ew19779] <;> exact (eq32 _ _).mpr (by omega)), (by rw [e19836, ew19780] <;> exact (eq32 _ _).mpr (by omega))⟩⟩, _, rfl, by omega, by omega, by (try rw [e19834]; try rw [ew19839]); omega⟩
      · refine WQ_iconst (1) (1) dX3_faultInParts_72 rfl rfl (fun v19859 hv19859 => ?_)
        obtain ⟨w19860, ew19860⟩ : ∃ w : Int32, I19806 (ad g 4) 1 = w := ⟨_, rfl⟩
        have bw19860 := BT_get hI19806.1 4 0 5 (0) (0) (1000) (by decide) 1 (by decide) (by decide)
        rw [ew19860] at bw19860
        exact WP_iret dX3_faultInParts_73 rfl ⟨⟨hI19806, rfl, fr19808, fr19809, ⟨trivial, (by rw [e19810, ew19779] <;> exact (eq32 _ _).mpr (by omega)), (by rw [e19811, ew19780] <;> exact (eq32 _ _).mpr (by omega))⟩⟩, _, rfl, by omega, by omega, by (try rw [e19812]; try rw [ew19860]); omega⟩
    · refine WP_iload dX3_faultInParts_109 rfl ?_
      obtain ⟨w19861, ew19861⟩ : ∃ w : Int32, I19795 (ad g 4) 1 = w := ⟨_, rfl⟩
      have bw19861 := BT_get hI19795.1 4 0 5 (0) (0) (1000) (by decide) 1 (by decide) (by decide)
      rw [ew19861] at bw19861
      exact WP_iret dX3_faultInParts_111 rfl ⟨⟨hI19795, rfl, fr19798, fr19799, ⟨trivial, (by rw [e19800, ew19779] <;> exact (eq32 _ _).mpr (by omega)), (by rw [e19801, ew19780] <;> exact (eq32 _ _).mpr (by omega))⟩⟩, _, rfl, by omega, by omega, by (try rw [ew19804]; try rw [ew19861]); omega⟩
  · refine WQ_iconst (1) (1) dX3_faultInParts_72 rfl rfl (fun v19862 hv19862 => ?_)
    obtain ⟨w19863, ew19863⟩ : ∃ w : Int32, I (ad g 4) 0 = w := ⟨_, rfl⟩
    have bw19863 := BT_get hI.1 4 0 5 (0) (0) (1000) (by decide) 0 (by decide) (by decide)
    rw [ew19863] at bw19863
    obtain ⟨w19864, ew19864⟩ : ∃ w : Int32, I (ad g 4) 1 = w := ⟨_, rfl⟩
    have bw19864 := BT_get hI.1 4 0 5 (0) (0) (1000) (by decide) 1 (by decide) (by decide)
    rw [ew19864] at bw19864
    exact WP_iret dX3_faultInParts_73 rfl ⟨⟨hI, rfl, fr0, frj0, ⟨trivial, rfl, rfl⟩⟩, _, rfl, by omega, by omega, by (try rw [ew19863]; try rw [ew19864]); omega⟩
