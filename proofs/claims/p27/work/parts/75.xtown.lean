set_option maxHeartbeats 4000000 in
set_option maxRecDepth 100000 in
theorem sx_named_6 {g : GG} {n : Int} {L : Int32} (hy : LyX g)  {I : pI} {J : pJ} {R : pR} (hr : RfX g R) (hI : XI g n L I) (wd : Int64) (fr : Int32) (ma : Int32) (fr_lo : 0 ≤ fr.toInt) (fr_hi : fr.toInt ≤ 4) (ma_lo : 0 ≤ ma.toInt) (ma_hi : ma.toInt ≤ 4) (hm : fr.toInt + ma.toInt ≤ 7) : SP g mX7_named [.ref (ad g 6), .long wd, .int fr, .int ma] I J R (fun r I' J' R' => (I' = I ∧ J' = J ∧ R' = R) ∧ ∃ v : Int32, r = some (.int v) ∧ -1 ≤ v.toInt ∧ v.toInt ≤ 3 ∧ (v.toInt < ma.toInt ∨ v.toInt = -1)) := by
  refine SP_of ⟨by decide, rfl⟩ (Nat.le_of_ble_eq_true rfl) ?_
  have e1441 : I (ad g 1) 1 = L := hI.2
  have b1442 := BT_get hI.1 1 1 2 (0) (0) (900) (by decide) 1 (by decide) (by decide)
  rw [e1441] at b1442
  refine WQ_iconst (0) (0) dX7_named_0 rfl rfl (fun v1443 hv1443 => ?_)
  refine WP_istore (ls' := [(0, _), (1, _), (3, _), (4, _), (5, _)]) dX7_named_1 (by decide) rfl ?_
  have lp3_1444 : ∀ (mz : Nat) (i1444 : Int32), 0 ≤ i1444.toInt → i1444.toInt ≤ 4 → i1444.toInt ≤ ma.toInt → (5 - i1444.toInt).toNat < mz → WP g mX7_named 3 [(0, .ref (ad g 6)), (1, .long wd), (3, .int fr), (4, .int ma), (5, .int i1444)] [] I J R (fun r I' J' R' => (I' = I ∧ J' = J ∧ R' = R) ∧ ∃ v : Int32, r = some (.int v) ∧ -1 ≤ v.toInt ∧ v.toInt ≤ 3 ∧ (v.toInt < ma.toInt ∨ v.toInt = -1)) := by
    intro mz
    induction mz with
    | zero =>
      intro i1444 ai1444 bi1444 j0_I hmlp3_1444
      exact absurd hmlp3_1444 (Nat.not_lt_zero _)
    | succ mz ihlp3_1444 =>
      intro i1444 ai1444 bi1444 j0_I hmlp3_1444
      refine WP_iload dX7_named_3 rfl ?_
      refine WP_iload dX7_named_5 rfl ?_
      refine WQ_icmp_ge 33 dX7_named_7 rfl (fun c1445 => ?_) (fun c1445 => ?_)
      · refine WQ_iconst (-1) (-1) dX7_named_33 rfl rfl (fun v1447 hv1447 => ?_)
        exact WP_iret dX7_named_34 rfl ⟨⟨rfl, rfl, rfl⟩, _, rfl, by omega, by omega, by omega⟩
      · refine WP_aload_n dX7_named_10 rfl ?_
        refine WP_getr dX7_named_11 fX7_51 rfl (lyx_is hy 6 7 rfl) (rfx hr 6 18 20 (by decide)) ?_
        refine WP_iload_n dX7_named_14 rfl ?_
        refine WP_iload dX7_named_15 rfl ?_
        refine WQ_iadd dX7_named_17 (by omega) (by omega) (fun v1448 hv1448 => ?_)
        refine WQ_laldu dX7_named_18 (lyx_is hy 20 14 rfl) (lyx_n hy 20 7 rfl) (by omega) (by omega) (fun l1449 => ?_)
        refine WP_lload_n dX7_named_19 rfl ?_
        refine WQ_lcmpu dX7_named_20 (fun v1450 => ?_)
        refine WX_if_ne 27 dX7_named_21 rfl ?_ ?_
        · refine WP_iinc (ls' := [(0, _), (1, _), (3, _), (4, _), (5, _)]) dX7_named_27 rfl (by decide) rfl ?_
          have hv1451 : (i1444 + Int32.ofInt (1)).toInt = i1444.toInt + (1) := ia_n rfl (by omega) (by omega)
          generalize i1444 + Int32.ofInt (1) = v1451 at hv1451 ⊢
          refine WP_goto 3 dX7_named_30 rfl ?_
          exact WP_sub (fc rfl (fc rfl (fc rfl (fc rfl (fc rfl fn))))) (ihlp3_1444 v1451 (by omega) (by omega) (by omega) (by omega))
        · refine WP_iload dX7_named_24 rfl ?_
          exact WP_iret dX7_named_26 rfl ⟨⟨rfl, rfl, rfl⟩, _, rfl, by omega, by omega, by omega⟩
  exact WP_sub (fc rfl (fc rfl (fc rfl (fc rfl (fc rfl fn))))) (lp3_1444 _ v1443 (by omega) (by omega) (by omega) (Nat.lt_succ_self _))
set_option maxHeartbeats 4000000 in
set_option maxRecDepth 100000 in
theorem sx_sortNamed_6 {g : GG} {n : Int} {L : Int32} (hy : LyX g)  {I : pI} {J : pJ} {R : pR} (hr : RfX g R) (hI : XI g n L I) (wd : Int64)  : SP g mX7_sortNamed [.ref (ad g 6), .long wd] I J R (fun r I' J' R' => (I' = I ∧ J' = J ∧ R' = R) ∧ ∃ v : Int32, r = some (.int v) ∧ -1 ≤ v.toInt ∧ v.toInt ≤ 3) := by
  refine SP_of ⟨by decide, rfl⟩ (Nat.le_of_ble_eq_true rfl) ?_
  have e1452 : I (ad g 1) 1 = L := hI.2
  have b1453 := BT_get hI.1 1 1 2 (0) (0) (900) (by decide) 1 (by decide) (by decide)
  rw [e1452] at b1453
  refine WP_aload_n dX7_sortNamed_0 rfl ?_
  refine WP_lload_n dX7_sortNamed_1 rfl ?_
  refine WQ_iconst (0) (0) dX7_sortNamed_2 rfl rfl (fun v1454 hv1454 => ?_)
  refine WP_aload_n dX7_sortNamed_3 rfl ?_
  refine WQ_geti dX7_sortNamed_4 fX7_65 rfl (lyx_is hy 6 7 rfl) (BT_get hI.1 6 1 2 (0) (0) (4) (by decide) 1 (by decide) (by decide)) (fun v1455 ev1455 av1455 bv1455 => ?_)
  refine WP_callV3 (k := 7) dX7_sortNamed_7 ⟨⟨⟨by decide, by decide⟩, zX7_named⟩, lX7_83, by decide, rfl, vX7_named.1, vX7_named.2⟩ (lyx_is hy 6 7 rfl) (sx_named_6 hy hr hI wd v1454 v1455 (by omega) (by omega) (by omega) (by omega) (by omega)) (Nat.le_of_ble_eq_true rfl) ?_
  intro r Ia Ja Ra hq
  obtain ⟨⟨ea, eb, ec⟩, v1456, rfl, av1456, bv1456, cv1456⟩ := hq
  show WP _ _ _ _ (.int _ :: _) _ _ _ _
  rw [ea, eb, ec]
  clear ea eb ec Ia Ja Ra
  exact WP_iret dX7_sortNamed_10 rfl ⟨⟨rfl, rfl, rfl⟩, _, rfl, by omega, by omega⟩
set_option maxHeartbeats 4000000 in
set_option maxRecDepth 100000 in
theorem sx_thingNamed_6 {g : GG} {n : Int} {L : Int32} (hy : LyX g)  {I : pI} {J : pJ} {R : pR} (hr : RfX g R) (hI : XI g n L I) (wd : Int64)  : SP g mX7_thingNamed [.ref (ad g 6), .long wd] I J R (fun r I' J' R' => (I' = I ∧ J' = J ∧ R' = R) ∧ ∃ v : Int32, r = some (.int v) ∧ -1 ≤ v.toInt ∧ v.toInt ≤ 2) := by
  refine SP_of ⟨by decide, rfl⟩ (Nat.le_of_ble_eq_true rfl) ?_
  have e1457 : I (ad g 1) 1 = L := hI.2
  have b1458 := BT_get hI.1 1 1 2 (0) (0) (900) (by decide) 1 (by decide) (by decide)
  rw [e1457] at b1458
  refine WP_aload_n dX7_thingNamed_0 rfl ?_
  refine WP_lload_n dX7_thingNamed_1 rfl ?_
  refine WQ_iconst (4) (4) dX7_thingNamed_2 rfl rfl (fun v1459 hv1459 => ?_)
  refine WP_aload_n dX7_thingNamed_3 rfl ?_
  refine WQ_geti dX7_thingNamed_4 fX7_68 rfl (lyx_is hy 6 7 rfl) (BT_get hI.1 6 2 3 (0) (0) (3) (by decide) 2 (by decide) (by decide)) (fun v1460 ev1460 av1460 bv1460 => ?_)
  refine WP_callV3 (k := 7) dX7_thingNamed_7 ⟨⟨⟨by decide, by decide⟩, zX7_named⟩, lX7_83, by decide, rfl, vX7_named.1, vX7_named.2⟩ (lyx_is hy 6 7 rfl) (sx_named_6 hy hr hI wd v1459 v1460 (by omega) (by omega) (by omega) (by omega) (by omega)) (Nat.le_of_ble_eq_true rfl) ?_
  intro r Ia Ja Ra hq
  obtain ⟨⟨ea, eb, ec⟩, v1461, rfl, av1461, bv1461, cv1461⟩ := hq
  show WP _ _ _ _ (.int _ :: _) _ _ _ _
  rw [ea, eb, ec]
  clear ea eb ec Ia Ja Ra
  exact WP_iret dX7_thingNamed_10 rfl ⟨⟨rfl, rfl, rfl⟩, _, rfl, by omega, by omega⟩
set_option maxHeartbeats 4000000 in
set_option maxRecDepth 100000 in
theorem sx_isTold_6 {g : GG} {n : Int} {L : Int32} (hy : LyX g)  {I : pI} {J : pJ} {R : pR} (hr : RfX g R) (hI : XI g n L I) (cl : Int32) (ofs : Int32) (da : Int32) (cl_lo : 0 ≤ cl.toInt) (cl_hi : cl.toInt ≤ 11) (ofs_lo : 0 ≤ ofs.toInt) (ofs_hi : ofs.toInt ≤ 3) : SP g mX7_isTold [.ref (ad g 6), .int cl, .int ofs, .int da] I J R (fun r I' J' R' => (I' = I ∧ J' = J ∧ R' = R) ∧ ∃ v : Int32, r = some (.int v) ∧ 0 ≤ v.toInt ∧ v.toInt ≤ 1) := by
  refine SP_of ⟨by decide, rfl⟩ (Nat.le_of_ble_eq_true rfl) ?_
  have e1462 : I (ad g 1) 1 = L := hI.2
  have b1463 := BT_get hI.1 1 1 2 (0) (0) (900) (by decide) 1 (by decide) (by decide)
  rw [e1462] at b1463
  refine WP_aload_n dX7_isTold_0 rfl ?_
  refine WP_getr dX7_isTold_1 fX7_55 rfl (lyx_is hy 6 7 rfl) (rfx hr 6 19 21 (by decide)) ?_
  refine WP_iload_n dX7_isTold_4 rfl ?_
  refine WQ_iconst (4) (4) dX7_isTold_5 rfl rfl (fun v1464 hv1464 => ?_)
  refine WQ_imulk (4) dX7_isTold_6 hv1464 (by omega) (by omega) (fun v1465 hv1465 => ?_)
  refine WP_iload_n dX7_isTold_7 rfl ?_
  refine WQ_iadd dX7_isTold_8 (by omega) (by omega) (fun v1466 hv1466 => ?_)
  refine WQ_ialdu dX7_isTold_9 (lyx_is hy 21 13 rfl) (lyx_n hy 21 48 rfl) (by omega) (by omega) (fun v1467 => ?_)
  refine WP_iload_n dX7_isTold_10 rfl ?_
  refine WQ_ishru dX7_isTold_11 (fun v1468 => ?_)
  refine WQ_iconst (1) (1) dX7_isTold_12 rfl rfl (fun v1469 hv1469 => ?_)
  refine WQ_iandu dX7_isTold_13 (fun v1470 => ?_)
  have jn22_1473 : ∀ (v1473 : Int32), 0 ≤ v1473.toInt → v1473.toInt ≤ 1 → WP g mX7_isTold 22 [(0, .ref (ad g 6)), (1, .int cl), (2, .int ofs), (3, .int da)] [.int v1473] I J R (fun r I' J' R' => (I' = I ∧ J' = J ∧ R' = R) ∧ ∃ v : Int32, r = some (.int v) ∧ 0 ≤ v.toInt ∧ v.toInt ≤ 1) := by
    intro v1473 av1473 bv1473
    exact WP_zret dX7_isTold_22 rfl (nar_z (by omega)) ⟨⟨rfl, rfl, rfl⟩, _, rfl, by omega, by omega⟩
  refine WX_if_eq 21 dX7_isTold_14 rfl ?_ ?_
  · refine WQ_iconst (0) (0) dX7_isTold_21 rfl rfl (fun v1475 hv1475 => ?_)
    exact WP_sub (fc rfl (fc rfl (fc rfl (fc rfl fn)))) (jn22_1473 v1475 (by omega) (by omega))
  · refine WQ_iconst (1) (1) dX7_isTold_17 rfl rfl (fun v1476 hv1476 => ?_)
    refine WP_goto 22 dX7_isTold_18 rfl ?_
    exact WP_sub (fc rfl (fc rfl (fc rfl (fc rfl fn)))) (jn22_1473 v1476 (by omega) (by omega))
set_option maxHeartbeats 4000000 in
set_option maxRecDepth 100000 in
theorem sx_hold_6 {g : GG} {n : Int} {L : Int32} (hy : LyX g)  {I : pI} {J : pJ} {R : pR} (hr : RfX g R) (hI : XI g n L I) (cl : Int32) (ofs : Int32) (da : Int32) (cl_lo : 0 ≤ cl.toInt) (cl_hi : cl.toInt ≤ 11) (ofs_lo : 0 ≤ ofs.toInt) (ofs_hi : ofs.toInt ≤ 3) : SP g mX7_hold [.ref (ad g 6), .int cl, .int ofs, .int da] I J R (fun r I' J' R' => (XI g n L I' ∧ R' = R) ∧ r = none) := by
  refine SP_of ⟨by decide, rfl⟩ (Nat.le_of_ble_eq_true rfl) ?_
  have e1477 : I (ad g 1) 1 = L := hI.2
  have b1478 := BT_get hI.1 1 1 2 (0) (0) (900) (by decide) 1 (by decide) (by decide)
  rw [e1477] at b1478
  refine WP_aload_n dX7_hold_0 rfl ?_
  refine WP_getr dX7_hold_1 fX7_55 rfl (lyx_is hy 6 7 rfl) (rfx hr 6 19 21 (by decide)) ?_
  refine WP_iload_n dX7_hold_4 rfl ?_
  refine WQ_iconst (4) (4) dX7_hold_5 rfl rfl (fun v1479 hv1479 => ?_)
  refine WQ_imulk (4) dX7_hold_6 hv1479 (by omega) (by omega) (fun v1480 hv1480 => ?_)
  refine WP_iload_n dX7_hold_7 rfl ?_
  refine WQ_iadd dX7_hold_8 (by omega) (by omega) (fun v1481 hv1481 => ?_)
  refine WP_dup2 dX7_hold_9 rfl rfl ?_
  refine WQ_ialdu dX7_hold_10 (lyx_is hy 21 13 rfl) (lyx_n hy 21 48 rfl) (by omega) (by omega) (fun v1482 => ?_)
  refine WQ_iconst (1) (1) dX7_hold_11 rfl rfl (fun v1483 hv1483 => ?_)
  refine WP_iload_n dX7_hold_12 rfl ?_
  refine WQ_ishlu dX7_hold_13 (fun v1484 => ?_)
  refine WQ_ioru dX7_hold_14 (fun v1485 => ?_)
  refine WQ_iast dX7_hold_15 (lyx_is hy 21 13 rfl) (lyx_n hy 21 48 rfl) (by omega) (by omega) (fun I1486 eI1486 => ?_)
  have hI1486 : XI g n L I1486 := by rw [eI1486]; exact (xi_r0 hy hI (c := 21) (by decide) (Or.inl (by decide)) (by decide))
  have e1487 : I1486 (ad g 1) 1 = L := by rw [eI1486, pp_ne _ _ (Or.inl (lyx_ne hy (by decide) (by decide) (by decide)))]; exact e1477
  clear eI1486
  exact WP_vret dX7_hold_16 rfl ⟨⟨hI1486, rfl⟩, rfl⟩
set_option maxHeartbeats 4000000 in
set_option maxRecDepth 100000 in
theorem sx_faultAhead_6 {g : GG} {n : Int} {L : Int32} (hy : LyX g)  {I : pI} {J : pJ} {R : pR} (hr : RfX g R) (hI : XI g n L I) (cl : Int32) (cl_lo : 0 ≤ cl.toInt) (cl_hi : cl.toInt ≤ 9) : SP g mX7_faultAhead [.ref (ad g 6), .int cl] I J R (fun r I' J' R' => (I' = I ∧ J' = J ∧ R' = R) ∧ ∃ v : Int32, r = some (.int v) ∧ 0 ≤ v.toInt ∧ v.toInt ≤ 4) := by
  refine SP_of ⟨by decide, rfl⟩ (Nat.le_of_ble_eq_true rfl) ?_
  have e1488 : I (ad g 1) 1 = L := hI.2
  have b1489 := BT_get hI.1 1 1 2 (0) (0) (900) (by decide) 1 (by decide) (by decide)
  rw [e1488] at b1489
  refine WP_iload_n dX7_faultAhead_0 rfl ?_
  refine WQ_iconst (1) (1) dX7_faultAhead_1 rfl rfl (fun v1490 hv1490 => ?_)
  refine WQ_icmp_ne 13 dX7_faultAhead_2 rfl (fun c1490 => ?_) (fun c1490 => ?_)
  · refine WP_iload_n dX7_faultAhead_13 rfl ?_
    refine WQ_iconst (2) (2) dX7_faultAhead_14 rfl rfl (fun v1492 hv1492 => ?_)
    refine WQ_icmp_ne 28 dX7_faultAhead_15 rfl (fun c1492 => ?_) (fun c1492 => ?_)
    · refine WP_iload_n dX7_faultAhead_28 rfl ?_
      refine WQ_bipush (8) (8) dX7_faultAhead_29 rfl rfl (fun v1494 hv1494 => ?_)
      have jn55_1510 : ∀ (v1510 : Int32), 0 ≤ v1510.toInt → v1510.toInt ≤ 3 → WP g mX7_faultAhead 55 [(0, .ref (ad g 6)), (1, .int cl)] [.int v1510] I J R (fun r I' J' R' => (I' = I ∧ J' = J ∧ R' = R) ∧ ∃ v : Int32, r = some (.int v) ∧ 0 ≤ v.toInt ∧ v.toInt ≤ 4) := by
        intro v1510 av1510 bv1510
        exact WP_iret dX7_faultAhead_55 rfl ⟨⟨rfl, rfl, rfl⟩, _, rfl, by omega, by omega⟩
      refine WQ_icmp_eq 40 dX7_faultAhead_31 rfl (fun c1511 => ?_) (fun c1511 => ?_)
      · refine WP_aload_n dX7_faultAhead_40 rfl ?_
        refine WP_iload_n dX7_faultAhead_41 rfl ?_
        refine WQ_iconst (0) (0) dX7_faultAhead_42 rfl rfl (fun v1513 hv1513 => ?_)
        refine WQ_iconst (0) (0) dX7_faultAhead_43 rfl rfl (fun v1514 hv1514 => ?_)
        refine WP_callV3 (k := 7) dX7_faultAhead_44 ⟨⟨⟨by decide, by decide⟩, zX7_isTold⟩, lX7_87, by decide, rfl, vX7_isTold.1, vX7_isTold.2⟩ (lyx_is hy 6 7 rfl) (sx_isTold_6 hy hr hI cl v1513 v1514 (by omega) (by omega) (by omega) (by omega) ) (Nat.le_of_ble_eq_true rfl) ?_
        intro r Ia Ja Ra hq
        obtain ⟨⟨ea, eb, ec⟩, v1515, rfl, av1515, bv1515⟩ := hq
        show WP _ _ _ _ (.int _ :: _) _ _ _ _
        rw [ea, eb, ec]
        clear ea eb ec Ia Ja Ra
        refine WQ_if_eq 54 dX7_faultAhead_47 rfl (fun c1515 => ?_) (fun c1515 => ?_)
        · refine WQ_iconst (0) (0) dX7_faultAhead_54 rfl rfl (fun v1517 hv1517 => ?_)
          exact WP_sub (fc rfl (fc rfl fn)) (jn55_1510 v1517 (by omega) (by omega))
        · refine WQ_iconst (3) (3) dX7_faultAhead_50 rfl rfl (fun v1518 hv1518 => ?_)
          refine WP_goto 55 dX7_faultAhead_51 rfl ?_
          exact WP_sub (fc rfl (fc rfl fn)) (jn55_1510 v1518 (by omega) (by omega))
      · refine WP_iload_n dX7_faultAhead_34 rfl ?_
        refine WQ_bipush (9) (9) dX7_faultAhead_35 rfl rfl (fun v1519 hv1519 => ?_)
        refine WQ_icmp_ne 54 dX7_faultAhead_37 rfl (fun c1519 => ?_) (fun c1519 => ?_)
        · refine WQ_iconst (0) (0) dX7_faultAhead_54 rfl rfl (fun v1521 hv1521 => ?_)
          exact WP_sub (fc rfl (fc rfl fn)) (jn55_1510 v1521 (by omega) (by omega))
        · refine WP_aload_n dX7_faultAhead_40 rfl ?_
          refine WP_iload_n dX7_faultAhead_41 rfl ?_
          refine WQ_iconst (0) (0) dX7_faultAhead_42 rfl rfl (fun v1522 hv1522 => ?_)
          refine WQ_iconst (0) (0) dX7_faultAhead_43 rfl rfl (fun v1523 hv1523 => ?_)
          refine WP_callV3 (k := 7) dX7_faultAhead_44 ⟨⟨⟨by decide, by decide⟩, zX7_isTold⟩, lX7_87, by decide, rfl, vX7_isTold.1, vX7_isTold.2⟩ (lyx_is hy 6 7 rfl) (sx_isTold_6 hy hr hI cl v1522 v1523 (by omega) (by omega) (by omega) (by omega) ) (Nat.le_of_ble_eq_true rfl) ?_
          intro r Ia Ja Ra hq
          obtain ⟨⟨ea, eb, ec⟩, v1524, rfl, av1524, bv1524⟩ := hq
          show WP _ _ _ _ (.int _ :: _) _ _ _ _
          rw [ea, eb, ec]
          clear ea eb ec Ia Ja Ra
          refine WQ_if_eq 54 dX7_faultAhead_47 rfl (fun c1524 => ?_) (fun c1524 => ?_)
          · refine WQ_iconst (0) (0) dX7_faultAhead_54 rfl rfl (fun v1526 hv1526 => ?_)
            exact WP_sub (fc rfl (fc rfl fn)) (jn55_1510 v1526 (by omega) (by omega))
          · refine WQ_iconst (3) (3) dX7_faultAhead_50 rfl rfl (fun v1527 hv1527 => ?_)
            refine WP_goto 55 dX7_faultAhead_51 rfl ?_
            exact WP_sub (fc rfl (fc rfl fn)) (jn55_1510 v1527 (by omega) (by omega))
    · refine WP_aload_n dX7_faultAhead_18 rfl ?_
      refine WQ_geti dX7_faultAhead_19 fX7_68 rfl (lyx_is hy 6 7 rfl) (BT_get hI.1 6 2 3 (0) (0) (3) (by decide) 2 (by decide) (by decide)) (fun v1528 ev1528 av1528 bv1528 => ?_)
      refine WQ_iconst (3) (3) dX7_faultAhead_22 rfl rfl (fun v1529 hv1529 => ?_)
      refine WQ_icmp_ne 28 dX7_faultAhead_23 rfl (fun c1529 => ?_) (fun c1529 => ?_)
      · refine WP_iload_n dX7_faultAhead_28 rfl ?_
        refine WQ_bipush (8) (8) dX7_faultAhead_29 rfl rfl (fun v1531 hv1531 => ?_)
        have jn55_1535 : ∀ (v1535 : Int32), 0 ≤ v1535.toInt → v1535.toInt ≤ 0 → WP g mX7_faultAhead 55 [(0, .ref (ad g 6)), (1, .int cl)] [.int v1535] I J R (fun r I' J' R' => (I' = I ∧ J' = J ∧ R' = R) ∧ ∃ v : Int32, r = some (.int v) ∧ 0 ≤ v.toInt ∧ v.toInt ≤ 4) := by
          intro v1535 av1535 bv1535
          exact WP_iret dX7_faultAhead_55 rfl ⟨⟨rfl, rfl, rfl⟩, _, rfl, by omega, by omega⟩
        refine WQ_icmp_eq 40 dX7_faultAhead_31 rfl (fun c1536 => False.elim (by omega)) (fun c1536 => ?_)
        refine WP_iload_n dX7_faultAhead_34 rfl ?_
        refine WQ_bipush (9) (9) dX7_faultAhead_35 rfl rfl (fun v1538 hv1538 => ?_)
        refine WQ_icmp_ne 54 dX7_faultAhead_37 rfl (fun c1538 => ?_) (fun c1538 => False.elim (by omega))
        refine WQ_iconst (0) (0) dX7_faultAhead_54 rfl rfl (fun v1540 hv1540 => ?_)
        exact WP_sub (fc rfl (fc rfl fn)) (jn55_1535 v1540 (by omega) (by omega))
      · refine WQ_iconst (4) (4) dX7_faultAhead_26 rfl rfl (fun v1541 hv1541 => ?_)
        exact WP_iret dX7_faultAhead_27 rfl ⟨⟨rfl, rfl, rfl⟩, _, rfl, by omega, by omega⟩
  · refine WP_aload_n dX7_faultAhead_5 rfl ?_
    refine WQ_geti dX7_faultAhead_6 fX7_65 rfl (lyx_is hy 6 7 rfl) (BT_get hI.1 6 1 2 (0) (0) (4) (by decide) 1 (by decide) (by decide)) (fun v1542 ev1542 av1542 bv1542 => ?_)
    refine WQ_iconst (4) (4) dX7_faultAhead_9 rfl rfl (fun v1543 hv1543 => ?_)
    refine WQ_icmp_eq 26 dX7_faultAhead_10 rfl (fun c1543 => ?_) (fun c1543 => ?_)
    · refine WQ_iconst (4) (4) dX7_faultAhead_26 rfl rfl (fun v1545 hv1545 => ?_)
      exact WP_iret dX7_faultAhead_27 rfl ⟨⟨rfl, rfl, rfl⟩, _, rfl, by omega, by omega⟩
    · refine WP_iload_n dX7_faultAhead_13 rfl ?_
      refine WQ_iconst (2) (2) dX7_faultAhead_14 rfl rfl (fun v1546 hv1546 => ?_)
      refine WQ_icmp_ne 28 dX7_faultAhead_15 rfl (fun c1546 => ?_) (fun c1546 => False.elim (by omega))
      refine WP_iload_n dX7_faultAhead_28 rfl ?_
      refine WQ_bipush (8) (8) dX7_faultAhead_29 rfl rfl (fun v1548 hv1548 => ?_)
      have jn55_1552 : ∀ (v1552 : Int32), 0 ≤ v1552.toInt → v1552.toInt ≤ 0 → WP g mX7_faultAhead 55 [(0, .ref (ad g 6)), (1, .int cl)] [.int v1552] I J R (fun r I' J' R' => (I' = I ∧ J' = J ∧ R' = R) ∧ ∃ v : Int32, r = some (.int v) ∧ 0 ≤ v.toInt ∧ v.toInt ≤ 4) := by
        intro v1552 av1552 bv1552
        exact WP_iret dX7_faultAhead_55 rfl ⟨⟨rfl, rfl, rfl⟩, _, rfl, by omega, by omega⟩
      refine WQ_icmp_eq 40 dX7_faultAhead_31 rfl (fun c1553 => False.elim (by omega)) (fun c1553 => ?_)
      refine WP_iload_n dX7_faultAhead_34 rfl ?_
      refine WQ_bipush (9) (9) dX7_faultAhead_35 rfl rfl (fun v1555 hv1555 => ?_)
      refine WQ_icmp_ne 54 dX7_faultAhead_37 rfl (fun c1555 => ?_) (fun c1555 => False.elim (by omega))
      refine WQ_iconst (0) (0) dX7_faultAhead_54 rfl rfl (fun v1557 hv1557 => ?_)
      exact WP_sub (fc rfl (fc rfl fn)) (jn55_1552 v1557 (by omega) (by omega))
set_option maxHeartbeats 4000000 in
set_option maxRecDepth 100000 in
theorem sx_named_27 {g : GG} {n : Int} {L : Int32} (hy : LyX g)  {I : pI} {J : pJ} {R : pR} (hr : RfX g R) (hI : XI g n L I) (wd : Int64) (fr : Int32) (ma : Int32) (fr_lo : 0 ≤ fr.toInt) (fr_hi : fr.toInt ≤ 4) (ma_lo : 0 ≤ ma.toInt) (ma_hi : ma.toInt ≤ 4) (hm : fr.toInt + ma.toInt ≤ 7) : SP g mX7_named [.ref (ad g 27), .long wd, .int fr, .int ma] I J R (fun r I' J' R' => (I' = I ∧ J' = J ∧ R' = R) ∧ ∃ v : Int32, r = some (.int v) ∧ -1 ≤ v.toInt ∧ v.toInt ≤ 3 ∧ (v.toInt < ma.toInt ∨ v.toInt = -1)) := by
  refine SP_of ⟨by decide, rfl⟩ (Nat.le_of_ble_eq_true rfl) ?_
  have e1558 : I (ad g 1) 1 = L := hI.2
  have b1559 := BT_get hI.1 1 1 2 (0) (0) (900) (by decide) 1 (by decide) (by decide)
  rw [e1558] at b1559
  refine WQ_iconst (0) (0) dX7_named_0 rfl rfl (fun v1560 hv1560 => ?_)
  refine WP_istore (ls' := [(0, _), (1, _), (3, _), (4, _), (5, _)]) dX7_named_1 (by decide) rfl ?_
  have lp3_1561 : ∀ (mz : Nat) (i1561 : Int32), 0 ≤ i1561.toInt → i1561.toInt ≤ 4 → i1561.toInt ≤ ma.toInt → (5 - i1561.toInt).toNat < mz → WP g mX7_named 3 [(0, .ref (ad g 27)), (1, .long wd), (3, .int fr), (4, .int ma), (5, .int i1561)] [] I J R (fun r I' J' R' => (I' = I ∧ J' = J ∧ R' = R) ∧ ∃ v : Int32, r = some (.int v) ∧ -1 ≤ v.toInt ∧ v.toInt ≤ 3 ∧ (v.toInt < ma.toInt ∨ v.toInt = -1)) := by
    intro mz
    induction mz with
    | zero =>
      intro i1561 ai1561 bi1561 j0_I hmlp3_1561
      exact absurd hmlp3_1561 (Nat.not_lt_zero _)
    | succ mz ihlp3_1561 =>
      intro i1561 ai1561 bi1561 j0_I hmlp3_1561
      refine WP_iload dX7_named_3 rfl ?_
      refine WP_iload dX7_named_5 rfl ?_
      refine WQ_icmp_ge 33 dX7_named_7 rfl (fun c1562 => ?_) (fun c1562 => ?_)
      · refine WQ_iconst (-1) (-1) dX7_named_33 rfl rfl (fun v1564 hv1564 => ?_)
        exact WP_iret dX7_named_34 rfl ⟨⟨rfl, rfl, rfl⟩, _, rfl, by omega, by omega, by omega⟩
      · refine WP_aload_n dX7_named_10 rfl ?_
        refine WP_getr dX7_named_11 fX7_51 rfl (lyx_is hy 27 7 rfl) (rfx hr 27 18 41 (by decide)) ?_
        refine WP_iload_n dX7_named_14 rfl ?_
        refine WP_iload dX7_named_15 rfl ?_
        refine WQ_iadd dX7_named_17 (by omega) (by omega) (fun v1565 hv1565 => ?_)
        refine WQ_laldu dX7_named_18 (lyx_is hy 41 14 rfl) (lyx_n hy 41 7 rfl) (by omega) (by omega) (fun l1566 => ?_)
        refine WP_lload_n dX7_named_19 rfl ?_
        refine WQ_lcmpu dX7_named_20 (fun v1567 => ?_)
        refine WX_if_ne 27 dX7_named_21 rfl ?_ ?_
        · refine WP_iinc (ls' := [(0, _), (1, _), (3, _), (4, _), (5, _)]) dX7_named_27 rfl (by decide) rfl ?_
          have hv1568 : (i1561 + Int32.ofInt (1)).toInt = i1561.toInt + (1) := ia_n rfl (by omega) (by omega)
          generalize i1561 + Int32.ofInt (1) = v1568 at hv1568 ⊢
          refine WP_goto 3 dX7_named_30 rfl ?_
          exact WP_sub (fc rfl (fc rfl (fc rfl (fc rfl (fc rfl fn))))) (ihlp3_1561 v1568 (by omega) (by omega) (by omega) (by omega))
        · refine WP_iload dX7_named_24 rfl ?_
          exact WP_iret dX7_named_26 rfl ⟨⟨rfl, rfl, rfl⟩, _, rfl, by omega, by omega, by omega⟩
  exact WP_sub (fc rfl (fc rfl (fc rfl (fc rfl (fc rfl fn))))) (lp3_1561 _ v1560 (by omega) (by omega) (by omega) (Nat.lt_succ_self _))
set_option maxHeartbeats 4000000 in
set_option maxRecDepth 100000 in
theorem sx_sortNamed_27 {g : GG} {n : Int} {L : Int32} (hy : LyX g)  {I : pI} {J : pJ} {R : pR} (hr : RfX g R) (hI : XI g n L I) (wd : Int64)  : SP g mX7_sortNamed [.ref (ad g 27), .long wd] I J R (fun r I' J' R' => (I' = I ∧ J' = J ∧ R' = R) ∧ ∃ v : Int32, r = some (.int v) ∧ -1 ≤ v.toInt ∧ v.toInt ≤ 3) := by
  refine SP_of ⟨by decide, rfl⟩ (Nat.le_of_ble_eq_true rfl) ?_
  have e1569 : I (ad g 1) 1 = L := hI.2
  have b1570 := BT_get hI.1 1 1 2 (0) (0) (900) (by decide) 1 (by decide) (by decide)
  rw [e1569] at b1570
  refine WP_aload_n dX7_sortNamed_0 rfl ?_
  refine WP_lload_n dX7_sortNamed_1 rfl ?_
  refine WQ_iconst (0) (0) dX7_sortNamed_2 rfl rfl (fun v1571 hv1571 => ?_)
  refine WP_aload_n dX7_sortNamed_3 rfl ?_
  refine WQ_geti dX7_sortNamed_4 fX7_65 rfl (lyx_is hy 27 7 rfl) (BT_get hI.1 27 1 2 (0) (0) (4) (by decide) 1 (by decide) (by decide)) (fun v1572 ev1572 av1572 bv1572 => ?_)
  refine WP_callV3 (k := 7) dX7_sortNamed_7 ⟨⟨⟨by decide, by decide⟩, zX7_named⟩, lX7_83, by decide, rfl, vX7_named.1, vX7_named.2⟩ (lyx_is hy 27 7 rfl) (sx_named_27 hy hr hI wd v1571 v1572 (by omega) (by omega) (by omega) (by omega) (by omega)) (Nat.le_of_ble_eq_true rfl) ?_
  intro r Ia Ja Ra hq
  obtain ⟨⟨ea, eb, ec⟩, v1573, rfl, av1573, bv1573, cv1573⟩ := hq
  show WP _ _ _ _ (.int _ :: _) _ _ _ _
  rw [ea, eb, ec]
  clear ea eb ec Ia Ja Ra
  exact WP_iret dX7_sortNamed_10 rfl ⟨⟨rfl, rfl, rfl⟩, _, rfl, by omega, by omega⟩
set_option maxHeartbeats 4000000 in
set_option maxRecDepth 100000 in
theorem sx_thingNamed_27 {g : GG} {n : Int} {L : Int32} (hy : LyX g)  {I : pI} {J : pJ} {R : pR} (hr : RfX g R) (hI : XI g n L I) (wd : Int64)  : SP g mX7_thingNamed [.ref (ad g 27), .long wd] I J R (fun r I' J' R' => (I' = I ∧ J' = J ∧ R' = R) ∧ ∃ v : Int32, r = some (.int v) ∧ -1 ≤ v.toInt ∧ v.toInt ≤ 2) := by
  refine SP_of ⟨by decide, rfl⟩ (Nat.le_of_ble_eq_true rfl) ?_
  have e1574 : I (ad g 1) 1 = L := hI.2
  have b1575 := BT_get hI.1 1 1 2 (0) (0) (900) (by decide) 1 (by decide) (by decide)
  rw [e1574] at b1575
  refine WP_aload_n dX7_thingNamed_0 rfl ?_
  refine WP_lload_n dX7_thingNamed_1 rfl ?_
  refine WQ_iconst (4) (4) dX7_thingNamed_2 rfl rfl (fun v1576 hv1576 => ?_)
  refine WP_aload_n dX7_thingNamed_3 rfl ?_
  refine WQ_geti dX7_thingNamed_4 fX7_68 rfl (lyx_is hy 27 7 rfl) (BT_get hI.1 27 2 3 (0) (0) (3) (by decide) 2 (by decide) (by decide)) (fun v1577 ev1577 av1577 bv1577 => ?_)
  refine WP_callV3 (k := 7) dX7_thingNamed_7 ⟨⟨⟨by decide, by decide⟩, zX7_named⟩, lX7_83, by decide, rfl, vX7_named.1, vX7_named.2⟩ (lyx_is hy 27 7 rfl) (sx_named_27 hy hr hI wd v1576 v1577 (by omega) (by omega) (by omega) (by omega) (by omega)) (Nat.le_of_ble_eq_true rfl) ?_
  intro r Ia Ja Ra hq
  obtain ⟨⟨ea, eb, ec⟩, v1578, rfl, av1578, bv1578, cv1578⟩ := hq
  show WP _ _ _ _ (.int _ :: _) _ _ _ _
  rw [ea, eb, ec]
  clear ea eb ec Ia Ja Ra
  exact WP_iret dX7_thingNamed_10 rfl ⟨⟨rfl, rfl, rfl⟩, _, rfl, by omega, by omega⟩
set_option maxHeartbeats 4000000 in
set_option maxRecDepth 100000 in
theorem sx_isTold_27 {g : GG} {n : Int} {L : Int32} (hy : LyX g)  {I : pI} {J : pJ} {R : pR} (hr : RfX g R) (hI : XI g n L I) (cl : Int32) (ofs : Int32) (da : Int32) (cl_lo : 0 ≤ cl.toInt) (cl_hi : cl.toInt ≤ 11) (ofs_lo : 0 ≤ ofs.toInt) (ofs_hi : ofs.toInt ≤ 3) : SP g mX7_isTold [.ref (ad g 27), .int cl, .int ofs, .int da] I J R (fun r I' J' R' => (I' = I ∧ J' = J ∧ R' = R) ∧ ∃ v : Int32, r = some (.int v) ∧ 0 ≤ v.toInt ∧ v.toInt ≤ 1) := by
  refine SP_of ⟨by decide, rfl⟩ (Nat.le_of_ble_eq_true rfl) ?_
  have e1579 : I (ad g 1) 1 = L := hI.2
  have b1580 := BT_get hI.1 1 1 2 (0) (0) (900) (by decide) 1 (by decide) (by decide)
  rw [e1579] at b1580
  refine WP_aload_n dX7_isTold_0 rfl ?_
  refine WP_getr dX7_isTold_1 fX7_55 rfl (lyx_is hy 27 7 rfl) (rfx hr 27 19 42 (by decide)) ?_
  refine WP_iload_n dX7_isTold_4 rfl ?_
  refine WQ_iconst (4) (4) dX7_isTold_5 rfl rfl (fun v1581 hv1581 => ?_)
  refine WQ_imulk (4) dX7_isTold_6 hv1581 (by omega) (by omega) (fun v1582 hv1582 => ?_)
  refine WP_iload_n dX7_isTold_7 rfl ?_
  refine WQ_iadd dX7_isTold_8 (by omega) (by omega) (fun v1583 hv1583 => ?_)
  refine WQ_ialdu dX7_isTold_9 (lyx_is hy 42 13 rfl) (lyx_n hy 42 48 rfl) (by omega) (by omega) (fun v1584 => ?_)
  refine WP_iload_n dX7_isTold_10 rfl ?_
  refine WQ_ishru dX7_isTold_11 (fun v1585 => ?_)
  refine WQ_iconst (1) (1) dX7_isTold_12 rfl rfl (fun v1586 hv1586 => ?_)
  refine WQ_iandu dX7_isTold_13 (fun v1587 => ?_)
  have jn22_1590 : ∀ (v1590 : Int32), 0 ≤ v1590.toInt → v1590.toInt ≤ 1 → WP g mX7_isTold 22 [(0, .ref (ad g 27)), (1, .int cl), (2, .int ofs), (3, .int da)] [.int v1590] I J R (fun r I' J' R' => (I' = I ∧ J' = J ∧ R' = R) ∧ ∃ v : Int32, r = some (.int v) ∧ 0 ≤ v.toInt ∧ v.toInt ≤ 1) := by
    intro v1590 av1590 bv1590
    exact WP_zret dX7_isTold_22 rfl (nar_z (by omega)) ⟨⟨rfl, rfl, rfl⟩, _, rfl, by omega, by omega⟩
  refine WX_if_eq 21 dX7_isTold_14 rfl ?_ ?_
  · refine WQ_iconst (0) (0) dX7_isTold_21 rfl rfl (fun v1592 hv1592 => ?_)
    exact WP_sub (fc rfl (fc rfl (fc rfl (fc rfl fn)))) (jn22_1590 v1592 (by omega) (by omega))
  · refine WQ_iconst (1) (1) dX7_isTold_17 rfl rfl (fun v1593 hv1593 => ?_)
    refine WP_goto 22 dX7_isTold_18 rfl ?_
    exact WP_sub (fc rfl (fc rfl (fc rfl (fc rfl fn)))) (jn22_1590 v1593 (by omega) (by omega))
set_option maxHeartbeats 4000000 in
set_option maxRecDepth 100000 in
theorem sx_hold_27 {g : GG} {n : Int} {L : Int32} (hy : LyX g)  {I : pI} {J : pJ} {R : pR} (hr : RfX g R) (hI : XI g n L I) (cl : Int32) (ofs : Int32) (da : Int32) (cl_lo : 0 ≤ cl.toInt) (cl_hi : cl.toInt ≤ 11) (ofs_lo : 0 ≤ ofs.toInt) (ofs_hi : ofs.toInt ≤ 3) : SP g mX7_hold [.ref (ad g 27), .int cl, .int ofs, .int da] I J R (fun r I' J' R' => (XI g n L I' ∧ R' = R) ∧ r = none) := by
  refine SP_of ⟨by decide, rfl⟩ (Nat.le_of_ble_eq_true rfl) ?_
  have e1594 : I (ad g 1) 1 = L := hI.2
  have b1595 := BT_get hI.1 1 1 2 (0) (0) (900) (by decide) 1 (by decide) (by decide)
  rw [e1594] at b1595
  refine WP_aload_n dX7_hold_0 rfl ?_
  refine WP_getr dX7_hold_1 fX7_55 rfl (lyx_is hy 27 7 rfl) (rfx hr 27 19 42 (by decide)) ?_
  refine WP_iload_n dX7_hold_4 rfl ?_
  refine WQ_iconst (4) (4) dX7_hold_5 rfl rfl (fun v1596 hv1596 => ?_)
  refine WQ_imulk (4) dX7_hold_6 hv1596 (by omega) (by omega) (fun v1597 hv1597 => ?_)
  refine WP_iload_n dX7_hold_7 rfl ?_
  refine WQ_iadd dX7_hold_8 (by omega) (by omega) (fun v1598 hv1598 => ?_)
  refine WP_dup2 dX7_hold_9 rfl rfl ?_
  refine WQ_ialdu dX7_hold_10 (lyx_is hy 42 13 rfl) (lyx_n hy 42 48 rfl) (by omega) (by omega) (fun v1599 => ?_)
  refine WQ_iconst (1) (1) dX7_hold_11 rfl rfl (fun v1600 hv1600 => ?_)
  refine WP_iload_n dX7_hold_12 rfl ?_
  refine WQ_ishlu dX7_hold_13 (fun v1601 => ?_)
  refine WQ_ioru dX7_hold_14 (fun v1602 => ?_)
  refine WQ_iast dX7_hold_15 (lyx_is hy 42 13 rfl) (lyx_n hy 42 48 rfl) (by omega) (by omega) (fun I1603 eI1603 => ?_)
  have hI1603 : XI g n L I1603 := by rw [eI1603]; exact (xi_r0 hy hI (c := 42) (by decide) (Or.inl (by decide)) (by decide))
  have e1604 : I1603 (ad g 1) 1 = L := by rw [eI1603, pp_ne _ _ (Or.inl (lyx_ne hy (by decide) (by decide) (by decide)))]; exact e1594
  clear eI1603
  exact WP_vret dX7_hold_16 rfl ⟨⟨hI1603, rfl⟩, rfl⟩
set_option maxHeartbeats 4000000 in
set_option maxRecDepth 100000 in
theorem sx_faultAhead_27 {g : GG} {n : Int} {L : Int32} (hy : LyX g)  {I : pI} {J : pJ} {R : pR} (hr : RfX g R) (hI : XI g n L I) (cl : Int32) (cl_lo : 0 ≤ cl.toInt) (cl_hi : cl.toInt ≤ 9) : SP g mX7_faultAhead [.ref (ad g 27), .int cl] I J R (fun r I' J' R' => (I' = I ∧ J' = J ∧ R' = R) ∧ ∃ v : Int32, r = some (.int v) ∧ 0 ≤ v.toInt ∧ v.toInt ≤ 4) := by
  refine SP_of ⟨by decide, rfl⟩ (Nat.le_of_ble_eq_true rfl) ?_
  have e1605 : I (ad g 1) 1 = L := hI.2
  have b1606 := BT_get hI.1 1 1 2 (0) (0) (900) (by decide) 1 (by decide) (by decide)
  rw [e1605] at b1606
  refine WP_iload_n dX7_faultAhead_0 rfl ?_
  refine WQ_iconst (1) (1) dX7_faultAhead_1 rfl rfl (fun v1607 hv1607 => ?_)
  refine WQ_icmp_ne 13 dX7_faultAhead_2 rfl (fun c1607 => ?_) (fun c1607 => ?_)
  · refine WP_iload_n dX7_faultAhead_13 rfl ?_
    refine WQ_iconst (2) (2) dX7_faultAhead_14 rfl rfl (fun v1609 hv1609 => ?_)
    refine WQ_icmp_ne 28 dX7_faultAhead_15 rfl (fun c1609 => ?_) (fun c1609 => ?_)
    · refine WP_iload_n dX7_faultAhead_28 rfl ?_
      refine WQ_bipush (8) (8) dX7_faultAhead_29 rfl rfl (fun v1611 hv1611 => ?_)
      have jn55_1627 : ∀ (v1627 : Int32), 0 ≤ v1627.toInt → v1627.toInt ≤ 3 → WP g mX7_faultAhead 55 [(0, .ref (ad g 27)), (1, .int cl)] [.int v1627] I J R (fun r I' J' R' => (I' = I ∧ J' = J ∧ R' = R) ∧ ∃ v : Int32, r = some (.int v) ∧ 0 ≤ v.toInt ∧ v.toInt ≤ 4) := by
        intro v1627 av1627 bv1627
        exact WP_iret dX7_faultAhead_55 rfl ⟨⟨rfl, rfl, rfl⟩, _, rfl, by omega, by omega⟩
      refine WQ_icmp_eq 40 dX7_faultAhead_31 rfl (fun c1628 => ?_) (fun c1628 => ?_)
      · refine WP_aload_n dX7_faultAhead_40 rfl ?_
        refine WP_iload_n dX7_faultAhead_41 rfl ?_
        refine WQ_iconst (0) (0) dX7_faultAhead_42 rfl rfl (fun v1630 hv1630 => ?_)
        refine WQ_iconst (0) (0) dX7_faultAhead_43 rfl rfl (fun v1631 hv1631 => ?_)
        refine WP_callV3 (k := 7) dX7_faultAhead_44 ⟨⟨⟨by decide, by decide⟩, zX7_isTold⟩, lX7_87, by decide, rfl, vX7_isTold.1, vX7_isTold.2⟩ (lyx_is hy 27 7 rfl) (sx_isTold_27 hy hr hI cl v1630 v1631 (by omega) (by omega) (by omega) (by omega) ) (Nat.le_of_ble_eq_true rfl) ?_
        intro r Ia Ja Ra hq
        obtain ⟨⟨ea, eb, ec⟩, v1632, rfl, av1632, bv1632⟩ := hq
        show WP _ _ _ _ (.int _ :: _) _ _ _ _
        rw [ea, eb, ec]
        clear ea eb ec Ia Ja Ra
        refine WQ_if_eq 54 dX7_faultAhead_47 rfl (fun c1632 => ?_) (fun c1632 => ?_)
        · refine WQ_iconst (0) (0) dX7_faultAhead_54 rfl rfl (fun v1634 hv1634 => ?_)
          exact WP_sub (fc rfl (fc rfl fn)) (jn55_1627 v1634 (by omega) (by omega))
        · refine WQ_iconst (3) (3) dX7_faultAhead_50 rfl rfl (fun v1635 hv1635 => ?_)
          refine WP_goto 55 dX7_faultAhead_51 rfl ?_
          exact WP_sub (fc rfl (fc rfl fn)) (jn55_1627 v1635 (by omega) (by omega))
      · refine WP_iload_n dX7_faultAhead_34 rfl ?_
        refine WQ_bipush (9) (9) dX7_faultAhead_35 rfl rfl (fun v1636 hv1636 => ?_)
        refine WQ_icmp_ne 54 dX7_faultAhead_37 rfl (fun c1636 => ?_) (fun c1636 => ?_)
        · refine WQ_iconst (0) (0) dX7_faultAhead_54 rfl rfl (fun v1638 hv1638 => ?_)
          exact WP_sub (fc rfl (fc rfl fn)) (jn55_1627 v1638 (by omega) (by omega))
        · refine WP_aload_n dX7_faultAhead_40 rfl ?_
          refine WP_iload_n dX7_faultAhead_41 rfl ?_
          refine WQ_iconst (0) (0) dX7_faultAhead_42 rfl rfl (fun v1639 hv1639 => ?_)
          refine WQ_iconst (0) (0) dX7_faultAhead_43 rfl rfl (fun v1640 hv1640 => ?_)
          refine WP_callV3 (k := 7) dX7_faultAhead_44 ⟨⟨⟨by decide, by decide⟩, zX7_isTold⟩, lX7_87, by decide, rfl, vX7_isTold.1, vX7_isTold.2⟩ (lyx_is hy 27 7 rfl) (sx_isTold_27 hy hr hI cl v1639 v1640 (by omega) (by omega) (by omega) (by omega) ) (Nat.le_of_ble_eq_true rfl) ?_
          intro r Ia Ja Ra hq
          obtain ⟨⟨ea, eb, ec⟩, v1641, rfl, av1641, bv1641⟩ := hq
          show WP _ _ _ _ (.int _ :: _) _ _ _ _
          rw [ea, eb, ec]
          clear ea eb ec Ia Ja Ra
          refine WQ_if_eq 54 dX7_faultAhead_47 rfl (fun c1641 => ?_) (fun c1641 => ?_)
          · refine WQ_iconst (0) (0) dX7_faultAhead_54 rfl rfl (fun v1643 hv1643 => ?_)
            exact WP_sub (fc rfl (fc rfl fn)) (jn55_1627 v1643 (by omega) (by omega))
          · refine WQ_iconst (3) (3) dX7_faultAhead_50 rfl rfl (fun v1644 hv1644 => ?_)
            refine WP_goto 55 dX7_faultAhead_51 rfl ?_
            exact WP_sub (fc rfl (fc rfl fn)) (jn55_1627 v1644 (by omega) (by omega))
    · refine WP_aload_n dX7_faultAhead_18 rfl ?_
      refine WQ_geti dX7_faultAhead_19 fX7_68 rfl (lyx_is hy 27 7 rfl) (BT_get hI.1 27 2 3 (0) (0) (3) (by decide) 2 (by decide) (by decide)) (fun v1645 ev1645 av1645 bv1645 => ?_)
      refine WQ_iconst (3) (3) dX7_faultAhead_22 rfl rfl (fun v1646 hv1646 => ?_)
      refine WQ_icmp_ne 28 dX7_faultAhead_23 rfl (fun c1646 => ?_) (fun c1646 => ?_)
      · refine WP_iload_n dX7_faultAhead_28 rfl ?_
        refine WQ_bipush (8) (8) dX7_faultAhead_29 rfl rfl (fun v1648 hv1648 => ?_)
        have jn55_1652 : ∀ (v1652 : Int32), 0 ≤ v1652.toInt → v1652.toInt ≤ 0 → WP g mX7_faultAhead 55 [(0, .ref (ad g 27)), (1, .int cl)] [.int v1652] I J R (fun r I' J' R' => (I' = I ∧ J' = J ∧ R' = R) ∧ ∃ v : Int32, r = some (.int v) ∧ 0 ≤ v.toInt ∧ v.toInt ≤ 4) := by
          intro v1652 av1652 bv1652
          exact WP_iret dX7_faultAhead_55 rfl ⟨⟨rfl, rfl, rfl⟩, _, rfl, by omega, by omega⟩
        refine WQ_icmp_eq 40 dX7_faultAhead_31 rfl (fun c1653 => False.elim (by omega)) (fun c1653 => ?_)
        refine WP_iload_n dX7_faultAhead_34 rfl ?_
        refine WQ_bipush (9) (9) dX7_faultAhead_35 rfl rfl (fun v1655 hv1655 => ?_)
        refine WQ_icmp_ne 54 dX7_faultAhead_37 rfl (fun c1655 => ?_) (fun c1655 => False.elim (by omega))
        refine WQ_iconst (0) (0) dX7_faultAhead_54 rfl rfl (fun v1657 hv1657 => ?_)
        exact WP_sub (fc rfl (fc rfl fn)) (jn55_1652 v1657 (by omega) (by omega))
      · refine WQ_iconst (4) (4) dX7_faultAhead_26 rfl rfl (fun v1658 hv1658 => ?_)
        exact WP_iret dX7_faultAhead_27 rfl ⟨⟨rfl, rfl, rfl⟩, _, rfl, by omega, by omega⟩
  · refine WP_aload_n dX7_faultAhead_5 rfl ?_
    refine WQ_geti dX7_faultAhead_6 fX7_65 rfl (lyx_is hy 27 7 rfl) (BT_get hI.1 27 1 2 (0) (0) (4) (by decide) 1 (by decide) (by decide)) (fun v1659 ev1659 av1659 bv1659 => ?_)
    refine WQ_iconst (4) (4) dX7_faultAhead_9 rfl rfl (fun v1660 hv1660 => ?_)
    refine WQ_icmp_eq 26 dX7_faultAhead_10 rfl (fun c1660 => ?_) (fun c1660 => ?_)
    · refine WQ_iconst (4) (4) dX7_faultAhead_26 rfl rfl (fun v1662 hv1662 => ?_)
      exact WP_iret dX7_faultAhead_27 rfl ⟨⟨rfl, rfl, rfl⟩, _, rfl, by omega, by omega⟩
    · refine WP_iload_n dX7_faultAhead_13 rfl ?_
      refine WQ_iconst (2) (2) dX7_faultAhead_14 rfl rfl (fun v1663 hv1663 => ?_)
      refine WQ_icmp_ne 28 dX7_faultAhead_15 rfl (fun c1663 => ?_) (fun c1663 => False.elim (by omega))
      refine WP_iload_n dX7_faultAhead_28 rfl ?_
      refine WQ_bipush (8) (8) dX7_faultAhead_29 rfl rfl (fun v1665 hv1665 => ?_)
      have jn55_1669 : ∀ (v1669 : Int32), 0 ≤ v1669.toInt → v1669.toInt ≤ 0 → WP g mX7_faultAhead 55 [(0, .ref (ad g 27)), (1, .int cl)] [.int v1669] I J R (fun r I' J' R' => (I' = I ∧ J' = J ∧ R' = R) ∧ ∃ v : Int32, r = some (.int v) ∧ 0 ≤ v.toInt ∧ v.toInt ≤ 4) := by
        intro v1669 av1669 bv1669
        exact WP_iret dX7_faultAhead_55 rfl ⟨⟨rfl, rfl, rfl⟩, _, rfl, by omega, by omega⟩
      refine WQ_icmp_eq 40 dX7_faultAhead_31 rfl (fun c1670 => False.elim (by omega)) (fun c1670 => ?_)
      refine WP_iload_n dX7_faultAhead_34 rfl ?_
      refine WQ_bipush (9) (9) dX7_faultAhead_35 rfl rfl (fun v1672 hv1672 => ?_)
      refine WQ_icmp_ne 54 dX7_faultAhead_37 rfl (fun c1672 => ?_) (fun c1672 => False.elim (by omega))
      refine WQ_iconst (0) (0) dX7_faultAhead_54 rfl rfl (fun v1674 hv1674 => ?_)
      exact WP_sub (fc rfl (fc rfl fn)) (jn55_1669 v1674 (by omega) (by omega))
