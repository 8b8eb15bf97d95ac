set_option maxHeartbeats 4000000 in
set_option maxRecDepth 100000 in
theorem sx_named_6 {g : GG} {n : Int} {L : Int32} (hy : LyX g)  {I : pI} {J : pJ} {R : pR} (hr : RfX g R) (hI : XI g n L I) (wd : Int64) (fr : Int32) (ma : Int32) (fr_lo : 0 ≤ fr.toInt) (fr_hi : fr.toInt ≤ 4) (ma_lo : 0 ≤ ma.toInt) (ma_hi : ma.toInt ≤ 4) (hm : fr.toInt + ma.toInt ≤ 7) : SP g mX7_named [.ref (ad g 6), .long wd, .int fr, .int ma] I J R (fun r I' J' R' => (I' = I ∧ J' = J ∧ R' = R) ∧ ∃ v : Int32, r = some (.int v) ∧ -1 ≤ v.toInt ∧ v.toInt ≤ 3 ∧ (v.toInt < ma.toInt ∨ v.toInt = -1)) := by
  refine SP_of ⟨by decide, rfl⟩ (Nat.le_of_ble_eq_true rfl) ?_
  have e1541 : I (ad g 1) 1 = L := hI.2
  have b1542 := BT_get hI.1 1 1 2 (0) (0) (900) (by decide) 1 (by decide) (by decide)
  rw [e1541] at b1542
  refine WQ_iconst (0) (0) dX7_named_0 rfl rfl (fun v1543 hv1543 => ?_)
  refine WP_istore (ls' := [(0, _), (1, _), (3, _), (4, _), (5, _)]) dX7_named_1 (by decide) rfl ?_
  have lp3_1544 : ∀ (mz : Nat) (i1544 : Int32), 0 ≤ i1544.toInt → i1544.toInt ≤ 4 → i1544.toInt ≤ ma.toInt → (5 - i1544.toInt).toNat < mz → WP g mX7_named 3 [(0, .ref (ad g 6)), (1, .long wd), (3, .int fr), (4, .int ma), (5, .int i1544)] [] I J R (fun r I' J' R' => (I' = I ∧ J' = J ∧ R' = R) ∧ ∃ v : Int32, r = some (.int v) ∧ -1 ≤ v.toInt ∧ v.toInt ≤ 3 ∧ (v.toInt < ma.toInt ∨ v.toInt = -1)) := by
    intro mz
    induction mz with
    | zero =>
      intro i1544 ai1544 bi1544 j0_I hmlp3_1544
      exact absurd hmlp3_1544 (Nat.not_lt_zero _)
    | succ mz ihlp3_1544 =>
      intro i1544 ai1544 bi1544 j0_I hmlp3_1544
      refine WP_iload dX7_named_3 rfl ?_
      refine WP_iload dX7_named_5 rfl ?_
      refine WQ_icmp_ge 33 dX7_named_7 rfl (fun c1545 => ?_) (fun c1545 => ?_)
      · refine WQ_iconst (-1) (-1) dX7_named_33 rfl rfl (fun v1547 hv1547 => ?_)
        exact WP_iret dX7_named_34 rfl ⟨⟨rfl, rfl, rfl⟩, _, rfl, by omega, by omega, by omega⟩
      · refine WP_aload_n dX7_named_10 rfl ?_
        refine WP_getr dX7_named_11 fX7_51 rfl (lyx_is hy 6 7 rfl) (rfx hr 6 18 20 (by decide)) ?_
        refine WP_iload_n dX7_named_14 rfl ?_
        refine WP_iload dX7_named_15 rfl ?_
        refine WQ_iadd dX7_named_17 (by omega) (by omega) (fun v1548 hv1548 => ?_)
        refine WQ_laldu dX7_named_18 (lyx_is hy 20 14 rfl) (lyx_n hy 20 7 rfl) (by omega) (by omega) (fun l1549 => ?_)
        refine WP_lload_n dX7_named_19 rfl ?_
        refine WQ_lcmpu dX7_named_20 (fun v1550 => ?_)
        refine WX_if_ne 27 dX7_named_21 rfl ?_ ?_
        · refine WP_iinc (ls' := [(0, _), (1, _), (3, _), (4, _), (5, _)]) dX7_named_27 rfl (by decide) rfl ?_
          have hv1551 : (i1544 + Int32.ofInt (1)).toInt = i1544.toInt + (1) := ia_n rfl (by omega) (by omega)
          generalize i1544 + Int32.ofInt (1) = v1551 at hv1551 ⊢
          refine WP_goto 3 dX7_named_30 rfl ?_
          exact WP_sub (fc rfl (fc rfl (fc rfl (fc rfl (fc rfl fn))))) (ihlp3_1544 v1551 (by omega) (by omega) (by omega) (by omega))
        · refine WP_iload dX7_named_24 rfl ?_
          exact WP_iret dX7_named_26 rfl ⟨⟨rfl, rfl, rfl⟩, _, rfl, by omega, by omega, by omega⟩
  exact WP_sub (fc rfl (fc rfl (fc rfl (fc rfl (fc rfl fn))))) (lp3_1544 _ v1543 (by omega) (by omega) (by omega) (Nat.lt_succ_self _))
set_option maxHeartbeats 4000000 in
set_option maxRecDepth 100000 in
theorem sx_sortNamed_6 {g : GG} {n : Int} {L : Int32} (hy : LyX g)  {I : pI} {J : pJ} {R : pR} (hr : RfX g R) (hI : XI g n L I) (wd : Int64)  : SP g mX7_sortNamed [.ref (ad g 6), .long wd] I J R (fun r I' J' R' => (I' = I ∧ J' = J ∧ R' = R) ∧ ∃ v : Int32, r = some (.int v) ∧ -1 ≤ v.toInt ∧ v.toInt ≤ 3) := by
  refine SP_of ⟨by decide, rfl⟩ (Nat.le_of_ble_eq_true rfl) ?_
  have e1552 : I (ad g 1) 1 = L := hI.2
  have b1553 := BT_get hI.1 1 1 2 (0) (0) (900) (by decide) 1 (by decide) (by decide)
  rw [e1552] at b1553
  refine WP_aload_n dX7_sortNamed_0 rfl ?_
  refine WP_lload_n dX7_sortNamed_1 rfl ?_
  refine WQ_iconst (0) (0) dX7_sortNamed_2 rfl rfl (fun v1554 hv1554 => ?_)
  refine WP_aload_n dX7_sortNamed_3 rfl ?_
  refine WQ_geti dX7_sortNamed_4 fX7_65 rfl (lyx_is hy 6 7 rfl) (BT_get hI.1 6 1 2 (0) (0) (4) (by decide) 1 (by decide) (by decide)) (fun v1555 ev1555 av1555 bv1555 => ?_)
  refine WP_callV3 (k := 7) dX7_sortNamed_7 ⟨⟨⟨by decide, by decide⟩, zX7_named⟩, lX7_83, by decide, rfl, vX7_named.1, vX7_named.2⟩ (lyx_is hy 6 7 rfl) (sx_named_6 hy hr hI wd v1554 v1555 (by omega) (by omega) (by omega) (by omega) (by omega)) (Nat.le_of_ble_eq_true rfl) ?_
  intro r Ia Ja Ra hq
  obtain ⟨⟨ea, eb, ec⟩, v1556, rfl, av1556, bv1556, cv1556⟩ := hq
  show WP _ _ _ _ (.int _ :: _) _ _ _ _
  rw [ea, eb, ec]
  clear ea eb ec Ia Ja Ra
  exact WP_iret dX7_sortNamed_10 rfl ⟨⟨rfl, rfl, rfl⟩, _, rfl, by omega, by omega⟩
set_option maxHeartbeats 4000000 in
set_option maxRecDepth 100000 in
theorem sx_thingNamed_6 {g : GG} {n : Int} {L : Int32} (hy : LyX g)  {I : pI} {J : pJ} {R : pR} (hr : RfX g R) (hI : XI g n L I) (wd : Int64)  : SP g mX7_thingNamed [.ref (ad g 6), .long wd] I J R (fun r I' J' R' => (I' = I ∧ J' = J ∧ R' = R) ∧ ∃ v : Int32, r = some (.int v) ∧ -1 ≤ v.toInt ∧ v.toInt ≤ 2) := by
  refine SP_of ⟨by decide, rfl⟩ (Nat.le_of_ble_eq_true rfl) ?_
  have e1557 : I (ad g 1) 1 = L := hI.2
  have b1558 := BT_get hI.1 1 1 2 (0) (0) (900) (by decide) 1 (by decide) (by decide)
  rw [e1557] at b1558
  refine WP_aload_n dX7_thingNamed_0 rfl ?_
  refine WP_lload_n dX7_thingNamed_1 rfl ?_
  refine WQ_iconst (4) (4) dX7_thingNamed_2 rfl rfl (fun v1559 hv1559 => ?_)
  refine WP_aload_n dX7_thingNamed_3 rfl ?_
  refine WQ_geti dX7_thingNamed_4 fX7_68 rfl (lyx_is hy 6 7 rfl) (BT_get hI.1 6 2 3 (0) (0) (3) (by decide) 2 (by decide) (by decide)) (fun v1560 ev1560 av1560 bv1560 => ?_)
  refine WP_callV3 (k := 7) dX7_thingNamed_7 ⟨⟨⟨by decide, by decide⟩, zX7_named⟩, lX7_83, by decide, rfl, vX7_named.1, vX7_named.2⟩ (lyx_is hy 6 7 rfl) (sx_named_6 hy hr hI wd v1559 v1560 (by omega) (by omega) (by omega) (by omega) (by omega)) (Nat.le_of_ble_eq_true rfl) ?_
  intro r Ia Ja Ra hq
  obtain ⟨⟨ea, eb, ec⟩, v1561, rfl, av1561, bv1561, cv1561⟩ := hq
  show WP _ _ _ _ (.int _ :: _) _ _ _ _
  rw [ea, eb, ec]
  clear ea eb ec Ia Ja Ra
  exact WP_iret dX7_thingNamed_10 rfl ⟨⟨rfl, rfl, rfl⟩, _, rfl, by omega, by omega⟩
set_option maxHeartbeats 4000000 in
set_option maxRecDepth 100000 in
theorem sx_isTold_6 {g : GG} {n : Int} {L : Int32} (hy : LyX g)  {I : pI} {J : pJ} {R : pR} (hr : RfX g R) (hI : XI g n L I) (cl : Int32) (ofs : Int32) (da : Int32) (cl_lo : 0 ≤ cl.toInt) (cl_hi : cl.toInt ≤ 11) (ofs_lo : 0 ≤ ofs.toInt) (ofs_hi : ofs.toInt ≤ 3) : SP g mX7_isTold [.ref (ad g 6), .int cl, .int ofs, .int da] I J R (fun r I' J' R' => (I' = I ∧ J' = J ∧ R' = R) ∧ ∃ v : Int32, r = some (.int v) ∧ 0 ≤ v.toInt ∧ v.toInt ≤ 1) := by
  refine SP_of ⟨by decide, rfl⟩ (Nat.le_of_ble_eq_true rfl) ?_
  have e1562 : I (ad g 1) 1 = L := hI.2
  have b1563 := BT_get hI.1 1 1 2 (0) (0) (900) (by decide) 1 (by decide) (by decide)
  rw [e1562] at b1563
  refine WP_aload_n dX7_isTold_0 rfl ?_
  refine WP_getr dX7_isTold_1 fX7_55 rfl (lyx_is hy 6 7 rfl) (rfx hr 6 19 21 (by decide)) ?_
  refine WP_iload_n dX7_isTold_4 rfl ?_
  refine WQ_iconst (4) (4) dX7_isTold_5 rfl rfl (fun v1564 hv1564 => ?_)
  refine WQ_imulk (4) dX7_isTold_6 hv1564 (by omega) (by omega) (fun v1565 hv1565 => ?_)
  refine WP_iload_n dX7_isTold_7 rfl ?_
  refine WQ_iadd dX7_isTold_8 (by omega) (by omega) (fun v1566 hv1566 => ?_)
  refine WQ_ialdu dX7_isTold_9 (lyx_is hy 21 13 rfl) (lyx_n hy 21 48 rfl) (by omega) (by omega) (fun v1567 => ?_)
  refine WP_iload_n dX7_isTold_10 rfl ?_
  refine WQ_ishru dX7_isTold_11 (fun v1568 => ?_)
  refine WQ_iconst (1) (1) dX7_isTold_12 rfl rfl (fun v1569 hv1569 => ?_)
  refine WQ_iandu dX7_isTold_13 (fun v1570 => ?_)
  have jn22_1573 : ∀ (v1573 : Int32), 0 ≤ v1573.toInt → v1573.toInt ≤ 1 → WP g mX7_isTold 22 [(0, .ref (ad g 6)), (1, .int cl), (2, .int ofs), (3, .int da)] [.int v1573] I J R (fun r I' J' R' => (I' = I ∧ J' = J ∧ R' = R) ∧ ∃ v : Int32, r = some (.int v) ∧ 0 ≤ v.toInt ∧ v.toInt ≤ 1) := by
    intro v1573 av1573 bv1573
    exact WP_zret dX7_isTold_22 rfl (nar_z (by omega)) ⟨⟨rfl, rfl, rfl⟩, _, rfl, by omega, by omega⟩
  refine WX_if_eq 21 dX7_isTold_14 rfl ?_ ?_
  · refine WQ_iconst (0) (0) dX7_isTold_21 rfl rfl (fun v1575 hv1575 => ?_)
    exact WP_sub (fc rfl (fc rfl (fc rfl (fc rfl fn)))) (jn22_1573 v1575 (by omega) (by omega))
  · refine WQ_iconst (1) (1) dX7_isTold_17 rfl rfl (fun v1576 hv1576 => ?_)
    refine WP_goto 22 dX7_isTold_18 rfl ?_
    exact WP_sub (fc rfl (fc rfl (fc rfl (fc rfl fn)))) (jn22_1573 v1576 (by omega) (by omega))
set_option maxHeartbeats 4000000 in
set_option maxRecDepth 100000 in
theorem sx_hold_6 {g : GG} {n : Int} {L : Int32} (hy : LyX g)  {I : pI} {J : pJ} {R : pR} (hr : RfX g R) (hI : XI g n L I) (cl : Int32) (ofs : Int32) (da : Int32) (cl_lo : 0 ≤ cl.toInt) (cl_hi : cl.toInt ≤ 11) (ofs_lo : 0 ≤ ofs.toInt) (ofs_hi : ofs.toInt ≤ 3) : SP g mX7_hold [.ref (ad g 6), .int cl, .int ofs, .int da] I J R (fun r I' J' R' => (XI g n L I' ∧ R' = R ∧ fz 74 g [21] I I' ∧ fz 74 g [] J J') ∧ r = none) := by
  refine SP_of ⟨by decide, rfl⟩ (Nat.le_of_ble_eq_true rfl) ?_
  have e1577 : I (ad g 1) 1 = L := hI.2
  have b1578 := BT_get hI.1 1 1 2 (0) (0) (900) (by decide) 1 (by decide) (by decide)
  rw [e1577] at b1578
  have fr0 : fz 74 g [21] I I := fz_rf
  have frj0 : fz 74 g [] J J := fz_rf
  refine WP_aload_n dX7_hold_0 rfl ?_
  refine WP_getr dX7_hold_1 fX7_55 rfl (lyx_is hy 6 7 rfl) (rfx hr 6 19 21 (by decide)) ?_
  refine WP_iload_n dX7_hold_4 rfl ?_
  refine WQ_iconst (4) (4) dX7_hold_5 rfl rfl (fun v1579 hv1579 => ?_)
  refine WQ_imulk (4) dX7_hold_6 hv1579 (by omega) (by omega) (fun v1580 hv1580 => ?_)
  refine WP_iload_n dX7_hold_7 rfl ?_
  refine WQ_iadd dX7_hold_8 (by omega) (by omega) (fun v1581 hv1581 => ?_)
  refine WP_dup2 dX7_hold_9 rfl rfl ?_
  refine WQ_ialdu dX7_hold_10 (lyx_is hy 21 13 rfl) (lyx_n hy 21 48 rfl) (by omega) (by omega) (fun v1582 => ?_)
  refine WQ_iconst (1) (1) dX7_hold_11 rfl rfl (fun v1583 hv1583 => ?_)
  refine WP_iload_n dX7_hold_12 rfl ?_
  refine WQ_ishlu dX7_hold_13 (fun v1584 => ?_)
  refine WQ_ioru dX7_hold_14 (fun v1585 => ?_)
  refine WQ_iast dX7_hold_15 (lyx_is hy 21 13 rfl) (lyx_n hy 21 48 rfl) (by omega) (by omega) (fun I1586 eI1586 => ?_)
  have hI1586 : XI g n L I1586 := by rw [eI1586]; exact (xi_r0 hy hI (c := 21) (by decide) (Or.inl (by decide)) (by decide))
  have e1587 : I1586 (ad g 1) 1 = L := by rw [eI1586, pp_ne _ _ (Or.inl (lyx_ne hy (by decide) (by decide) (by decide)))]; exact e1577
  have fr1588 : fz 74 g [21] I I1586 := by rw [eI1586]; exact fzx_pp hy fr0 (by decide) (by decide)
  clear eI1586
  exact WP_vret dX7_hold_16 rfl ⟨⟨hI1586, rfl, fr1588, frj0⟩, rfl⟩
set_option maxHeartbeats 4000000 in
set_option maxRecDepth 100000 in
theorem sx_named_27 {g : GG} {n : Int} {L : Int32} (hy : LyX g)  {I : pI} {J : pJ} {R : pR} (hr : RfX g R) (hI : XI g n L I) (wd : Int64) (fr : Int32) (ma : Int32) (fr_lo : 0 ≤ fr.toInt) (fr_hi : fr.toInt ≤ 4) (ma_lo : 0 ≤ ma.toInt) (ma_hi : ma.toInt ≤ 4) (hm : fr.toInt + ma.toInt ≤ 7) : SP g mX7_named [.ref (ad g 27), .long wd, .int fr, .int ma] I J R (fun r I' J' R' => (I' = I ∧ J' = J ∧ R' = R) ∧ ∃ v : Int32, r = some (.int v) ∧ -1 ≤ v.toInt ∧ v.toInt ≤ 3 ∧ (v.toInt < ma.toInt ∨ v.toInt = -1)) := by
  refine SP_of ⟨by decide, rfl⟩ (Nat.le_of_ble_eq_true rfl) ?_
  have e1659 : I (ad g 1) 1 = L := hI.2
  have b1660 := BT_get hI.1 1 1 2 (0) (0) (900) (by decide) 1 (by decide) (by decide)
  rw [e1659] at b1660
  refine WQ_iconst (0) (0) dX7_named_0 rfl rfl (fun v1661 hv1661 => ?_)
  refine WP_istore (ls' := [(0, _), (1, _), (3, _), (4, _), (5, _)]) dX7_named_1 (by decide) rfl ?_
  have lp3_1662 : ∀ (mz : Nat) (i1662 : Int32), 0 ≤ i1662.toInt → i1662.toInt ≤ 4 → i1662.toInt ≤ ma.toInt → (5 - i1662.toInt).toNat < mz → WP g mX7_named 3 [(0, .ref (ad g 27)), (1, .long wd), (3, .int fr), (4, .int ma), (5, .int i1662)] [] I J R (fun r I' J' R' => (I' = I ∧ J' = J ∧ R' = R) ∧ ∃ v : Int32, r = some (.int v) ∧ -1 ≤ v.toInt ∧ v.toInt ≤ 3 ∧ (v.toInt < ma.toInt ∨ v.toInt = -1)) := by
    intro mz
    induction mz with
    | zero =>
      intro i1662 ai1662 bi1662 j0_I hmlp3_1662
      exact absurd hmlp3_1662 (Nat.not_lt_zero _)
    | succ mz ihlp3_1662 =>
      intro i1662 ai1662 bi1662 j0_I hmlp3_1662
      refine WP_iload dX7_named_3 rfl ?_
      refine WP_iload dX7_named_5 rfl ?_
      refine WQ_icmp_ge 33 dX7_named_7 rfl (fun c1663 => ?_) (fun c1663 => ?_)
      · refine WQ_iconst (-1) (-1) dX7_named_33 rfl rfl (fun v1665 hv1665 => ?_)
        exact WP_iret dX7_named_34 rfl ⟨⟨rfl, rfl, rfl⟩, _, rfl, by omega, by omega, by omega⟩
      · refine WP_aload_n dX7_named_10 rfl ?_
        refine WP_getr dX7_named_11 fX7_51 rfl (lyx_is hy 27 7 rfl) (rfx hr 27 18 41 (by decide)) ?_
        refine WP_iload_n dX7_named_14 rfl ?_
        refine WP_iload dX7_named_15 rfl ?_
        refine WQ_iadd dX7_named_17 (by omega) (by omega) (fun v1666 hv1666 => ?_)
        refine WQ_laldu dX7_named_18 (lyx_is hy 41 14 rfl) (lyx_n hy 41 7 rfl) (by omega) (by omega) (fun l1667 => ?_)
        refine WP_lload_n dX7_named_19 rfl ?_
        refine WQ_lcmpu dX7_named_20 (fun v1668 => ?_)
        refine WX_if_ne 27 dX7_named_21 rfl ?_ ?_
        · refine WP_iinc (ls' := [(0, _), (1, _), (3, _), (4, _), (5, _)]) dX7_named_27 rfl (by decide) rfl ?_
          have hv1669 : (i1662 + Int32.ofInt (1)).toInt = i1662.toInt + (1) := ia_n rfl (by omega) (by omega)
          generalize i1662 + Int32.ofInt (1) = v1669 at hv1669 ⊢
          refine WP_goto 3 dX7_named_30 rfl ?_
          exact WP_sub (fc rfl (fc rfl (fc rfl (fc rfl (fc rfl fn))))) (ihlp3_1662 v1669 (by omega) (by omega) (by omega) (by omega))
        · refine WP_iload dX7_named_24 rfl ?_
          exact WP_iret dX7_named_26 rfl ⟨⟨rfl, rfl, rfl⟩, _, rfl, by omega, by omega, by omega⟩
  exact WP_sub (fc rfl (fc rfl (fc rfl (fc rfl (fc rfl fn))))) (lp3_1662 _ v1661 (by omega) (by omega) (by omega) (Nat.lt_succ_self _))
set_option maxHeartbeats 4000000 in
set_option maxRecDepth 100000 in
theorem sx_sortNamed_27 {g : GG} {n : Int} {L : Int32} (hy : LyX g)  {I : pI} {J : pJ} {R : pR} (hr : RfX g R) (hI : XI g n L I) (wd : Int64)  : SP g mX7_sortNamed [.ref (ad g 27), .long wd] I J R (fun r I' J' R' => (I' = I ∧ J' = J ∧ R' = R) ∧ ∃ v : Int32, r = some (.int v) ∧ -1 ≤ v.toInt ∧ v.toInt ≤ 3) := by
  refine SP_of ⟨by decide, rfl⟩ (Nat.le_of_ble_eq_true rfl) ?_
  have e1670 : I (ad g 1) 1 = L := hI.2
  have b1671 := BT_get hI.1 1 1 2 (0) (0) (900) (by decide) 1 (by decide) (by decide)
  rw [e1670] at b1671
  refine WP_aload_n dX7_sortNamed_0 rfl ?_
  refine WP_lload_n dX7_sortNamed_1 rfl ?_
  refine WQ_iconst (0) (0) dX7_sortNamed_2 rfl rfl (fun v1672 hv1672 => ?_)
  refine WP_aload_n dX7_sortNamed_3 rfl ?_
  refine WQ_geti dX7_sortNamed_4 fX7_65 rfl (lyx_is hy 27 7 rfl) (BT_get hI.1 27 1 2 (0) (0) (4) (by decide) 1 (by decide) (by decide)) (fun v1673 ev1673 av1673 bv1673 => ?_)
  refine WP_callV3 (k := 7) dX7_sortNamed_7 ⟨⟨⟨by decide, by decide⟩, zX7_named⟩, lX7_83, by decide, rfl, vX7_named.1, vX7_named.2⟩ (lyx_is hy 27 7 rfl) (sx_named_27 hy hr hI wd v1672 v1673 (by omega) (by omega) (by omega) (by omega) (by omega)) (Nat.le_of_ble_eq_true rfl) ?_
  intro r Ia Ja Ra hq
  obtain ⟨⟨ea, eb, ec⟩, v1674, rfl, av1674, bv1674, cv1674⟩ := hq
  show WP _ _ _ _ (.int _ :: _) _ _ _ _
  rw [ea, eb, ec]
  clear ea eb ec Ia Ja Ra
  exact WP_iret dX7_sortNamed_10 rfl ⟨⟨rfl, rfl, rfl⟩, _, rfl, by omega, by omega⟩
set_option maxHeartbeats 4000000 in
set_option maxRecDepth 100000 in
theorem sx_thingNamed_27 {g : GG} {n : Int} {L : Int32} (hy : LyX g)  {I : pI} {J : pJ} {R : pR} (hr : RfX g R) (hI : XI g n L I) (wd : Int64)  : SP g mX7_thingNamed [.ref (ad g 27), .long wd] I J R (fun r I' J' R' => (I' = I ∧ J' = J ∧ R' = R) ∧ ∃ v : Int32, r = some (.int v) ∧ -1 ≤ v.toInt ∧ v.toInt ≤ 2) := by
  refine SP_of ⟨by decide, rfl⟩ (Nat.le_of_ble_eq_true rfl) ?_
  have e1675 : I (ad g 1) 1 = L := hI.2
  have b1676 := BT_get hI.1 1 1 2 (0) (0) (900) (by decide) 1 (by decide) (by decide)
  rw [e1675] at b1676
  refine WP_aload_n dX7_thingNamed_0 rfl ?_
  refine WP_lload_n dX7_thingNamed_1 rfl ?_
  refine WQ_iconst (4) (4) dX7_thingNamed_2 rfl rfl (fun v1677 hv1677 => ?_)
  refine WP_aload_n dX7_thingNamed_3 rfl ?_
  refine WQ_geti dX7_thingNamed_4 fX7_68 rfl (lyx_is hy 27 7 rfl) (BT_get hI.1 27 2 3 (0) (0) (3) (by decide) 2 (by decide) (by decide)) (fun v1678 ev1678 av1678 bv1678 => ?_)
  refine WP_callV3 (k := 7) dX7_thingNamed_7 ⟨⟨⟨by decide, by decide⟩, zX7_named⟩, lX7_83, by decide, rfl, vX7_named.1, vX7_named.2⟩ (lyx_is hy 27 7 rfl) (sx_named_27 hy hr hI wd v1677 v1678 (by omega) (by omega) (by omega) (by omega) (by omega)) (Nat.le_of_ble_eq_true rfl) ?_
  intro r Ia Ja Ra hq
  obtain ⟨⟨ea, eb, ec⟩, v1679, rfl, av1679, bv1679, cv1679⟩ := hq
  show WP _ _ _ _ (.int _ :: _) _ _ _ _
  rw [ea, eb, ec]
  clear ea eb ec Ia Ja Ra
  exact WP_iret dX7_thingNamed_10 rfl ⟨⟨rfl, rfl, rfl⟩, _, rfl, by omega, by omega⟩
set_option maxHeartbeats 4000000 in
set_option maxRecDepth 100000 in
theorem sx_isTold_27 {g : GG} {n : Int} {L : Int32} (hy : LyX g)  {I : pI} {J : pJ} {R : pR} (hr : RfX g R) (hI : XI g n L I) (cl : Int32) (ofs : Int32) (da : Int32) (cl_lo : 0 ≤ cl.toInt) (cl_hi : cl.toInt ≤ 11) (ofs_lo : 0 ≤ ofs.toInt) (ofs_hi : ofs.toInt ≤ 3) : SP g mX7_isTold [.ref (ad g 27), .int cl, .int ofs, .int da] I J R (fun r I' J' R' => (I' = I ∧ J' = J ∧ R' = R) ∧ ∃ v : Int32, r = some (.int v) ∧ 0 ≤ v.toInt ∧ v.toInt ≤ 1) := by
  refine SP_of ⟨by decide, rfl⟩ (Nat.le_of_ble_eq_true rfl) ?_
  have e1680 : I (ad g 1) 1 = L := hI.2
  have b1681 := BT_get hI.1 1 1 2 (0) (0) (900) (by decide) 1 (by decide) (by decide)
  rw [e1680] at b1681
  refine WP_aload_n dX7_isTold_0 rfl ?_
  refine WP_getr dX7_isTold_1 fX7_55 rfl (lyx_is hy 27 7 rfl) (rfx hr 27 19 42 (by decide)) ?_
  refine WP_iload_n dX7_isTold_4 rfl ?_
  refine WQ_iconst (4) (4) dX7_isTold_5 rfl rfl (fun v1682 hv1682 => ?_)
  refine WQ_imulk (4) dX7_isTold_6 hv1682 (by omega) (by omega) (fun v1683 hv1683 => ?_)
  refine WP_iload_n dX7_isTold_7 rfl ?_
  refine WQ_iadd dX7_isTold_8 (by omega) (by omega) (fun v1684 hv1684 => ?_)
  refine WQ_ialdu dX7_isTold_9 (lyx_is hy 42 13 rfl) (lyx_n hy 42 48 rfl) (by omega) (by omega) (fun v1685 => ?_)
  refine WP_iload_n dX7_isTold_10 rfl ?_
  refine WQ_ishru dX7_isTold_11 (fun v1686 => ?_)
  refine WQ_iconst (1) (1) dX7_isTold_12 rfl rfl (fun v1687 hv1687 => ?_)
  refine WQ_iandu dX7_isTold_13 (fun v1688 => ?_)
  have jn22_1691 : ∀ (v1691 : Int32), 0 ≤ v1691.toInt → v1691.toInt ≤ 1 → WP g mX7_isTold 22 [(0, .ref (ad g 27)), (1, .int cl), (2, .int ofs), (3, .int da)] [.int v1691] I J R (fun r I' J' R' => (I' = I ∧ J' = J ∧ R' = R) ∧ ∃ v : Int32, r = some (.int v) ∧ 0 ≤ v.toInt ∧ v.toInt ≤ 1) := by
    intro v1691 av1691 bv1691
    exact WP_zret dX7_isTold_22 rfl (nar_z (by omega)) ⟨⟨rfl, rfl, rfl⟩, _, rfl, by omega, by omega⟩
  refine WX_if_eq 21 dX7_isTold_14 rfl ?_ ?_
  · refine WQ_iconst (0) (0) dX7_isTold_21 rfl rfl (fun v1693 hv1693 => ?_)
    exact WP_sub (fc rfl (fc rfl (fc rfl (fc rfl fn)))) (jn22_1691 v1693 (by omega) (by omega))
  · refine WQ_iconst (1) (1) dX7_isTold_17 rfl rfl (fun v1694 hv1694 => ?_)
    refine WP_goto 22 dX7_isTold_18 rfl ?_
    exact WP_sub (fc rfl (fc rfl (fc rfl (fc rfl fn)))) (jn22_1691 v1694 (by omega) (by omega))
set_option maxHeartbeats 4000000 in
set_option maxRecDepth 100000 in
theorem sx_hold_27 {g : GG} {n : Int} {L : Int32} (hy : LyX g)  {I : pI} {J : pJ} {R : pR} (hr : RfX g R) (hI : XI g n L I) (cl : Int32) (ofs : Int32) (da : Int32) (cl_lo : 0 ≤ cl.toInt) (cl_hi : cl.toInt ≤ 11) (ofs_lo : 0 ≤ ofs.toInt) (ofs_hi : ofs.toInt ≤ 3) : SP g mX7_hold [.ref (ad g 27), .int cl, .int ofs, .int da] I J R (fun r I' J' R' => (XI g n L I' ∧ R' = R ∧ fz 74 g [42] I I' ∧ fz 74 g [] J J') ∧ r = none) := by
  refine SP_of ⟨by decide, rfl⟩ (Nat.le_of_ble_eq_true rfl) ?_
  have e1695 : I (ad g 1) 1 = L := hI.2
  have b1696 := BT_get hI.1 1 1 2 (0) (0) (900) (by decide) 1 (by decide) (by decide)
  rw [e1695] at b1696
  have fr0 : fz 74 g [42] I I := fz_rf
  have frj0 : fz 74 g [] J J := fz_rf
  refine WP_aload_n dX7_hold_0 rfl ?_
  refine WP_getr dX7_hold_1 fX7_55 rfl (lyx_is hy 27 7 rfl) (rfx hr 27 19 42 (by decide)) ?_
  refine WP_iload_n dX7_hold_4 rfl ?_
  refine WQ_iconst (4) (4) dX7_hold_5 rfl rfl (fun v1697 hv1697 => ?_)
  refine WQ_imulk (4) dX7_hold_6 hv1697 (by omega) (by omega) (fun v1698 hv1698 => ?_)
  refine WP_iload_n dX7_hold_7 rfl ?_
  refine WQ_iadd dX7_hold_8 (by omega) (by omega) (fun v1699 hv1699 => ?_)
  refine WP_dup2 dX7_hold_9 rfl rfl ?_
  refine WQ_ialdu dX7_hold_10 (lyx_is hy 42 13 rfl) (lyx_n hy 42 48 rfl) (by omega) (by omega) (fun v1700 => ?_)
  refine WQ_iconst (1) (1) dX7_hold_11 rfl rfl (fun v1701 hv1701 => ?_)
  refine WP_iload_n dX7_hold_12 rfl ?_
  refine WQ_ishlu dX7_hold_13 (fun v1702 => ?_)
  refine WQ_ioru dX7_hold_14 (fun v1703 => ?_)
  refine WQ_iast dX7_hold_15 (lyx_is hy 42 13 rfl) (lyx_n hy 42 48 rfl) (by omega) (by omega) (fun I1704 eI1704 => ?_)
  have hI1704 : XI g n L I1704 := by rw [eI1704]; exact (xi_r0 hy hI (c := 42) (by decide) (Or.inl (by decide)) (by decide))
  have e1705 : I1704 (ad g 1) 1 = L := by rw [eI1704, pp_ne _ _ (Or.inl (lyx_ne hy (by decide) (by decide) (by decide)))]; exact e1695
  have fr1706 : fz 74 g [42] I I1704 := by rw [eI1704]; exact fzx_pp hy fr0 (by decide) (by decide)
  clear eI1704
  exact WP_vret dX7_hold_16 rfl ⟨⟨hI1704, rfl, fr1706, frj0⟩, rfl⟩
