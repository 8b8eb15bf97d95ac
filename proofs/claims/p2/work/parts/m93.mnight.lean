set_option maxHeartbeats 4000000 in
set_option maxRecDepth 100000 in
theorem sm_loses2 {g : GG} {n : Int} {L : Int32} (hy : Ly g)  {I : pI} {J : pJ} {R : pR} (hr : Rf g R) (hI : MP g n L I) (da : Int32) (da_lo : 0 ≤ da.toInt) (da_hi : da.toInt ≤ 6) : SP g mX11_loses [.ref (ad g 0), .int da] I J R (fun r I' J' R' => (I' = I ∧ J' = J ∧ R' = R) ∧ ∃ v : Int32, r = some (.int v) ∧ 0 ≤ v.toInt ∧ v.toInt ≤ 900) := by
  refine SP_of ⟨by decide, rfl⟩ (Nat.le_of_ble_eq_true rfl) ?_
  have e3569 : I (ad g 0) 1 = L := hI.1.2
  have b3570 := BT_get hI.1.1 0 1 2 (0) (0) (900) (by decide) 1 (by decide) (by decide)
  rw [e3569] at b3570
  refine WP_aload_n dX11_loses_0 rfl ?_
  refine WQ_geti dX11_loses_1 fX11_273 rfl (ly_is hy 0 11 rfl) (BT_get hI.1.1 0 55 56 (-1) (0) (900) (by decide) 55 (by decide) (by decide)) (fun v3571 ev3571 av3571 bv3571 => ?_)
  refine WQ_iconst (-1) (-1) dX11_loses_4 rfl rfl (fun v3572 hv3572 => ?_)
  refine WQ_icmp_eq 17 dX11_loses_5 rfl (fun c3572 => ?_) (fun c3572 => ?_)
  · refine WP_aload_n dX11_loses_17 rfl ?_
    refine WP_getr dX11_loses_18 fX11_233 rfl (ly_is hy 0 11 rfl) (rf hr 0 24 6 (by decide)) ?_
    refine WP_iload_n dX11_loses_21 rfl ?_
    refine WQ_iald dX11_loses_22 (ly_is hy 6 13 rfl) (ly_n hy 6 7 rfl) (by omega) (by omega) (fun q hq => BT_get hI.1.1 6 0 7 (0) (0) (900) (by decide) q (Nat.zero_le _) hq) (fun v3574 av3574 bv3574 ev3574 => ?_)
    refine WP_goto 30 dX11_loses_23 rfl ?_
    exact WP_iret dX11_loses_30 rfl ⟨⟨rfl, rfl, rfl⟩, _, rfl, by omega, by omega⟩
  · refine WP_aload_n dX11_loses_8 rfl ?_
    refine WP_getr dX11_loses_9 fX11_233 rfl (ly_is hy 0 11 rfl) (rf hr 0 24 6 (by decide)) ?_
    refine WP_iload_n dX11_loses_12 rfl ?_
    refine WQ_iald dX11_loses_13 (ly_is hy 6 13 rfl) (ly_n hy 6 7 rfl) (by omega) (by omega) (fun q hq => BT_get hI.1.1 6 0 7 (0) (0) (900) (by decide) q (Nat.zero_le _) hq) (fun v3575 av3575 bv3575 ev3575 => ?_)
    refine WQ_if_ne 26 dX11_loses_14 rfl (fun c3575 => ?_) (fun c3575 => ?_)
    · refine WP_aload_n dX11_loses_26 rfl ?_
      refine WQ_getim dX11_loses_27 fX11_273 rfl (ly_is hy 0 11 rfl) ev3571 ?_
      exact WP_iret dX11_loses_30 rfl ⟨⟨rfl, rfl, rfl⟩, _, rfl, by omega, by omega⟩
    · refine WP_aload_n dX11_loses_17 rfl ?_
      refine WP_getr dX11_loses_18 fX11_233 rfl (ly_is hy 0 11 rfl) (rf hr 0 24 6 (by decide)) ?_
      refine WP_iload_n dX11_loses_21 rfl ?_
      refine WQ_ialde dX11_loses_22 (ly_is hy 6 13 rfl) (ly_n hy 6 7 rfl) (by omega) (by omega) ev3575 ?_
      refine WP_goto 30 dX11_loses_23 rfl ?_
      exact WP_iret dX11_loses_30 rfl ⟨⟨rfl, rfl, rfl⟩, _, rfl, by omega, by omega⟩
set_option maxHeartbeats 4000000 in
set_option maxRecDepth 100000 in
theorem sm_nightOf_38 {g : GG} {n : Int} {L : Int32} (hy : Ly g)  {I : pI} {J : pJ} {R : pR} (hr : Rf g R) (hI : MP g n L I) (k : Int32) (da : Int32) (k_lo : 0 ≤ k.toInt) (k_hi : k.toInt ≤ 3) (da_lo : 0 ≤ da.toInt) (da_hi : da.toInt ≤ 6) (hn : 0 ≤ n ∧ n ≤ 40000) (hb : (I (ad g 38) 32).toInt ≤ 23760 * n + 0 - 5940) : SP g mX11_nightOf [.ref (ad g 0), .ref (ad g 38), .int k, .int da] I J R (fun r I' J' R' => (MP g n L I' ∧ R' = R ∧ (I' (ad g 38) 32).toInt ≤ (I (ad g 38) 32).toInt + 5940) ∧ r = none) := by
  refine SP_of ⟨by decide, rfl⟩ (Nat.le_of_ble_eq_true rfl) ?_
  have e3578 : I (ad g 0) 1 = L := hI.1.2
  have b3579 := BT_get hI.1.1 0 1 2 (0) (0) (900) (by decide) 1 (by decide) (by decide)
  rw [e3578] at b3579
  obtain ⟨w3580, ew3580⟩ : ∃ w : Int32, I (ad g 38) 32 = w := ⟨_, rfl⟩
  have bw3580 := BT_get hI.1.1 38 32 33 (0) (23760) (0) (by decide) 32 (by decide) (by decide)
  rw [ew3580] at bw3580
  rw [ew3580] at hb
  refine WP_aload_n dX11_nightOf_0 rfl ?_
  refine WQ_iconst (0) (0) dX11_nightOf_1 rfl rfl (fun v3581 hv3581 => ?_)
  refine WP_iload_n dX11_nightOf_2 rfl ?_
  refine WQ_iadd dX11_nightOf_3 (by omega) (by omega) (fun v3582 hv3582 => ?_)
  refine WQ_ialdr dX11_nightOf_4 (ly_is hy 38 13 rfl) (ly_n hy 38 35 rfl) (by omega) (by omega) (a := 0) (b := 4) (by omega) (by omega) (fun q hq1 hq2 => BT_get hI.1.1 38 0 4 (0) (0) (60) (by decide) q hq1 hq2) (fun v3583 av3583 bv3583 => ?_)
  refine WP_aload_n dX11_nightOf_5 rfl ?_
  refine WP_iload_n dX11_nightOf_6 rfl ?_
  refine WP_callV1 (k := 11) dX11_nightOf_7 ⟨⟨⟨by decide, by decide⟩, zX11_loses⟩, lX11_414, by decide, rfl, vX11_loses.1, vX11_loses.2⟩ (ly_is hy 0 11 rfl) (sm_loses2 hy hr hI da (by omega) (by omega)) (Nat.le_of_ble_eq_true rfl) ?_
  intro r Ia Ja Ra hq
  obtain ⟨⟨ea, eb, ec⟩, v3584, rfl, av3584, bv3584⟩ := hq
  show WP _ _ _ _ (.int _ :: _) _ _ _ _
  rw [ea, eb, ec]
  clear ea eb ec Ia Ja Ra
  refine WP_callS2 dX11_nightOf_10 ⟨⟨⟨by decide, by decide⟩, zX11_stampsOf⟩, lX11_380, tX11_stampsOf⟩ (sm_stampsOf hy hr hI v3583 v3584 (by omega) (by omega) (by omega) (by omega)) (Nat.le_of_ble_eq_true rfl) ?_
  intro r Ia Ja Ra hq
  obtain ⟨⟨ea, eb, ec⟩, v3585, rfl, av3585, bv3585, cv3585⟩ := hq
  show WP _ _ _ _ (.int _ :: _) _ _ _ _
  rw [ea, eb, ec]
  clear ea eb ec Ia Ja Ra
  refine WP_istore (ls' := [(0, _), (1, _), (2, _), (3, _), (4, _)]) dX11_nightOf_13 (by decide) rfl ?_
  refine WP_aload_n dX11_nightOf_15 rfl ?_
  refine WQ_iconst (0) (0) dX11_nightOf_16 rfl rfl (fun v3586 hv3586 => ?_)
  refine WP_iload_n dX11_nightOf_17 rfl ?_
  refine WQ_iadd dX11_nightOf_18 (by omega) (by omega) (fun v3587 hv3587 => ?_)
  refine WP_aload_n dX11_nightOf_19 rfl ?_
  refine WP_aload_n dX11_nightOf_20 rfl ?_
  refine WQ_iconst (0) (0) dX11_nightOf_21 rfl rfl (fun v3588 hv3588 => ?_)
  refine WP_iload_n dX11_nightOf_22 rfl ?_
  refine WQ_iadd dX11_nightOf_23 (by omega) (by omega) (fun v3589 hv3589 => ?_)
  refine WQ_ialdr dX11_nightOf_24 (ly_is hy 38 13 rfl) (ly_n hy 38 35 rfl) (by omega) (by omega) (a := 0) (b := 4) (by omega) (by omega) (fun q hq1 hq2 => BT_get hI.1.1 38 0 4 (0) (0) (60) (by decide) q hq1 hq2) (fun v3590 av3590 bv3590 => ?_)
  refine WP_aload_n dX11_nightOf_25 rfl ?_
  refine WQ_iconst (4) (4) dX11_nightOf_26 rfl rfl (fun v3591 hv3591 => ?_)
  refine WP_iload_n dX11_nightOf_27 rfl ?_
  refine WQ_iadd dX11_nightOf_28 (by omega) (by omega) (fun v3592 hv3592 => ?_)
  refine WQ_ialdr dX11_nightOf_29 (ly_is hy 38 13 rfl) (ly_n hy 38 35 rfl) (by omega) (by omega) (a := 4) (b := 8) (by omega) (by omega) (fun q hq1 hq2 => BT_get hI.1.1 38 4 8 (0) (0) (5) (by decide) q hq1 hq2) (fun v3593 av3593 bv3593 => ?_)
  refine WP_aload_n dX11_nightOf_30 rfl ?_
  refine WP_iload_n dX11_nightOf_31 rfl ?_
  refine WP_callV1 (k := 11) dX11_nightOf_32 ⟨⟨⟨by decide, by decide⟩, zX11_loses⟩, lX11_414, by decide, rfl, vX11_loses.1, vX11_loses.2⟩ (ly_is hy 0 11 rfl) (sm_loses2 hy hr hI da (by omega) (by omega)) (Nat.le_of_ble_eq_true rfl) ?_
  intro r Ia Ja Ra hq
  obtain ⟨⟨ea, eb, ec⟩, v3594, rfl, av3594, bv3594⟩ := hq
  show WP _ _ _ _ (.int _ :: _) _ _ _ _
  rw [ea, eb, ec]
  clear ea eb ec Ia Ja Ra
  refine WP_callV3 (k := 11) dX11_nightOf_35 ⟨⟨⟨by decide, by decide⟩, zX11_behindNight⟩, lX11_398, by decide, rfl, vX11_behindNight.1, vX11_behindNight.2⟩ (ly_is hy 0 11 rfl) (sm_behindNight hy hr hI v3590 v3593 v3594 (by omega) (by omega) (by omega) (by omega) (by omega) (by omega)) (Nat.le_of_ble_eq_true rfl) ?_
  intro r Ia Ja Ra hq
  obtain ⟨⟨ea, eb, ec⟩, v3595, rfl, av3595, bv3595⟩ := hq
  show WP _ _ _ _ (.int _ :: _) _ _ _ _
  rw [ea, eb, ec]
  clear ea eb ec Ia Ja Ra
  refine WQ_iast dX11_nightOf_38 (ly_is hy 38 13 rfl) (ly_n hy 38 35 rfl) (by omega) (by omega) (fun I3596 eI3596 => ?_)
  have hI3596 : MP g n L I3596 := by rw [eI3596]; exact (mp_w hy hI (c := 38) (mi_rr hy hI.1 (c := 38) (0) (3) (0) (0) (60) (by decide) (Or.inl (by decide)) (by rw [cl (n := v3587.toInt.toNat) (by omega)]; omega) (by decide) (fun _ => ⟨by omega, by omega⟩)) (by decide) (by decide) (Or.inl (by decide)))
  have e3597 : I3596 (ad g 0) 1 = L := by rw [eI3596, pp_ne _ _ (Or.inl (ly_ne hy (by decide) (by decide) (by decide)))]; exact e3578
  have e3598 : I3596 (ad g 38) 32 = w3580 := by rw [eI3596, pp_ne _ _ (Or.inr (by rw [cl (x := v3587) (n := v3587.toInt.toNat) (by omega)]; omega))]; exact ew3580
  clear eI3596
  refine WP_aload_n dX11_nightOf_39 rfl ?_
  refine WQ_bipush (12) (12) dX11_nightOf_40 rfl rfl (fun v3599 hv3599 => ?_)
  refine WP_iload_n dX11_nightOf_42 rfl ?_
  refine WQ_iadd dX11_nightOf_43 (by omega) (by omega) (fun v3600 hv3600 => ?_)
  refine WP_dup2 dX11_nightOf_44 rfl rfl ?_
  refine WQ_ialdu dX11_nightOf_45 (ly_is hy 38 13 rfl) (ly_n hy 38 35 rfl) (by omega) (by omega) (fun v3601 => ?_)
  refine WP_iload dX11_nightOf_46 rfl ?_
  refine WP_aload_n dX11_nightOf_48 rfl ?_
  refine WP_getr dX11_nightOf_49 fX11_235 rfl (ly_is hy 0 11 rfl) (rf hr 0 26 8 (by decide)) ?_
  refine WP_iload_n dX11_nightOf_52 rfl ?_
  refine WQ_iald dX11_nightOf_53 (ly_is hy 8 13 rfl) (ly_n hy 8 4 rfl) (by omega) (by omega) (fun q hq => BT_get hI3596.1.1 8 0 4 (0) (0) (99) (by decide) q (Nat.zero_le _) hq) (fun v3602 av3602 bv3602 ev3602 => ?_)
  clear ev3602
  refine WQ_imulb (999) (99) dX11_nightOf_54 ⟨by omega, by omega⟩ ⟨by omega, by omega⟩ (by decide) (fun v3603 pv3603 av3603 bv3603 cv3603 => ?_)
  refine WQ_iaddu dX11_nightOf_55 (fun v3604 => ?_)
  refine WQ_iast dX11_nightOf_56 (ly_is hy 38 13 rfl) (ly_n hy 38 35 rfl) (by omega) (by omega) (fun I3605 eI3605 => ?_)
  have hI3605 : MP g n L I3605 := by rw [eI3605]; exact (mp_w hy hI3596 (c := 38) (mi_rr hy hI3596.1 (c := 38) (12) (15) (0) (0) (0) (by decide) (Or.inl (by decide)) (by rw [cl (n := v3600.toInt.toNat) (by omega)]; omega) (by decide) (fun h => absurd h (by decide))) (by decide) (by decide) (Or.inl (by decide)))
  have e3606 : I3605 (ad g 0) 1 = L := by rw [eI3605, pp_ne _ _ (Or.inl (ly_ne hy (by decide) (by decide) (by decide)))]; exact e3597
  have e3607 : I3605 (ad g 38) 32 = w3580 := by rw [eI3605, pp_ne _ _ (Or.inr (by rw [cl (x := v3600) (n := v3600.toInt.toNat) (by omega)]; omega))]; exact e3598
  clear eI3605
  refine WP_aload_n dX11_nightOf_57 rfl ?_
  refine WQ_bipush (32) (32) dX11_nightOf_58 rfl rfl (fun v3608 hv3608 => ?_)
  refine WP_dup2 dX11_nightOf_60 rfl rfl ?_
  refine WQ_ialdm (z := 32) dX11_nightOf_61 (ly_is hy 38 13 rfl) (ly_n hy 38 35 rfl) hv3608 (by decide) e3607 ?_
  refine WP_iload dX11_nightOf_62 rfl ?_
  refine WP_aload_n dX11_nightOf_64 rfl ?_
  refine WP_getr dX11_nightOf_65 fX11_235 rfl (ly_is hy 0 11 rfl) (rf hr 0 26 8 (by decide)) ?_
  refine WP_iload_n dX11_nightOf_68 rfl ?_
  refine WQ_iald dX11_nightOf_69 (ly_is hy 8 13 rfl) (ly_n hy 8 4 rfl) (by omega) (by omega) (fun q hq => BT_get hI3605.1.1 8 0 4 (0) (0) (99) (by decide) q (Nat.zero_le _) hq) (fun v3610 av3610 bv3610 ev3610 => ?_)
  clear ev3610
  refine WQ_imulb (999) (99) dX11_nightOf_70 ⟨by omega, by omega⟩ ⟨by omega, by omega⟩ (by decide) (fun v3611 pv3611 av3611 bv3611 cv3611 => ?_)
  refine WQ_iadd dX11_nightOf_71 (by omega) (by omega) (fun v3612 hv3612 => ?_)
  refine WQ_iast dX11_nightOf_72 (ly_is hy 38 13 rfl) (ly_n hy 38 35 rfl) (by omega) (by omega) (fun I3613 fI3613 => ?_)
  have eI3613 := fI3613
  rw [cl (x := v3608) (n := 32) (by omega)] at eI3613
  clear fI3613
  have hI3613 : MP g n L I3613 := by rw [eI3613]; exact (mp_w hy hI3605 (c := 38) (mi_f hy hI3605.1 (c := 38) (0) (23760) (0) (by decide) (Or.inl (by decide)) (by decide) (by omega) (by omega)) (by decide) (by decide) (Or.inl (by decide)))
  have e3614 : I3613 (ad g 0) 1 = L := by rw [eI3613, pp_ne _ _ (Or.inl (ly_ne hy (by decide) (by decide) (by decide)))]; exact e3606
  have e3615 : I3613 (ad g 38) 32 = v3612 := by rw [eI3613, pp_self]
  clear eI3613
  refine WP_aload_n dX11_nightOf_73 rfl ?_
  refine WP_aload_n dX11_nightOf_74 rfl ?_
  refine WQ_iconst (4) (4) dX11_nightOf_75 rfl rfl (fun v3616 hv3616 => ?_)
  refine WP_iload_n dX11_nightOf_76 rfl ?_
  refine WQ_iadd dX11_nightOf_77 (by omega) (by omega) (fun v3617 hv3617 => ?_)
  refine WQ_ialdr dX11_nightOf_78 (ly_is hy 38 13 rfl) (ly_n hy 38 35 rfl) (by omega) (by omega) (a := 4) (b := 8) (by omega) (by omega) (fun q hq1 hq2 => BT_get hI3613.1.1 38 4 8 (0) (0) (5) (by decide) q hq1 hq2) (fun v3618 av3618 bv3618 => ?_)
  refine WP_callV1 (k := 11) dX11_nightOf_79 ⟨⟨⟨by decide, by decide⟩, zX11_leftOf⟩, lX11_420, by decide, rfl, vX11_leftOf.1, vX11_leftOf.2⟩ (ly_is hy 0 11 rfl) (sm_leftOf hy hr hI3613 v3618 (by omega) (by omega)) (Nat.le_of_ble_eq_true rfl) ?_
  intro r Ia Ja Ra hq
  obtain ⟨⟨ea, eb, ec⟩, v3619, rfl, av3619, bv3619⟩ := hq
  show WP _ _ _ _ (.int _ :: _) _ _ _ _
  rw [ea, eb, ec]
  clear ea eb ec Ia Ja Ra
  refine WP_istore (ls' := [(0, _), (1, _), (2, _), (3, _), (4, _), (5, _)]) dX11_nightOf_82 (by decide) rfl ?_
  refine WP_aload_n dX11_nightOf_84 rfl ?_
  refine WQ_bipush (20) (20) dX11_nightOf_85 rfl rfl (fun v3620 hv3620 => ?_)
  refine WP_iload_n dX11_nightOf_87 rfl ?_
  refine WQ_iadd dX11_nightOf_88 (by omega) (by omega) (fun v3621 hv3621 => ?_)
  refine WP_dup2 dX11_nightOf_89 rfl rfl ?_
  refine WQ_ialdu dX11_nightOf_90 (ly_is hy 38 13 rfl) (ly_n hy 38 35 rfl) (by omega) (by omega) (fun v3622 => ?_)
  refine WP_aload_n dX11_nightOf_91 rfl ?_
  refine WQ_iconst (4) (4) dX11_nightOf_92 rfl rfl (fun v3623 hv3623 => ?_)
  refine WP_iload_n dX11_nightOf_93 rfl ?_
  refine WQ_iadd dX11_nightOf_94 (by omega) (by omega) (fun v3624 hv3624 => ?_)
  refine WQ_ialdr dX11_nightOf_95 (ly_is hy 38 13 rfl) (ly_n hy 38 35 rfl) (by omega) (by omega) (a := 4) (b := 8) (by omega) (by omega) (fun q hq1 hq2 => BT_get hI3613.1.1 38 4 8 (0) (0) (5) (by decide) q hq1 hq2) (fun v3625 av3625 bv3625 => ?_)
  refine WP_iload dX11_nightOf_96 rfl ?_
  refine WQ_isub dX11_nightOf_98 (by omega) (by omega) (fun v3626 hv3626 => ?_)
  refine WP_aload_n dX11_nightOf_99 rfl ?_
  refine WP_getr dX11_nightOf_100 fX11_235 rfl (ly_is hy 0 11 rfl) (rf hr 0 26 8 (by decide)) ?_
  refine WP_iload_n dX11_nightOf_103 rfl ?_
  refine WQ_iald dX11_nightOf_104 (ly_is hy 8 13 rfl) (ly_n hy 8 4 rfl) (by omega) (by omega) (fun q hq => BT_get hI3613.1.1 8 0 4 (0) (0) (99) (by decide) q (Nat.zero_le _) hq) (fun v3627 av3627 bv3627 ev3627 => ?_)
  clear ev3627
  refine WQ_imulu dX11_nightOf_105 (fun v3628 => ?_)
  refine WQ_iaddu dX11_nightOf_106 (fun v3629 => ?_)
  refine WQ_iast dX11_nightOf_107 (ly_is hy 38 13 rfl) (ly_n hy 38 35 rfl) (by omega) (by omega) (fun I3630 eI3630 => ?_)
  have hI3630 : MP g n L I3630 := by rw [eI3630]; exact (mp_w hy hI3613 (c := 38) (mi_rr hy hI3613.1 (c := 38) (20) (23) (0) (0) (0) (by decide) (Or.inl (by decide)) (by rw [cl (n := v3621.toInt.toNat) (by omega)]; omega) (by decide) (fun h => absurd h (by decide))) (by decide) (by decide) (Or.inl (by decide)))
  have e3631 : I3630 (ad g 0) 1 = L := by rw [eI3630, pp_ne _ _ (Or.inl (ly_ne hy (by decide) (by decide) (by decide)))]; exact e3614
  have e3632 : I3630 (ad g 38) 32 = v3612 := by rw [eI3630, pp_ne _ _ (Or.inr (by rw [cl (x := v3621) (n := v3621.toInt.toNat) (by omega)]; omega))]; exact e3615
  clear eI3630
  refine WP_aload_n dX11_nightOf_108 rfl ?_
  refine WQ_iconst (4) (4) dX11_nightOf_109 rfl rfl (fun v3633 hv3633 => ?_)
  refine WP_iload_n dX11_nightOf_110 rfl ?_
  refine WQ_iadd dX11_nightOf_111 (by omega) (by omega) (fun v3634 hv3634 => ?_)
  refine WP_iload dX11_nightOf_112 rfl ?_
  refine WQ_iast dX11_nightOf_114 (ly_is hy 38 13 rfl) (ly_n hy 38 35 rfl) (by omega) (by omega) (fun I3635 eI3635 => ?_)
  have hI3635 : MP g n L I3635 := by rw [eI3635]; exact (mp_w hy hI3630 (c := 38) (mi_rr hy hI3630.1 (c := 38) (4) (7) (0) (0) (5) (by decide) (Or.inl (by decide)) (by rw [cl (n := v3634.toInt.toNat) (by omega)]; omega) (by decide) (fun _ => ⟨by omega, by omega⟩)) (by decide) (by decide) (Or.inl (by decide)))
  have e3636 : I3635 (ad g 0) 1 = L := by rw [eI3635, pp_ne _ _ (Or.inl (ly_ne hy (by decide) (by decide) (by decide)))]; exact e3631
  have e3637 : I3635 (ad g 38) 32 = v3612 := by rw [eI3635, pp_ne _ _ (Or.inr (by rw [cl (x := v3634) (n := v3634.toInt.toNat) (by omega)]; omega))]; exact e3632
  clear eI3635
  exact WP_vret dX11_nightOf_115 rfl ⟨⟨hI3635, rfl, (by rw [e3637, ew3580]; omega)⟩, rfl⟩
set_option maxHeartbeats 4000000 in
set_option maxRecDepth 100000 in
theorem sm_nightOf_39 {g : GG} {n : Int} {L : Int32} (hy : Ly g)  {I : pI} {J : pJ} {R : pR} (hr : Rf g R) (hI : MP g n L I) (k : Int32) (da : Int32) (k_lo : 0 ≤ k.toInt) (k_hi : k.toInt ≤ 3) (da_lo : 0 ≤ da.toInt) (da_hi : da.toInt ≤ 6) (hn : 0 ≤ n ∧ n ≤ 40000) (hb : (I (ad g 39) 32).toInt ≤ 23760 * n + 700000 - 5940) : SP g mX11_nightOf [.ref (ad g 0), .ref (ad g 39), .int k, .int da] I J R (fun r I' J' R' => (MP g n L I' ∧ R' = R ∧ (I' (ad g 39) 32).toInt ≤ (I (ad g 39) 32).toInt + 5940) ∧ r = none) := by
  refine SP_of ⟨by decide, rfl⟩ (Nat.le_of_ble_eq_true rfl) ?_
  have e3638 : I (ad g 0) 1 = L := hI.1.2
  have b3639 := BT_get hI.1.1 0 1 2 (0) (0) (900) (by decide) 1 (by decide) (by decide)
  rw [e3638] at b3639
  obtain ⟨w3640, ew3640⟩ : ∃ w : Int32, I (ad g 39) 32 = w := ⟨_, rfl⟩
  have bw3640 := BT_get hI.1.1 39 32 33 (0) (23760) (700000) (by decide) 32 (by decide) (by decide)
  rw [ew3640] at bw3640
  rw [ew3640] at hb
  refine WP_aload_n dX11_nightOf_0 rfl ?_
  refine WQ_iconst (0) (0) dX11_nightOf_1 rfl rfl (fun v3641 hv3641 => ?_)
  refine WP_iload_n dX11_nightOf_2 rfl ?_
  refine WQ_iadd dX11_nightOf_3 (by omega) (by omega) (fun v3642 hv3642 => ?_)
  refine WQ_ialdr dX11_nightOf_4 (ly_is hy 39 13 rfl) (ly_n hy 39 35 rfl) (by omega) (by omega) (a := 0) (b := 4) (by omega) (by omega) (fun q hq1 hq2 => BT_get hI.1.1 39 0 4 (0) (0) (60) (by decide) q hq1 hq2) (fun v3643 av3643 bv3643 => ?_)
  refine WP_aload_n dX11_nightOf_5 rfl ?_
  refine WP_iload_n dX11_nightOf_6 rfl ?_
  refine WP_callV1 (k := 11) dX11_nightOf_7 ⟨⟨⟨by decide, by decide⟩, zX11_loses⟩, lX11_414, by decide, rfl, vX11_loses.1, vX11_loses.2⟩ (ly_is hy 0 11 rfl) (sm_loses2 hy hr hI da (by omega) (by omega)) (Nat.le_of_ble_eq_true rfl) ?_
  intro r Ia Ja Ra hq
  obtain ⟨⟨ea, eb, ec⟩, v3644, rfl, av3644, bv3644⟩ := hq
  show WP _ _ _ _ (.int _ :: _) _ _ _ _
  rw [ea, eb, ec]
  clear ea eb ec Ia Ja Ra
  refine WP_callS2 dX11_nightOf_10 ⟨⟨⟨by decide, by decide⟩, zX11_stampsOf⟩, lX11_380, tX11_stampsOf⟩ (sm_stampsOf hy hr hI v3643 v3644 (by omega) (by omega) (by omega) (by omega)) (Nat.le_of_ble_eq_true rfl) ?_
  intro r Ia Ja Ra hq
  obtain ⟨⟨ea, eb, ec⟩, v3645, rfl, av3645, bv3645, cv3645⟩ := hq
  show WP _ _ _ _ (.int _ :: _) _ _ _ _
  rw [ea, eb, ec]
  clear ea eb ec Ia Ja Ra
  refine WP_istore (ls' := [(0, _), (1, _), (2, _), (3, _), (4, _)]) dX11_nightOf_13 (by decide) rfl ?_
  refine WP_aload_n dX11_nightOf_15 rfl ?_
  refine WQ_iconst (0) (0) dX11_nightOf_16 rfl rfl (fun v3646 hv3646 => ?_)
  refine WP_iload_n dX11_nightOf_17 rfl ?_
  refine WQ_iadd dX11_nightOf_18 (by omega) (by omega) (fun v3647 hv3647 => ?_)
  refine WP_aload_n dX11_nightOf_19 rfl ?_
  refine WP_aload_n dX11_nightOf_20 rfl ?_
  refine WQ_iconst (0) (0) dX11_nightOf_21 rfl rfl (fun v3648 hv3648 => ?_)
  refine WP_iload_n dX11_nightOf_22 rfl ?_
  refine WQ_iadd dX11_nightOf_23 (by omega) (by omega) (fun v3649 hv3649 => ?_)
  refine WQ_ialdr dX11_nightOf_24 (ly_is hy 39 13 rfl) (ly_n hy 39 35 rfl) (by omega) (by omega) (a := 0) (b := 4) (by omega) (by omega) (fun q hq1 hq2 => BT_get hI.1.1 39 0 4 (0) (0) (60) (by decide) q hq1 hq2) (fun v3650 av3650 bv3650 => ?_)
  refine WP_aload_n dX11_nightOf_25 rfl ?_
  refine WQ_iconst (4) (4) dX11_nightOf_26 rfl rfl (fun v3651 hv3651 => ?_)
  refine WP_iload_n dX11_nightOf_27 rfl ?_
  refine WQ_iadd dX11_nightOf_28 (by omega) (by omega) (fun v3652 hv3652 => ?_)
  refine WQ_ialdr dX11_nightOf_29 (ly_is hy 39 13 rfl) (ly_n hy 39 35 rfl) (by omega) (by omega) (a := 4) (b := 8) (by omega) (by omega) (fun q hq1 hq2 => BT_get hI.1.1 39 4 8 (0) (0) (5) (by decide) q hq1 hq2) (fun v3653 av3653 bv3653 => ?_)
  refine WP_aload_n dX11_nightOf_30 rfl ?_
  refine WP_iload_n dX11_nightOf_31 rfl ?_
  refine WP_callV1 (k := 11) dX11_nightOf_32 ⟨⟨⟨by decide, by decide⟩, zX11_loses⟩, lX11_414, by decide, rfl, vX11_loses.1, vX11_loses.2⟩ (ly_is hy 0 11 rfl) (sm_loses2 hy hr hI da (by omega) (by omega)) (Nat.le_of_ble_eq_true rfl) ?_
  intro r Ia Ja Ra hq
  obtain ⟨⟨ea, eb, ec⟩, v3654, rfl, av3654, bv3654⟩ := hq
  show WP _ _ _ _ (.int _ :: _) _ _ _ _
  rw [ea, eb, ec]
  clear ea eb ec Ia Ja Ra
  refine WP_callV3 (k := 11) dX11_nightOf_35 ⟨⟨⟨by decide, by decide⟩, zX11_behindNight⟩, lX11_398, by decide, rfl, vX11_behindNight.1, vX11_behindNight.2⟩ (ly_is hy 0 11 rfl) (sm_behindNight hy hr hI v3650 v3653 v3654 (by omega) (by omega) (by omega) (by omega) (by omega) (by omega)) (Nat.le_of_ble_eq_true rfl) ?_
  intro r Ia Ja Ra hq
  obtain ⟨⟨ea, eb, ec⟩, v3655, rfl, av3655, bv3655⟩ := hq
  show WP _ _ _ _ (.int _ :: _) _ _ _ _
  rw [ea, eb, ec]
  clear ea eb ec Ia Ja Ra
  refine WQ_iast dX11_nightOf_38 (ly_is hy 39 13 rfl) (ly_n hy 39 35 rfl) (by omega) (by omega) (fun I3656 eI3656 => ?_)
  have hI3656 : MP g n L I3656 := by rw [eI3656]; exact (mp_w hy hI (c := 39) (mi_rr hy hI.1 (c := 39) (0) (3) (0) (0) (60) (by decide) (Or.inl (by decide)) (by rw [cl (n := v3647.toInt.toNat) (by omega)]; omega) (by decide) (fun _ => ⟨by omega, by omega⟩)) (by decide) (by decide) (Or.inl (by decide)))
  have e3657 : I3656 (ad g 0) 1 = L := by rw [eI3656, pp_ne _ _ (Or.inl (ly_ne hy (by decide) (by decide) (by decide)))]; exact e3638
  have e3658 : I3656 (ad g 39) 32 = w3640 := by rw [eI3656, pp_ne _ _ (Or.inr (by rw [cl (x := v3647) (n := v3647.toInt.toNat) (by omega)]; omega))]; exact ew3640
  clear eI3656
  refine WP_aload_n dX11_nightOf_39 rfl ?_
  refine WQ_bipush (12) (12) dX11_nightOf_40 rfl rfl (fun v3659 hv3659 => ?_)
  refine WP_iload_n dX11_nightOf_42 rfl ?_
  refine WQ_iadd dX11_nightOf_43 (by omega) (by omega) (fun v3660 hv3660 => ?_)
  refine WP_dup2 dX11_nightOf_44 rfl rfl ?_
  refine WQ_ialdu dX11_nightOf_45 (ly_is hy 39 13 rfl) (ly_n hy 39 35 rfl) (by omega) (by omega) (fun v3661 => ?_)
  refine WP_iload dX11_nightOf_46 rfl ?_
  refine WP_aload_n dX11_nightOf_48 rfl ?_
  refine WP_getr dX11_nightOf_49 fX11_235 rfl (ly_is hy 0 11 rfl) (rf hr 0 26 8 (by decide)) ?_
  refine WP_iload_n dX11_nightOf_52 rfl ?_
  refine WQ_iald dX11_nightOf_53 (ly_is hy 8 13 rfl) (ly_n hy 8 4 rfl) (by omega) (by omega) (fun q hq => BT_get hI3656.1.1 8 0 4 (0) (0) (99) (by decide) q (Nat.zero_le _) hq) (fun v3662 av3662 bv3662 ev3662 => ?_)
  clear ev3662
  refine WQ_imulb (999) (99) dX11_nightOf_54 ⟨by omega, by omega⟩ ⟨by omega, by omega⟩ (by decide) (fun v3663 pv3663 av3663 bv3663 cv3663 => ?_)
  refine WQ_iaddu dX11_nightOf_55 (fun v3664 => ?_)
  refine WQ_iast dX11_nightOf_56 (ly_is hy 39 13 rfl) (ly_n hy 39 35 rfl) (by omega) (by omega) (fun I3665 eI3665 => ?_)
  have hI3665 : MP g n L I3665 := by rw [eI3665]; exact (mp_w hy hI3656 (c := 39) (mi_rr hy hI3656.1 (c := 39) (12) (15) (0) (0) (0) (by decide) (Or.inl (by decide)) (by rw [cl (n := v3660.toInt.toNat) (by omega)]; omega) (by decide) (fun h => absurd h (by decide))) (by decide) (by decide) (Or.inl (by decide)))
  have e3666 : I3665 (ad g 0) 1 = L := by rw [eI3665, pp_ne _ _ (Or.inl (ly_ne hy (by decide) (by decide) (by decide)))]; exact e3657
  have e3667 : I3665 (ad g 39) 32 = w3640 := by rw [eI3665, pp_ne _ _ (Or.inr (by rw [cl (x := v3660) (n := v3660.toInt.toNat) (by omega)]; omega))]; exact e3658
  clear eI3665
  refine WP_aload_n dX11_nightOf_57 rfl ?_
  refine WQ_bipush (32) (32) dX11_nightOf_58 rfl rfl (fun v3668 hv3668 => ?_)
  refine WP_dup2 dX11_nightOf_60 rfl rfl ?_
  refine WQ_ialdm (z := 32) dX11_nightOf_61 (ly_is hy 39 13 rfl) (ly_n hy 39 35 rfl) hv3668 (by decide) e3667 ?_
  refine WP_iload dX11_nightOf_62 rfl ?_
  refine WP_aload_n dX11_nightOf_64 rfl ?_
  refine WP_getr dX11_nightOf_65 fX11_235 rfl (ly_is hy 0 11 rfl) (rf hr 0 26 8 (by decide)) ?_
  refine WP_iload_n dX11_nightOf_68 rfl ?_
  refine WQ_iald dX11_nightOf_69 (ly_is hy 8 13 rfl) (ly_n hy 8 4 rfl) (by omega) (by omega) (fun q hq => BT_get hI3665.1.1 8 0 4 (0) (0) (99) (by decide) q (Nat.zero_le _) hq) (fun v3670 av3670 bv3670 ev3670 => ?_)
  clear ev3670
  refine WQ_imulb (999) (99) dX11_nightOf_70 ⟨by omega, by omega⟩ ⟨by omega, by omega⟩ (by decide) (fun v3671 pv3671 av3671 bv3671 cv3671 => ?_)
  refine WQ_iadd dX11_nightOf_71 (by omega) (by omega) (fun v3672 hv3672 => ?_)
  refine WQ_iast dX11_nightOf_72 (ly_is hy 39 13 rfl) (ly_n hy 39 35 rfl) (by omega) (by omega) (fun I3673 fI3673 => ?_)
  have eI3673 := fI3673
  rw [cl (x := v3668) (n := 32) (by omega)] at eI3673
  clear fI3673
  have hI3673 : MP g n L I3673 := by rw [eI3673]; exact (mp_w hy hI3665 (c := 39) (mi_f hy hI3665.1 (c := 39) (0) (23760) (700000) (by decide) (Or.inl (by decide)) (by decide) (by omega) (by omega)) (by decide) (by decide) (Or.inl (by decide)))
  have e3674 : I3673 (ad g 0) 1 = L := by rw [eI3673, pp_ne _ _ (Or.inl (ly_ne hy (by decide) (by decide) (by decide)))]; exact e3666
  have e3675 : I3673 (ad g 39) 32 = v3672 := by rw [eI3673, pp_self]
  clear eI3673
  refine WP_aload_n dX11_nightOf_73 rfl ?_
  refine WP_aload_n dX11_nightOf_74 rfl ?_
  refine WQ_iconst (4) (4) dX11_nightOf_75 rfl rfl (fun v3676 hv3676 => ?_)
  refine WP_iload_n dX11_nightOf_76 rfl ?_
  refine WQ_iadd dX11_nightOf_77 (by omega) (by omega) (fun v3677 hv3677 => ?_)
  refine WQ_ialdr dX11_nightOf_78 (ly_is hy 39 13 rfl) (ly_n hy 39 35 rfl) (by omega) (by omega) (a := 4) (b := 8) (by omega) (by omega) (fun q hq1 hq2 => BT_get hI3673.1.1 39 4 8 (0) (0) (5) (by decide) q hq1 hq2) (fun v3678 av3678 bv3678 => ?_)
  refine WP_callV1 (k := 11) dX11_nightOf_79 ⟨⟨⟨by decide, by decide⟩, zX11_leftOf⟩, lX11_420, by decide, rfl, vX11_leftOf.1, vX11_leftOf.2⟩ (ly_is hy 0 11 rfl) (sm_leftOf hy hr hI3673 v3678 (by omega) (by omega)) (Nat.le_of_ble_eq_true rfl) ?_
  intro r Ia Ja Ra hq
  obtain ⟨⟨ea, eb, ec⟩, v3679, rfl, av3679, bv3679⟩ := hq
  show WP _ _ _ _ (.int _ :: _) _ _ _ _
  rw [ea, eb, ec]
  clear ea eb ec Ia Ja Ra
  refine WP_istore (ls' := [(0, _), (1, _), (2, _), (3, _), (4, _), (5, _)]) dX11_nightOf_82 (by decide) rfl ?_
  refine WP_aload_n dX11_nightOf_84 rfl ?_
  refine WQ_bipush (20) (20) dX11_nightOf_85 rfl rfl (fun v3680 hv3680 => ?_)
  refine WP_iload_n dX11_nightOf_87 rfl ?_
  refine WQ_iadd dX11_nightOf_88 (by omega) (by omega) (fun v3681 hv3681 => ?_)
  refine WP_dup2 dX11_nightOf_89 rfl rfl ?_
  refine WQ_ialdu dX11_nightOf_90 (ly_is hy 39 13 rfl) (ly_n hy 39 35 rfl) (by omega) (by omega) (fun v3682 => ?_)
  refine WP_aload_n dX11_nightOf_91 rfl ?_
  refine WQ_iconst (4) (4) dX11_nightOf_92 rfl rfl (fun v3683 hv3683 => ?_)
  refine WP_iload_n dX11_nightOf_93 rfl ?_
  refine WQ_iadd dX11_nightOf_94 (by omega) (by omega) (fun v3684 hv3684 => ?_)
  refine WQ_ialdr dX11_nightOf_95 (ly_is hy 39 13 rfl) (ly_n hy 39 35 rfl) (by omega) (by omega) (a := 4) (b := 8) (by omega) (by omega) (fun q hq1 hq2 => BT_get hI3673.1.1 39 4 8 (0) (0) (5) (by decide) q hq1 hq2) (fun v3685 av3685 bv3685 => ?_)
  refine WP_iload dX11_nightOf_96 rfl ?_
  refine WQ_isub dX11_nightOf_98 (by omega) (by omega) (fun v3686 hv3686 => ?_)
  refine WP_aload_n dX11_nightOf_99 rfl ?_
  refine WP_getr dX11_nightOf_100 fX11_235 rfl (ly_is hy 0 11 rfl) (rf hr 0 26 8 (by decide)) ?_
  refine WP_iload_n dX11_nightOf_103 rfl ?_
  refine WQ_iald dX11_nightOf_104 (ly_is hy 8 13 rfl) (ly_n hy 8 4 rfl) (by omega) (by omega) (fun q hq => BT_get hI3673.1.1 8 0 4 (0) (0) (99) (by decide) q (Nat.zero_le _) hq) (fun v3687 av3687 bv3687 ev3687 => ?_)
  clear ev3687
  refine WQ_imulu dX11_nightOf_105 (fun v3688 => ?_)
  refine WQ_iaddu dX11_nightOf_106 (fun v3689 => ?_)
  refine WQ_iast dX11_nightOf_107 (ly_is hy 39 13 rfl) (ly_n hy 39 35 rfl) (by omega) (by omega) (fun I3690 eI3690 => ?_)
  have hI3690 : MP g n L I3690 := by rw [eI3690]; exact (mp_w hy hI3673 (c := 39) (mi_rr hy hI3673.1 (c := 39) (20) (23) (0) (0) (0) (by decide) (Or.inl (by decide)) (by rw [cl (n := v3681.toInt.toNat) (by omega)]; omega) (by decide) (fun h => absurd h (by decide))) (by decide) (by decide) (Or.inl (by decide)))
  have e3691 : I3690 (ad g 0) 1 = L := by rw [eI3690, pp_ne _ _ (Or.inl (ly_ne hy (by decide) (by decide) (by decide)))]; exact e3674
  have e3692 : I3690 (ad g 39) 32 = v3672 := by rw [eI3690, pp_ne _ _ (Or.inr (by rw [cl (x := v3681) (n := v3681.toInt.toNat) (by omega)]; omega))]; exact e3675
  clear eI3690
  refine WP_aload_n dX11_nightOf_108 rfl ?_
  refine WQ_iconst (4) (4) dX11_nightOf_109 rfl rfl (fun v3693 hv3693 => ?_)
  refine WP_iload_n dX11_nightOf_110 rfl ?_
  refine WQ_iadd dX11_nightOf_111 (by omega) (by omega) (fun v3694 hv3694 => ?_)
  refine WP_iload dX11_nightOf_112 rfl ?_
  refine WQ_iast dX11_nightOf_114 (ly_is hy 39 13 rfl) (ly_n hy 39 35 rfl) (by omega) (by omega) (fun I3695 eI3695 => ?_)
  have hI3695 : MP g n L I3695 := by rw [eI3695]; exact (mp_w hy hI3690 (c := 39) (mi_rr hy hI3690.1 (c := 39) (4) (7) (0) (0) (5) (by decide) (Or.inl (by decide)) (by rw [cl (n := v3694.toInt.toNat) (by omega)]; omega) (by decide) (fun _ => ⟨by omega, by omega⟩)) (by decide) (by decide) (Or.inl (by decide)))
  have e3696 : I3695 (ad g 0) 1 = L := by rw [eI3695, pp_ne _ _ (Or.inl (ly_ne hy (by decide) (by decide) (by decide)))]; exact e3691
  have e3697 : I3695 (ad g 39) 32 = v3672 := by rw [eI3695, pp_ne _ _ (Or.inr (by rw [cl (x := v3694) (n := v3694.toInt.toNat) (by omega)]; omega))]; exact e3692
  clear eI3695
  exact WP_vret dX11_nightOf_115 rfl ⟨⟨hI3695, rfl, (by rw [e3697, ew3640]; omega)⟩, rfl⟩
