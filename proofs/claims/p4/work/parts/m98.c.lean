set_option maxHeartbeats 4000000 in
set_option maxRecDepth 100000 in
theorem sm_sortDay_38 {g : GG} {n : Int} {L : Int32} (hy : Ly g)  {I : pI} {J : pJ} {R : pR} (hr : Rf g R) (hI : MP g n L I) (so : Int32) (da : Int32) (so_lo : 0 ≤ so.toInt) (so_hi : so.toInt ≤ 3) (da_lo : 0 ≤ da.toInt) (da_hi : da.toInt ≤ 6) (hb : so.toInt < (I (ad g 0) 10).toInt) : SP g mX11_sortDay [.ref (ad g 0), .ref (ad g 38), .int so, .int da] I J R (fun r I' J' R' => (MP g n L I' ∧ R' = R ∧ fz 49 g [0, 35, 36, 37, 40, 41, 38] I I' ∧ J' = J ∧ fs g [56] I I' ∧ True ∧ I' (ad g 38) 32 = I (ad g 38) 32 ∧ I' (ad g 38) 33 = I (ad g 38) 33 ∧ I' (ad g 0) 10 = I (ad g 0) 10 ∧ I' (ad g 0) 14 = I (ad g 0) 14 ∧ I' (ad g 0) 68 = I (ad g 0) 68) ∧ ∃ v : Int64, r = some (.long v)) := by
  refine SP_of ⟨by decide, rfl⟩ (Nat.le_of_ble_eq_true rfl) ?_
  have e5080 : I (ad g 0) 1 = L := hI.1.2
  have b5081 := BT_get hI.1.1 0 1 2 (0) (0) (900) (by decide) 1 (by decide) (by decide)
  rw [e5080] at b5081
  have fr0 : fz 49 g [0, 35, 36, 37, 40, 41, 38] I I := fz_rf
  have frq0 : fs g [56] I I := fs_rf
  obtain ⟨w5082, ew5082⟩ : ∃ w : Int32, I (ad g 38) 32 = w := ⟨_, rfl⟩
  have bw5082 := BT_get hI.1.1 38 32 33 (0) (23760) (0) (by decide) 32 (by decide) (by decide)
  rw [ew5082] at bw5082
  obtain ⟨w5083, ew5083⟩ : ∃ w : Int32, I (ad g 38) 33 = w := ⟨_, rfl⟩
  have bw5083 := BT_get hI.1.1 38 33 34 (0) (1) (0) (by decide) 33 (by decide) (by decide)
  rw [ew5083] at bw5083
  obtain ⟨w5084, ew5084⟩ : ∃ w : Int32, I (ad g 0) 10 = w := ⟨_, rfl⟩
  have bw5084 := BT_get hI.1.1 0 10 11 (0) (0) (4) (by decide) 10 (by decide) (by decide)
  rw [ew5084] at bw5084
  obtain ⟨w5085, ew5085⟩ : ∃ w : Int32, I (ad g 0) 14 = w := ⟨_, rfl⟩
  have bw5085 := BT_get hI.1.1 0 14 15 (-1) (0) (2) (by decide) 14 (by decide) (by decide)
  rw [ew5085] at bw5085
  obtain ⟨w5086, ew5086⟩ : ∃ w : Int32, I (ad g 0) 68 = w := ⟨_, rfl⟩
  rw [ew5084] at hb
  refine WQ_bipush (7) (7) dX11_sortDay_0 rfl rfl (fun v5087 hv5087 => ?_)
  refine WP_iload_n dX11_sortDay_2 rfl ?_
  refine WQ_imulK (7) dX11_sortDay_3 hv5087 (by omega) (by omega) (fun v5088 hv5088 => ?_)
  refine WP_iload_n dX11_sortDay_4 rfl ?_
  refine WQ_iadd dX11_sortDay_5 (by omega) (by omega) (fun v5089 hv5089 => ?_)
  refine WP_istore (ls' := [(0, _), (1, _), (2, _), (3, _), (4, _)]) dX11_sortDay_6 (by decide) rfl ?_
  refine WP_aload_n dX11_sortDay_8 rfl ?_
  refine WP_iload_n dX11_sortDay_9 rfl ?_
  refine WP_iload_n dX11_sortDay_10 rfl ?_
  refine WP_aload_n dX11_sortDay_11 rfl ?_
  refine WQ_iconst (0) (0) dX11_sortDay_12 rfl rfl (fun v5090 hv5090 => ?_)
  refine WP_iload_n dX11_sortDay_13 rfl ?_
  refine WQ_iadd dX11_sortDay_14 (by omega) (by omega) (fun v5091 hv5091 => ?_)
  refine WQ_ialdr dX11_sortDay_15 (ly_is hy 38 13 rfl) (ly_n hy 38 35 rfl) (by omega) (by omega) (a := 0) (b := 4) (by omega) (by omega) (fun q hq1 hq2 => BT_get hI.1.1 38 0 4 (0) (0) (60) (by decide) q hq1 hq2) (fun v5092 av5092 bv5092 => ?_)
  refine WP_callV3 (k := 11) dX11_sortDay_16 ⟨⟨⟨by decide, by decide⟩, zX11_earned⟩, lX11_426, by decide, rfl, vX11_earned.1, vX11_earned.2⟩ (ly_is hy 0 11 rfl) (sm_earned hy hr hI so da v5092 (by omega) (by omega) (by omega) (by omega) (by omega) (by omega)) (Nat.le_of_ble_eq_true rfl) ?_
  intro r Ia Ja Ra hq
  obtain ⟨⟨ea, eb, ec⟩, v5093, rfl, av5093, bv5093⟩ := hq
  show WP _ _ _ _ (.int _ :: _) _ _ _ _
  rw [ea, eb, ec]
  clear ea eb ec Ia Ja Ra
  refine WP_istore (ls' := [(0, _), (1, _), (2, _), (3, _), (4, _), (5, _)]) dX11_sortDay_19 (by decide) rfl ?_
  refine WP_aload_n dX11_sortDay_21 rfl ?_
  refine WP_iload_n dX11_sortDay_22 rfl ?_
  refine WP_iload_n dX11_sortDay_23 rfl ?_
  refine WP_aload_n dX11_sortDay_24 rfl ?_
  refine WP_aload_n dX11_sortDay_25 rfl ?_
  refine WQ_bipush (28) (28) dX11_sortDay_26 rfl rfl (fun v5094 hv5094 => ?_)
  refine WP_iload_n dX11_sortDay_28 rfl ?_
  refine WQ_iadd dX11_sortDay_29 (by omega) (by omega) (fun v5095 hv5095 => ?_)
  refine WQ_ialdu dX11_sortDay_30 (ly_is hy 38 13 rfl) (ly_n hy 38 35 rfl) (by omega) (by omega) (fun v5096 => ?_)
  refine WP_iload_n dX11_sortDay_31 rfl ?_
  refine WP_iload_n dX11_sortDay_32 rfl ?_
  refine WP_iload dX11_sortDay_33 rfl ?_
  refine WP_aload_n dX11_sortDay_35 rfl ?_
  refine WQ_iconst (4) (4) dX11_sortDay_36 rfl rfl (fun v5097 hv5097 => ?_)
  refine WP_iload_n dX11_sortDay_37 rfl ?_
  refine WQ_iadd dX11_sortDay_38 (by omega) (by omega) (fun v5098 hv5098 => ?_)
  refine WQ_ialdq (q := v5098.toInt.toNat) dX11_sortDay_39 (ly_is hy 38 13 rfl) (ly_n hy 38 35 rfl) (by omega) (by omega) (by omega) (BT_get hI.1.1 38 4 8 (0) (0) (5) (by decide) _ (by omega) (by omega)) (fun v5099 av5099 bv5099 zv5099 => ?_)
  have yv5099 : I (ad g 38) (4 + so.toInt).toNat = v5099 := by rw [← zv5099, cl (x := v5098) (n := (4 + so.toInt).toNat) (by omega)]
  refine WP_callV5 (k := 11) dX11_sortDay_40 ⟨⟨⟨by decide, by decide⟩, zX11_actOf⟩, lX11_457, by decide, rfl, vX11_actOf.1, vX11_actOf.2⟩ (ly_is hy 0 11 rfl) (sm_actOf hy hr hI v5096 so da v5093 v5099  (by omega) (by omega) (by omega) (by omega) (by omega) (by omega) (by omega) (by omega)) (Nat.le_of_ble_eq_true rfl) ?_
  intro r I5100 J5101 Ra hq
  obtain ⟨⟨hI5100, ec, fiI5100, ejI5100, fqI5100, ⟨pI5100, sI5100_0_10, sI5100_0_14, sI5100_0_68⟩⟩, v5102, rfl, av5102, bv5102, cv5102⟩ := hq
  show WP _ _ _ _ (.int _ :: _) _ _ _ _
  rw [ec]
  clear ec Ra
  have fr5103 : fz 49 g [0, 35, 36, 37, 40, 41, 38] I I5100 := fz_tr fr0 (fz_mono fiI5100 (by decide))
  have fr5104 : fs g [56] I I5100 := fs_tr frq0 (fs_mono fqI5100 (by decide))
  rw [ejI5100]
  clear ejI5100 J5101
  have YI5100 : I5100 (ad g 38) (4 + so.toInt).toNat = v5099 := by rw [fz_at fiI5100 38 (by decide) (by decide)]; exact yv5099
  have e5105 : I5100 (ad g 0) 10 = w5084 := by rw [sI5100_0_10]; exact ew5084
  have e5106 : I5100 (ad g 0) 14 = w5085 := by rw [sI5100_0_14]; exact ew5085
  have e5107 : I5100 (ad g 0) 68 = w5086 := by rw [sI5100_0_68]; exact ew5086
  have e5108 : I5100 (ad g 38) 32 = w5082 := by rw [fz_at fiI5100 38 (by decide) (by decide)]; exact ew5082
  have e5109 : I5100 (ad g 38) 33 = w5083 := by rw [fz_at fiI5100 38 (by decide) (by decide)]; exact ew5083
  have e5110 : I5100 (ad g 0) 1 = L := hI5100.1.2
  have b5111 := BT_get hI5100.1.1 0 1 2 (0) (0) (900) (by decide) 1 (by decide) (by decide)
  rw [e5110] at b5111
  have am := cv5102
  rw [← fz_at fiI5100 22 (by decide) (by decide), ← fz_at fiI5100 24 (by decide) (by decide), ← fz_at fiI5100 25 (by decide) (by decide), ← sI5100_0_14] at am
  refine WP_callV3 (k := 11) dX11_sortDay_43 ⟨⟨⟨by decide, by decide⟩, zX11_cutAct⟩, lX11_461, by decide, rfl, vX11_cutAct.1, vX11_cutAct.2⟩ (ly_is hy 0 11 rfl) (sm_cutAct hy hr hI5100 so da v5102 (by omega) (by omega) (by omega) (by omega) (by omega) (by omega) (by rw [e5105]; omega)) (Nat.le_of_ble_eq_true rfl) ?_
  intro r Ia Ja Ra hq
  obtain ⟨⟨ea, eb, ec⟩, v5112, rfl, av5112, bv5112, cv5112⟩ := hq
  show WP _ _ _ _ (.int _ :: _) _ _ _ _
  rw [ea, eb, ec]
  clear ea eb ec Ia Ja Ra
  refine WP_istore (ls' := [(0, _), (1, _), (2, _), (3, _), (4, _), (5, _), (6, _)]) dX11_sortDay_46 (by decide) rfl ?_
  refine WP_aload_n dX11_sortDay_48 rfl ?_
  refine WP_iload_n dX11_sortDay_49 rfl ?_
  refine WP_iload_n dX11_sortDay_50 rfl ?_
  refine WP_iload dX11_sortDay_51 rfl ?_
  refine WP_callV3 (k := 11) dX11_sortDay_53 ⟨⟨⟨by decide, by decide⟩, zX11_paysFor⟩, lX11_405, by decide, rfl, vX11_paysFor.1, vX11_paysFor.2⟩ (ly_is hy 0 11 rfl) (sm_paysx hy hr hI5100 so da v5112 (by omega) (by omega) (by omega) (by omega) (by omega) (by omega)) (Nat.le_of_ble_eq_true rfl) ?_
  intro r Ia Ja Ra hq
  obtain ⟨⟨ea, eb, ec⟩, v5113, rfl, av5113, bv5113, cv5113⟩ := hq
  show WP _ _ _ _ (.int _ :: _) _ _ _ _
  rw [ea, eb, ec]
  clear ea eb ec Ia Ja Ra
  have cu := cv5112
  unfold AM AOKm at am
  obtain ⟨a0, a47, af, as, ap, au, aq⟩ := am
  unfold CUT at cu
  obtain ⟨u0, u1, u2, u3, u4, u5, u6⟩ := cu
  have b24 := BT_get hI5100.1.1 24 0 28 (-1) (0) (2) (by decide) (7 * so.toInt + da.toInt).toNat (Nat.zero_le _) (by omega)
  obtain ⟨e3, he3⟩ : ∃ z : Int, CA (I5100 (ad g 22)) (I5100 (ad g 24) (7 * so.toInt + da.toInt).toNat).toInt da.toInt = z := ⟨_, rfl⟩
  obtain ⟨e4, he4⟩ : ∃ z : Int, CA (I5100 (ad g 22)) (I5100 (ad g 0) 14).toInt da.toInt = z := ⟨_, rfl⟩
  have n3 : 0 ≤ e3 := by rw [← he3]; exact ca_nn hI5100 (by omega) (by omega) (by omega) (by omega)
  have n4 : 0 ≤ e4 := by rw [← he4]; exact ca_nn hI5100 (by rw [e5106]; omega) (by rw [e5106]; omega) (by omega) (by omega)
  have cp := cv5113
  rw [he3, he4] at cp ap
  have k1 : (v5112.toInt % 4) * e3 ≤ (v5102.toInt % 4) * e3 := Int.mul_le_mul_of_nonneg_right (by omega) n3
  have k2 : (v5112.toInt / 16) * e4 ≤ (v5102.toInt / 16) * e4 := Int.mul_le_mul_of_nonneg_right (by omega) n4
  have kp : v5113.toInt ≤ v5093.toInt := by omega
  have k5 : v5112.toInt / 4 % 4 ≤ v5099.toInt := by omega
  have k6 : v5099.toInt - v5112.toInt / 4 % 4 + v5112.toInt / 16 ≤ 5 := by omega
  refine WP_istore (ls' := [(0, _), (1, _), (2, _), (3, _), (4, _), (5, _), (6, _), (7, _)]) dX11_sortDay_56 (by decide) rfl ?_
  refine WP_aload_n dX11_sortDay_58 rfl ?_
  refine WP_aload_n dX11_sortDay_59 rfl ?_
  refine WP_getr dX11_sortDay_60 fX11_261 rfl (ly_is hy 0 11 rfl) (rf hr 0 42 24 (by decide)) ?_
  refine WP_iload dX11_sortDay_63 rfl ?_
  refine WQ_iald dX11_sortDay_65 (ly_is hy 24 13 rfl) (ly_n hy 24 28 rfl) (by omega) (by omega) (fun q hq => BT_get hI5100.1.1 24 0 28 (-1) (0) (2) (by decide) q (Nat.zero_le _) hq) (fun v5114 av5114 bv5114 ev5114 => ?_)
  refine WP_iload_n dX11_sortDay_66 rfl ?_
  refine WP_iload dX11_sortDay_67 rfl ?_
  refine WQ_iconst (4) (4) dX11_sortDay_69 rfl rfl (fun v5115 hv5115 => ?_)
  refine WQ_iremk (4) dX11_sortDay_70 hv5115 (by decide) (by omega) (fun v5116 hv5116 => ?_)
  refine WP_aload_n dX11_sortDay_71 rfl ?_
  refine WP_getr dX11_sortDay_72 fX11_235 rfl (ly_is hy 0 11 rfl) (rf hr 0 26 8 (by decide)) ?_
  refine WP_iload_n dX11_sortDay_75 rfl ?_
  refine WQ_ialdq (q := so.toInt.toNat) dX11_sortDay_76 (ly_is hy 8 13 rfl) (ly_n hy 8 4 rfl) (by omega) (by omega) (by omega) (pp_get hI5100 (by omega) (by rw [e5105]; omega)) (fun v5117 av5117 bv5117 ev5117 => ?_)
  refine WQ_imulb (3) (99) dX11_sortDay_77 ⟨by omega, by omega⟩ ⟨by omega, by omega⟩ (by decide) (fun v5118 pv5118 av5118 bv5118 cv5118 => ?_)
  have ew : I5100 (ad g 24) (7 * so.toInt + da.toInt).toNat = v5114 := by rw [← cl (x := v5089) (n := (7 * so.toInt + da.toInt).toNat) (by omega)]; exact ev5114
  have ep : (I5100 (ad g 8) so.toInt.toNat).toInt = v5117.toInt := by rw [← cl (x := so) (n := so.toInt.toNat) (by omega), ev5117]
  have hu1 : v5118.toInt = (v5112.toInt % 4) * v5117.toInt := by have q := pv5118; rw [hv5116] at q; exact q
  have hw1 : v5112.toInt % 4 = 0 ∨ v5114.toInt ≠ -1 := by
    by_cases z : v5112.toInt % 4 = 0
    · exact Or.inl z
    · right; rw [← ew]; exact wi_get hI5100 (by rw [e5105]; omega) (by omega)
  rw [ew] at u5 u6
  refine WP_callV3 (k := 11) dX11_sortDay_78 ⟨⟨⟨by decide, by decide⟩, zX11_takes⟩, lX11_464, by decide, rfl, vX11_takes.1, vX11_takes.2⟩ (ly_is hy 0 11 rfl) (sm_takes hy hr hI5100 v5114 da v5118 (by omega) (by omega) (by omega) (by omega) (by omega) (by omega) (tk1 u5 ep (by omega) hu1 hw1 (by omega))) (Nat.le_of_ble_eq_true rfl) ?_
  intro r I5119 J5120 Ra hq
  obtain ⟨⟨hI5119, ec, fiI5119, ejI5119, fqI5119, pI5119⟩, rfl⟩ := hq
  rw [ec]
  clear ec Ra
  have fr5121 : fz 49 g [0, 35, 36, 37, 40, 41, 38] I I5119 := fz_tr fr5103 (fz_mono fiI5119 (by decide))
  have fr5122 : fs g [56] I I5119 := fs_tr fr5104 (fs_mono fqI5119 (by decide))
  rw [ejI5119]
  clear ejI5119 J5120
  have YI5119 : I5119 (ad g 38) (4 + so.toInt).toNat = v5099 := by rw [fz_at fiI5119 38 (by decide) (by decide)]; exact YI5100
  have e5123 : I5119 (ad g 0) 10 = w5084 := by rw [fz_at fiI5119 0 (by decide) (by decide)]; exact e5105
  have e5124 : I5119 (ad g 0) 14 = w5085 := by rw [fz_at fiI5119 0 (by decide) (by decide)]; exact e5106
  have e5125 : I5119 (ad g 0) 68 = w5086 := by rw [fz_at fiI5119 0 (by decide) (by decide)]; exact e5107
  have e5126 : I5119 (ad g 38) 32 = w5082 := by rw [fz_at fiI5119 38 (by decide) (by decide)]; exact e5108
  have e5127 : I5119 (ad g 38) 33 = w5083 := by rw [fz_at fiI5119 38 (by decide) (by decide)]; exact e5109
  have e5128 : I5119 (ad g 24) v5089.toNatClampNeg = v5114 := by rw [fz_at fiI5119 24 (by decide) (by decide)]; exact ev5114
  have e5129 : I5119 (ad g 8) so.toNatClampNeg = v5117 := by rw [fz_at fiI5119 8 (by decide) (by decide)]; exact ev5117
  have e5130 : I5119 (ad g 0) 1 = L := hI5119.1.2
  have b5131 := BT_get hI5119.1.1 0 1 2 (0) (0) (900) (by decide) 1 (by decide) (by decide)
  rw [e5130] at b5131
  refine WP_aload_n dX11_sortDay_81 rfl ?_
  refine WP_aload_n dX11_sortDay_82 rfl ?_
  refine WQ_getim dX11_sortDay_83 fX11_224 rfl (ly_is hy 0 11 rfl) e5124 ?_
  refine WP_iload_n dX11_sortDay_86 rfl ?_
  refine WP_iload dX11_sortDay_87 rfl ?_
  refine WQ_bipush (16) (16) dX11_sortDay_89 rfl rfl (fun v5132 hv5132 => ?_)
  refine WQ_idivk (16) dX11_sortDay_91 hv5132 (by decide) (by omega) (fun v5133 hv5133 => ?_)
  refine WP_aload_n dX11_sortDay_92 rfl ?_
  refine WP_getr dX11_sortDay_93 fX11_235 rfl (ly_is hy 0 11 rfl) (rf hr 0 26 8 (by decide)) ?_
  refine WP_iload_n dX11_sortDay_96 rfl ?_
  refine WQ_ialdq (q := so.toInt.toNat) dX11_sortDay_97 (ly_is hy 8 13 rfl) (ly_n hy 8 4 rfl) (by omega) (by omega) (by omega) (pp_get hI5119 (by omega) (by rw [e5123]; omega)) (fun v5134 av5134 bv5134 ev5134 => ?_)
  refine WQ_imulb (2) (99) dX11_sortDay_98 ⟨by omega, by omega⟩ ⟨by omega, by omega⟩ (by decide) (fun v5135 pv5135 av5135 bv5135 cv5135 => ?_)
  have e14 : I5100 (ad g 0) 14 = w5085 := e5106
  rw [e14] at u6 aq
  have ep2 : (I5100 (ad g 8) so.toInt.toNat).toInt = v5134.toInt := by rw [← fz_at fiI5119 8 (by decide) (by decide), ← cl (x := so) (n := so.toInt.toNat) (by omega), ev5134]
  have hu2 : v5135.toInt = (v5112.toInt / 16) * v5134.toInt := by have q := pv5135; rw [hv5133] at q; exact q
  have hpp : v5117.toInt = v5134.toInt := by omega
  rw [hpp] at hu1
  refine WP_callV3 (k := 11) dX11_sortDay_99 ⟨⟨⟨by decide, by decide⟩, zX11_takes⟩, lX11_464, by decide, rfl, vX11_takes.1, vX11_takes.2⟩ (ly_is hy 0 11 rfl) (sm_takes hy hr hI5119 w5085 da v5135 (by omega) (by omega) (by omega) (by omega) (by omega) (by omega) (tk2 pI5119 u6 (by omega) ep2 (by omega) hu1 hu2 (by omega) (by omega))) (Nat.le_of_ble_eq_true rfl) ?_
  intro r I5136 J5137 Ra hq
  obtain ⟨⟨hI5136, ec, fiI5136, ejI5136, fqI5136, pI5136⟩, rfl⟩ := hq
  rw [ec]
  clear ec Ra
  have fr5138 : fz 49 g [0, 35, 36, 37, 40, 41, 38] I I5136 := fz_tr fr5121 (fz_mono fiI5136 (by decide))
  have fr5139 : fs g [56] I I5136 := fs_tr fr5122 (fs_mono fqI5136 (by decide))
  rw [ejI5136]
  clear ejI5136 J5137
  have YI5136 : I5136 (ad g 38) (4 + so.toInt).toNat = v5099 := by rw [fz_at fiI5136 38 (by decide) (by decide)]; exact YI5119
  have e5140 : I5136 (ad g 0) 10 = w5084 := by rw [fz_at fiI5136 0 (by decide) (by decide)]; exact e5123
  have e5141 : I5136 (ad g 0) 14 = w5085 := by rw [fz_at fiI5136 0 (by decide) (by decide)]; exact e5124
  have e5142 : I5136 (ad g 0) 68 = w5086 := by rw [fz_at fiI5136 0 (by decide) (by decide)]; exact e5125
  have e5143 : I5136 (ad g 38) 32 = w5082 := by rw [fz_at fiI5136 38 (by decide) (by decide)]; exact e5126
  have e5144 : I5136 (ad g 38) 33 = w5083 := by rw [fz_at fiI5136 38 (by decide) (by decide)]; exact e5127
  have e5145 : I5136 (ad g 24) v5089.toNatClampNeg = v5114 := by rw [fz_at fiI5136 24 (by decide) (by decide)]; exact e5128
  have e5146 : I5136 (ad g 8) so.toNatClampNeg = v5134 := by rw [fz_at fiI5136 8 (by decide) (by decide)]; exact ev5134
  have e5147 : I5136 (ad g 0) 1 = L := hI5136.1.2
  have b5148 := BT_get hI5136.1.1 0 1 2 (0) (0) (900) (by decide) 1 (by decide) (by decide)
  rw [e5147] at b5148
  refine WP_aload_n dX11_sortDay_102 rfl ?_
  refine WQ_iconst (0) (0) dX11_sortDay_103 rfl rfl (fun v5149 hv5149 => ?_)
  refine WP_iload_n dX11_sortDay_104 rfl ?_
  refine WQ_iadd dX11_sortDay_105 (by omega) (by omega) (fun v5150 hv5150 => ?_)
  refine WP_iload dX11_sortDay_106 rfl ?_
  refine WP_iload dX11_sortDay_108 rfl ?_
  refine WQ_isub dX11_sortDay_110 (by omega) (by omega) (fun v5151 hv5151 => ?_)
  refine WQ_iast dX11_sortDay_111 (ly_is hy 38 13 rfl) (ly_n hy 38 35 rfl) (by omega) (by omega) (fun I5152 eI5152 => ?_)
  have hI5152 : MP g n L I5152 := by rw [eI5152]; exact (mp_w hy hI5136 (c := 38) (mi_rr hy hI5136.1 (c := 38) (0) (3) (0) (0) (60) (by decide) (Or.inl (by decide)) (by rw [cl (n := v5150.toInt.toNat) (by omega)]; omega) (by decide) (fun _ => ⟨by omega, by omega⟩)) (by decide) (by decide) (Or.inl (by decide)))
  have e5153 : I5152 (ad g 0) 10 = w5084 := by rw [eI5152, pp_ne _ _ (Or.inl (ly_ne hy (by decide) (by decide) (by decide)))]; exact e5140
  have e5154 : I5152 (ad g 0) 14 = w5085 := by rw [eI5152, pp_ne _ _ (Or.inl (ly_ne hy (by decide) (by decide) (by decide)))]; exact e5141
  have e5155 : I5152 (ad g 0) 68 = w5086 := by rw [eI5152, pp_ne _ _ (Or.inl (ly_ne hy (by decide) (by decide) (by decide)))]; exact e5142
  have e5156 : I5152 (ad g 38) 32 = w5082 := by rw [eI5152, pp_ne _ _ (Or.inr (by rw [cl (x := v5150) (n := v5150.toInt.toNat) (by omega)]; omega))]; exact e5143
  have e5157 : I5152 (ad g 38) 33 = w5083 := by rw [eI5152, pp_ne _ _ (Or.inr (by rw [cl (x := v5150) (n := v5150.toInt.toNat) (by omega)]; omega))]; exact e5144
  have e5158 : I5152 (ad g 24) v5089.toNatClampNeg = v5114 := by rw [eI5152, pp_ne _ _ (Or.inl (ly_ne hy (by decide) (by decide) (by decide)))]; exact e5145
  have e5159 : I5152 (ad g 8) so.toNatClampNeg = v5134 := by rw [eI5152, pp_ne _ _ (Or.inl (ly_ne hy (by decide) (by decide) (by decide)))]; exact e5146
  have e5160 : I5152 (ad g 0) 1 = L := by rw [eI5152, pp_ne _ _ (Or.inl (ly_ne hy (by decide) (by decide) (by decide)))]; exact e5147
  have fr5161 : fs g [56] I I5152 := by rw [eI5152]; exact fs_ppn hy fr5139 (by decide) (by decide)
  have fr5162 : fz 49 g [0, 35, 36, 37, 40, 41, 38] I I5152 := by rw [eI5152]; exact fzm_pp hy fr5138 (by decide) (by decide)
  have YI5152 : I5152 (ad g 38) (4 + so.toInt).toNat = v5099 := by rw [eI5152, pp_ne _ _ (Or.inr (by rw [cl (x := v5150) (n := v5150.toInt.toNat) (by omega)]; omega))]; exact YI5136
  clear eI5152
  refine WP_aload_n dX11_sortDay_112 rfl ?_
  refine WQ_iconst (4) (4) dX11_sortDay_113 rfl rfl (fun v5163 hv5163 => ?_)
  refine WP_iload_n dX11_sortDay_114 rfl ?_
  refine WQ_iadd dX11_sortDay_115 (by omega) (by omega) (fun v5164 hv5164 => ?_)
  refine WP_dup2 dX11_sortDay_116 rfl rfl ?_
  refine WQ_ialdq (q := v5164.toInt.toNat) dX11_sortDay_117 (ly_is hy 38 13 rfl) (ly_n hy 38 35 rfl) (by omega) (by omega) (by omega) (BT_get hI5152.1.1 38 4 8 (0) (0) (5) (by decide) _ (by omega) (by omega)) (fun v5165 av5165 bv5165 zv5165 => ?_)
  have tv5165 : v5165.toInt = v5099.toInt := by rw [← zv5165, cl (x := v5164) (n := (4 + so.toInt).toNat) (by omega), YI5152]
  refine WP_iload dX11_sortDay_118 rfl ?_
  refine WQ_bipush (16) (16) dX11_sortDay_120 rfl rfl (fun v5166 hv5166 => ?_)
  refine WQ_idivk (16) dX11_sortDay_122 hv5166 (by decide) (by omega) (fun v5167 hv5167 => ?_)
  refine WP_iload dX11_sortDay_123 rfl ?_
  refine WQ_iconst (4) (4) dX11_sortDay_125 rfl rfl (fun v5168 hv5168 => ?_)
  refine WQ_idivk (4) dX11_sortDay_126 hv5168 (by decide) (by omega) (fun v5169 hv5169 => ?_)
  refine WQ_iconst (4) (4) dX11_sortDay_127 rfl rfl (fun v5170 hv5170 => ?_)
  refine WQ_iremk (4) dX11_sortDay_128 hv5170 (by decide) (by omega) (fun v5171 hv5171 => ?_)
  have q1 : v5171.toInt = v5112.toInt / 4 % 4 := by omega
  have q2 : v5167.toInt = v5112.toInt / 16 := by omega
  refine WQ_isub dX11_sortDay_129 (by omega) (by omega) (fun v5172 hv5172 => ?_)
  refine WQ_iadd dX11_sortDay_130 (by omega) (by omega) (fun v5173 hv5173 => ?_)
  have fin : 0 ≤ v5173.toInt ∧ v5173.toInt ≤ 5 := by clear u5 u6 aq hw1 au hu1 hu2 k1 k2 ap cp u2 u3 u4 af as; omega
  clear q1 q2 u5 u6 aq hw1 au hu1 hu2 k1 k2 ap cp u2 u3 u4 af as k5 k6
  refine WQ_iast dX11_sortDay_131 (ly_is hy 38 13 rfl) (ly_n hy 38 35 rfl) (by omega) (by omega) (fun I5174 eI5174 => ?_)
  have hI5174 : MP g n L I5174 := by rw [eI5174]; exact (mp_w hy hI5152 (c := 38) (mi_rr hy hI5152.1 (c := 38) (4) (7) (0) (0) (5) (by decide) (Or.inl (by decide)) (by rw [cl (n := v5164.toInt.toNat) (by omega)]; omega) (by decide) (fun _ => ⟨by omega, by omega⟩)) (by decide) (by decide) (Or.inl (by decide)))
  have e5175 : I5174 (ad g 0) 10 = w5084 := by rw [eI5174, pp_ne _ _ (Or.inl (ly_ne hy (by decide) (by decide) (by decide)))]; exact e5153
  have e5176 : I5174 (ad g 0) 14 = w5085 := by rw [eI5174, pp_ne _ _ (Or.inl (ly_ne hy (by decide) (by decide) (by decide)))]; exact e5154
  have e5177 : I5174 (ad g 0) 68 = w5086 := by rw [eI5174, pp_ne _ _ (Or.inl (ly_ne hy (by decide) (by decide) (by decide)))]; exact e5155
  have e5178 : I5174 (ad g 38) 32 = w5082 := by rw [eI5174, pp_ne _ _ (Or.inr (by rw [cl (x := v5164) (n := v5164.toInt.toNat) (by omega)]; omega))]; exact e5156
  have e5179 : I5174 (ad g 38) 33 = w5083 := by rw [eI5174, pp_ne _ _ (Or.inr (by rw [cl (x := v5164) (n := v5164.toInt.toNat) (by omega)]; omega))]; exact e5157
  have e5180 : I5174 (ad g 24) v5089.toNatClampNeg = v5114 := by rw [eI5174, pp_ne _ _ (Or.inl (ly_ne hy (by decide) (by decide) (by decide)))]; exact e5158
  have e5181 : I5174 (ad g 8) so.toNatClampNeg = v5134 := by rw [eI5174, pp_ne _ _ (Or.inl (ly_ne hy (by decide) (by decide) (by decide)))]; exact e5159
  have e5182 : I5174 (ad g 0) 1 = L := by rw [eI5174, pp_ne _ _ (Or.inl (ly_ne hy (by decide) (by decide) (by decide)))]; exact e5160
  have fr5183 : fs g [56] I I5174 := by rw [eI5174]; exact fs_ppn hy fr5161 (by decide) (by decide)
  have fr5184 : fz 49 g [0, 35, 36, 37, 40, 41, 38] I I5174 := by rw [eI5174]; exact fzm_pp hy fr5162 (by decide) (by decide)
  clear eI5174
  refine WP_aload_n dX11_sortDay_132 rfl ?_
  refine WQ_bipush (8) (8) dX11_sortDay_133 rfl rfl (fun v5185 hv5185 => ?_)
  refine WP_iload_n dX11_sortDay_135 rfl ?_
  refine WQ_iadd dX11_sortDay_136 (by omega) (by omega) (fun v5186 hv5186 => ?_)
  refine WP_dup2 dX11_sortDay_137 rfl rfl ?_
  refine WQ_ialdu dX11_sortDay_138 (ly_is hy 38 13 rfl) (ly_n hy 38 35 rfl) (by omega) (by omega) (fun v5187 => ?_)
  refine WP_iload dX11_sortDay_139 rfl ?_
  refine WP_aload_n dX11_sortDay_141 rfl ?_
  refine WP_getr dX11_sortDay_142 fX11_235 rfl (ly_is hy 0 11 rfl) (rf hr 0 26 8 (by decide)) ?_
  refine WP_iload_n dX11_sortDay_145 rfl ?_
  refine WQ_ialdq (q := so.toInt.toNat) dX11_sortDay_146 (ly_is hy 8 13 rfl) (ly_n hy 8 4 rfl) (by omega) (by omega) (by omega) (pp_get hI5174 (by omega) (by rw [e5175]; omega)) (fun v5188 av5188 bv5188 ev5188 => ?_)
  refine WQ_imulb (60) (99) dX11_sortDay_147 ⟨by omega, by omega⟩ ⟨by omega, by omega⟩ (by decide) (fun v5189 pv5189 av5189 bv5189 cv5189 => ?_)
  refine WQ_iaddu dX11_sortDay_148 (fun v5190 => ?_)
  refine WQ_iast dX11_sortDay_149 (ly_is hy 38 13 rfl) (ly_n hy 38 35 rfl) (by omega) (by omega) (fun I5191 eI5191 => ?_)
  have hI5191 : MP g n L I5191 := by rw [eI5191]; exact (mp_w hy hI5174 (c := 38) (mi_rr hy hI5174.1 (c := 38) (8) (11) (0) (0) (0) (by decide) (Or.inl (by decide)) (by rw [cl (n := v5186.toInt.toNat) (by omega)]; omega) (by decide) (fun h => absurd h (by decide))) (by decide) (by decide) (Or.inl (by decide)))
  have e5192 : I5191 (ad g 0) 10 = w5084 := by rw [eI5191, pp_ne _ _ (Or.inl (ly_ne hy (by decide) (by decide) (by decide)))]; exact e5175
  have e5193 : I5191 (ad g 0) 14 = w5085 := by rw [eI5191, pp_ne _ _ (Or.inl (ly_ne hy (by decide) (by decide) (by decide)))]; exact e5176
  have e5194 : I5191 (ad g 0) 68 = w5086 := by rw [eI5191, pp_ne _ _ (Or.inl (ly_ne hy (by decide) (by decide) (by decide)))]; exact e5177
  have e5195 : I5191 (ad g 38) 32 = w5082 := by rw [eI5191, pp_ne _ _ (Or.inr (by rw [cl (x := v5186) (n := v5186.toInt.toNat) (by omega)]; omega))]; exact e5178
  have e5196 : I5191 (ad g 38) 33 = w5083 := by rw [eI5191, pp_ne _ _ (Or.inr (by rw [cl (x := v5186) (n := v5186.toInt.toNat) (by omega)]; omega))]; exact e5179
  have e5197 : I5191 (ad g 24) v5089.toNatClampNeg = v5114 := by rw [eI5191, pp_ne _ _ (Or.inl (ly_ne hy (by decide) (by decide) (by decide)))]; exact e5180
  have e5198 : I5191 (ad g 8) so.toNatClampNeg = v5188 := by rw [eI5191, pp_ne _ _ (Or.inl (ly_ne hy (by decide) (by decide) (by decide)))]; exact ev5188
  have e5199 : I5191 (ad g 0) 1 = L := by rw [eI5191, pp_ne _ _ (Or.inl (ly_ne hy (by decide) (by decide) (by decide)))]; exact e5182
  have fr5200 : fs g [56] I I5191 := by rw [eI5191]; exact fs_ppn hy fr5183 (by decide) (by decide)
  have fr5201 : fz 49 g [0, 35, 36, 37, 40, 41, 38] I I5191 := by rw [eI5191]; exact fzm_pp hy fr5184 (by decide) (by decide)
  clear eI5191
  refine WP_aload_n dX11_sortDay_150 rfl ?_
  refine WQ_bipush (16) (16) dX11_sortDay_151 rfl rfl (fun v5202 hv5202 => ?_)
  refine WP_iload_n dX11_sortDay_153 rfl ?_
  refine WQ_iadd dX11_sortDay_154 (by omega) (by omega) (fun v5203 hv5203 => ?_)
  refine WP_dup2 dX11_sortDay_155 rfl rfl ?_
  refine WQ_ialdu dX11_sortDay_156 (ly_is hy 38 13 rfl) (ly_n hy 38 35 rfl) (by omega) (by omega) (fun v5204 => ?_)
  refine WP_iload dX11_sortDay_157 rfl ?_
  refine WQ_iconst (4) (4) dX11_sortDay_159 rfl rfl (fun v5205 hv5205 => ?_)
  refine WQ_iremk (4) dX11_sortDay_160 hv5205 (by decide) (by omega) (fun v5206 hv5206 => ?_)
  refine WP_iload dX11_sortDay_161 rfl ?_
  refine WQ_iconst (4) (4) dX11_sortDay_163 rfl rfl (fun v5207 hv5207 => ?_)
  refine WQ_idivk (4) dX11_sortDay_164 hv5207 (by decide) (by omega) (fun v5208 hv5208 => ?_)
  refine WQ_iconst (4) (4) dX11_sortDay_165 rfl rfl (fun v5209 hv5209 => ?_)
  refine WQ_iremk (4) dX11_sortDay_166 hv5209 (by decide) (by omega) (fun v5210 hv5210 => ?_)
  refine WQ_iadd dX11_sortDay_167 (by omega) (by omega) (fun v5211 hv5211 => ?_)
  refine WP_aload_n dX11_sortDay_168 rfl ?_
  refine WP_getr dX11_sortDay_169 fX11_267 rfl (ly_is hy 0 11 rfl) (rf hr 0 44 26 (by decide)) ?_
  refine WP_iload dX11_sortDay_172 rfl ?_
  refine WQ_iald dX11_sortDay_174 (ly_is hy 26 13 rfl) (ly_n hy 26 28 rfl) (by omega) (by omega) (fun q hq => BT_get hI5191.1.1 26 0 28 (0) (0) (99) (by decide) q (Nat.zero_le _) hq) (fun v5212 av5212 bv5212 ev5212 => ?_)
  refine WQ_imulb (6) (99) dX11_sortDay_175 ⟨by omega, by omega⟩ ⟨by omega, by omega⟩ (by decide) (fun v5213 pv5213 av5213 bv5213 cv5213 => ?_)
  refine WP_aload_n dX11_sortDay_176 rfl ?_
  refine WP_getr dX11_sortDay_177 fX11_235 rfl (ly_is hy 0 11 rfl) (rf hr 0 26 8 (by decide)) ?_
  refine WP_iload_n dX11_sortDay_180 rfl ?_
  refine WQ_ialdq (q := so.toInt.toNat) dX11_sortDay_181 (ly_is hy 8 13 rfl) (ly_n hy 8 4 rfl) (by omega) (by omega) (by omega) (pp_get hI5191 (by omega) (by rw [e5192]; omega)) (fun v5214 av5214 bv5214 ev5214 => ?_)
  refine WQ_imulb (594) (99) dX11_sortDay_182 ⟨by omega, by omega⟩ ⟨by omega, by omega⟩ (by decide) (fun v5215 pv5215 av5215 bv5215 cv5215 => ?_)
  refine WQ_iaddu dX11_sortDay_183 (fun v5216 => ?_)
  refine WQ_iast dX11_sortDay_184 (ly_is hy 38 13 rfl) (ly_n hy 38 35 rfl) (by omega) (by omega) (fun I5217 eI5217 => ?_)
  have hI5217 : MP g n L I5217 := by rw [eI5217]; exact (mp_w hy hI5191 (c := 38) (mi_rr hy hI5191.1 (c := 38) (16) (19) (0) (0) (0) (by decide) (Or.inl (by decide)) (by rw [cl (n := v5203.toInt.toNat) (by omega)]; omega) (by decide) (fun h => absurd h (by decide))) (by decide) (by decide) (Or.inl (by decide)))
  have e5218 : I5217 (ad g 0) 10 = w5084 := by rw [eI5217, pp_ne _ _ (Or.inl (ly_ne hy (by decide) (by decide) (by decide)))]; exact e5192
  have e5219 : I5217 (ad g 0) 14 = w5085 := by rw [eI5217, pp_ne _ _ (Or.inl (ly_ne hy (by decide) (by decide) (by decide)))]; exact e5193
  have e5220 : I5217 (ad g 0) 68 = w5086 := by rw [eI5217, pp_ne _ _ (Or.inl (ly_ne hy (by decide) (by decide) (by decide)))]; exact e5194
  have e5221 : I5217 (ad g 38) 32 = w5082 := by rw [eI5217, pp_ne _ _ (Or.inr (by rw [cl (x := v5203) (n := v5203.toInt.toNat) (by omega)]; omega))]; exact e5195
  have e5222 : I5217 (ad g 38) 33 = w5083 := by rw [eI5217, pp_ne _ _ (Or.inr (by rw [cl (x := v5203) (n := v5203.toInt.toNat) (by omega)]; omega))]; exact e5196
  have e5223 : I5217 (ad g 24) v5089.toNatClampNeg = v5114 := by rw [eI5217, pp_ne _ _ (Or.inl (ly_ne hy (by decide) (by decide) (by decide)))]; exact e5197
  have e5224 : I5217 (ad g 8) so.toNatClampNeg = v5214 := by rw [eI5217, pp_ne _ _ (Or.inl (ly_ne hy (by decide) (by decide) (by decide)))]; exact ev5214
  have e5225 : I5217 (ad g 0) 1 = L := by rw [eI5217, pp_ne _ _ (Or.inl (ly_ne hy (by decide) (by decide) (by decide)))]; exact e5199
  have e5226 : I5217 (ad g 26) v5089.toNatClampNeg = v5212 := by rw [eI5217, pp_ne _ _ (Or.inl (ly_ne hy (by decide) (by decide) (by decide)))]; exact ev5212
  have fr5227 : fs g [56] I I5217 := by rw [eI5217]; exact fs_ppn hy fr5200 (by decide) (by decide)
  have fr5228 : fz 49 g [0, 35, 36, 37, 40, 41, 38] I I5217 := by rw [eI5217]; exact fzm_pp hy fr5201 (by decide) (by decide)
  clear eI5217
  refine WP_aload_n dX11_sortDay_185 rfl ?_
  refine WQ_bipush (34) (34) dX11_sortDay_186 rfl rfl (fun v5229 hv5229 => ?_)
  refine WP_dup2 dX11_sortDay_188 rfl rfl ?_
  obtain ⟨w5231, ew5231⟩ : ∃ w : Int32, I5217 (ad g 38) 34 = w := ⟨_, rfl⟩
  refine WQ_ialdm (z := 34) dX11_sortDay_189 (ly_is hy 38 13 rfl) (ly_n hy 38 35 rfl) hv5229 (by decide) ew5231 ?_
  refine WP_iload dX11_sortDay_190 rfl ?_
  refine WQ_iconst (4) (4) dX11_sortDay_192 rfl rfl (fun v5232 hv5232 => ?_)
  refine WQ_iremk (4) dX11_sortDay_193 hv5232 (by decide) (by omega) (fun v5233 hv5233 => ?_)
  refine WP_iload dX11_sortDay_194 rfl ?_
  refine WQ_bipush (16) (16) dX11_sortDay_196 rfl rfl (fun v5234 hv5234 => ?_)
  refine WQ_idivk (16) dX11_sortDay_198 hv5234 (by decide) (by omega) (fun v5235 hv5235 => ?_)
  refine WQ_iadd dX11_sortDay_199 (by omega) (by omega) (fun v5236 hv5236 => ?_)
  refine WP_aload_n dX11_sortDay_200 rfl ?_
  refine WP_getr dX11_sortDay_201 fX11_235 rfl (ly_is hy 0 11 rfl) (rf hr 0 26 8 (by decide)) ?_
  refine WP_iload_n dX11_sortDay_204 rfl ?_
  refine WQ_ialdq (q := so.toInt.toNat) dX11_sortDay_205 (ly_is hy 8 13 rfl) (ly_n hy 8 4 rfl) (by omega) (by omega) (by omega) (pp_get hI5217 (by omega) (by rw [e5218]; omega)) (fun v5237 av5237 bv5237 ev5237 => ?_)
  refine WQ_imulb (5) (99) dX11_sortDay_206 ⟨by omega, by omega⟩ ⟨by omega, by omega⟩ (by decide) (fun v5238 pv5238 av5238 bv5238 cv5238 => ?_)
  refine WQ_iaddu dX11_sortDay_207 (fun v5239 => ?_)
  refine WQ_iast dX11_sortDay_208 (ly_is hy 38 13 rfl) (ly_n hy 38 35 rfl) (by omega) (by omega) (fun I5240 fI5240 => ?_)
  have eI5240 := fI5240
  rw [cl (x := v5229) (n := 34) (by omega)] at eI5240
  clear fI5240
  have hI5240 : MP g n L I5240 := by rw [eI5240]; exact (mp_w hy hI5217 (c := 38) (mi_f0 hy hI5217.1 (c := 38) (by decide) (Or.inl (by decide)) (by decide)) (by decide) (by decide) (Or.inl (by decide)))
  have e5241 : I5240 (ad g 0) 10 = w5084 := by rw [eI5240, pp_ne _ _ (Or.inl (ly_ne hy (by decide) (by decide) (by decide)))]; exact e5218
  have e5242 : I5240 (ad g 0) 14 = w5085 := by rw [eI5240, pp_ne _ _ (Or.inl (ly_ne hy (by decide) (by decide) (by decide)))]; exact e5219
  have e5243 : I5240 (ad g 0) 68 = w5086 := by rw [eI5240, pp_ne _ _ (Or.inl (ly_ne hy (by decide) (by decide) (by decide)))]; exact e5220
  have e5244 : I5240 (ad g 38) 32 = w5082 := by rw [eI5240, pp_ne _ _ (Or.inr (by decide))]; exact e5221
  have e5245 : I5240 (ad g 38) 33 = w5083 := by rw [eI5240, pp_ne _ _ (Or.inr (by decide))]; exact e5222
  have e5246 : I5240 (ad g 24) v5089.toNatClampNeg = v5114 := by rw [eI5240, pp_ne _ _ (Or.inl (ly_ne hy (by decide) (by decide) (by decide)))]; exact e5223
  have e5247 : I5240 (ad g 8) so.toNatClampNeg = v5237 := by rw [eI5240, pp_ne _ _ (Or.inl (ly_ne hy (by decide) (by decide) (by decide)))]; exact ev5237
  have e5248 : I5240 (ad g 0) 1 = L := by rw [eI5240, pp_ne _ _ (Or.inl (ly_ne hy (by decide) (by decide) (by decide)))]; exact e5225
  have e5249 : I5240 (ad g 26) v5089.toNatClampNeg = v5212 := by rw [eI5240, pp_ne _ _ (Or.inl (ly_ne hy (by decide) (by decide) (by decide)))]; exact e5226
  have e5250 : I5240 (ad g 38) 34 = v5239 := by rw [eI5240, pp_self]
  have fr5251 : fs g [56] I I5240 := by rw [eI5240]; exact fs_ppn hy fr5227 (by decide) (by decide)
  have fr5252 : fz 49 g [0, 35, 36, 37, 40, 41, 38] I I5240 := by rw [eI5240]; exact fzm_pp hy fr5228 (by decide) (by decide)
  clear eI5240
  refine WP_aload_n dX11_sortDay_209 rfl ?_
  refine WQ_iconst (0) (0) dX11_sortDay_210 rfl rfl (fun v5253 hv5253 => ?_)
  refine WP_iload_n dX11_sortDay_211 rfl ?_
  refine WQ_iadd dX11_sortDay_212 (by omega) (by omega) (fun v5254 hv5254 => ?_)
  refine WQ_ialdr dX11_sortDay_213 (ly_is hy 38 13 rfl) (ly_n hy 38 35 rfl) (by omega) (by omega) (a := 0) (b := 4) (by omega) (by omega) (fun q hq1 hq2 => BT_get hI5240.1.1 38 0 4 (0) (0) (60) (by decide) q hq1 hq2) (fun v5255 av5255 bv5255 => ?_)
  refine WQ_i2l dX11_sortDay_214 (fun l5256 hl5256 => ?_)
  refine WP_aload_n dX11_sortDay_215 rfl ?_
  refine WP_getr dX11_sortDay_216 fX11_235 rfl (ly_is hy 0 11 rfl) (rf hr 0 26 8 (by decide)) ?_
  refine WP_iload_n dX11_sortDay_219 rfl ?_
  refine WQ_ialdq (q := so.toInt.toNat) dX11_sortDay_220 (ly_is hy 8 13 rfl) (ly_n hy 8 4 rfl) (by omega) (by omega) (by omega) (pp_get hI5240 (by omega) (by rw [e5241]; omega)) (fun v5257 av5257 bv5257 ev5257 => ?_)
  refine WQ_i2l dX11_sortDay_221 (fun l5258 hl5258 => ?_)
  refine WQ_lmul dX11_sortDay_222 (fun l5259 => ?_)
  exact WP_lret dX11_sortDay_223 rfl ⟨⟨hI5240, rfl, fr5252, rfl, fr5251, ⟨trivial, (by rw [e5244, ew5082] <;> exact (eq32 _ _).mpr (by omega)), (by rw [e5245, ew5083] <;> exact (eq32 _ _).mpr (by omega)), (by rw [e5241, ew5084] <;> exact (eq32 _ _).mpr (by omega)), (by rw [e5242, ew5085] <;> exact (eq32 _ _).mpr (by omega)), (by rw [e5243, ew5086] <;> exact (eq32 _ _).mpr (by omega))⟩⟩, _, rfl⟩
set_option maxHeartbeats 4000000 in
set_option maxRecDepth 100000 in
theorem sm_sortDay_39 {g : GG} {n : Int} {L : Int32} (hy : Ly g)  {I : pI} {J : pJ} {R : pR} (hr : Rf g R) (hI : MP g n L I) (so : Int32) (da : Int32) (so_lo : 0 ≤ so.toInt) (so_hi : so.toInt ≤ 3) (da_lo : 0 ≤ da.toInt) (da_hi : da.toInt ≤ 6) (hb : so.toInt < (I (ad g 0) 10).toInt) : SP g mX11_sortDay [.ref (ad g 0), .ref (ad g 39), .int so, .int da] I J R (fun r I' J' R' => (MP g n L I' ∧ R' = R ∧ fz 49 g [0, 35, 36, 37, 40, 41, 39] I I' ∧ J' = J ∧ fs g [56] I I' ∧ True ∧ I' (ad g 39) 32 = I (ad g 39) 32 ∧ I' (ad g 39) 33 = I (ad g 39) 33 ∧ I' (ad g 0) 10 = I (ad g 0) 10 ∧ I' (ad g 0) 14 = I (ad g 0) 14 ∧ I' (ad g 0) 68 = I (ad g 0) 68) ∧ ∃ v : Int64, r = some (.long v)) := by
  refine SP_of ⟨by decide, rfl⟩ (Nat.le_of_ble_eq_true rfl) ?_
  have e5260 : I (ad g 0) 1 = L := hI.1.2
  have b5261 := BT_get hI.1.1 0 1 2 (0) (0) (900) (by decide) 1 (by decide) (by decide)
  rw [e5260] at b5261
  have fr0 : fz 49 g [0, 35, 36, 37, 40, 41, 39] I I := fz_rf
  have frq0 : fs g [56] I I := fs_rf
  obtain ⟨w5262, ew5262⟩ : ∃ w : Int32, I (ad g 39) 32 = w := ⟨_, rfl⟩
  have bw5262 := BT_get hI.1.1 39 32 33 (0) (23760) (700000) (by decide) 32 (by decide) (by decide)
  rw [ew5262] at bw5262
  obtain ⟨w5263, ew5263⟩ : ∃ w : Int32, I (ad g 39) 33 = w := ⟨_, rfl⟩
  have bw5263 := BT_get hI.1.1 39 33 34 (0) (1) (30) (by decide) 33 (by decide) (by decide)
  rw [ew5263] at bw5263
  obtain ⟨w5264, ew5264⟩ : ∃ w : Int32, I (ad g 0) 10 = w := ⟨_, rfl⟩
  have bw5264 := BT_get hI.1.1 0 10 11 (0) (0) (4) (by decide) 10 (by decide) (by decide)
  rw [ew5264] at bw5264
  obtain ⟨w5265, ew5265⟩ : ∃ w : Int32, I (ad g 0) 14 = w := ⟨_, rfl⟩
  have bw5265 := BT_get hI.1.1 0 14 15 (-1) (0) (2) (by decide) 14 (by decide) (by decide)
  rw [ew5265] at bw5265
  obtain ⟨w5266, ew5266⟩ : ∃ w : Int32, I (ad g 0) 68 = w := ⟨_, rfl⟩
  rw [ew5264] at hb
  refine WQ_bipush (7) (7) dX11_sortDay_0 rfl rfl (fun v5267 hv5267 => ?_)
  refine WP_iload_n dX11_sortDay_2 rfl ?_
  refine WQ_imulK (7) dX11_sortDay_3 hv5267 (by omega) (by omega) (fun v5268 hv5268 => ?_)
  refine WP_iload_n dX11_sortDay_4 rfl ?_
  refine WQ_iadd dX11_sortDay_5 (by omega) (by omega) (fun v5269 hv5269 => ?_)
  refine WP_istore (ls' := [(0, _), (1, _), (2, _), (3, _), (4, _)]) dX11_sortDay_6 (by decide) rfl ?_
  refine WP_aload_n dX11_sortDay_8 rfl ?_
  refine WP_iload_n dX11_sortDay_9 rfl ?_
  refine WP_iload_n dX11_sortDay_10 rfl ?_
  refine WP_aload_n dX11_sortDay_11 rfl ?_
  refine WQ_iconst (0) (0) dX11_sortDay_12 rfl rfl (fun v5270 hv5270 => ?_)
  refine WP_iload_n dX11_sortDay_13 rfl ?_
  refine WQ_iadd dX11_sortDay_14 (by omega) (by omega) (fun v5271 hv5271 => ?_)
  refine WQ_ialdr dX11_sortDay_15 (ly_is hy 39 13 rfl) (ly_n hy 39 35 rfl) (by omega) (by omega) (a := 0) (b := 4) (by omega) (by omega) (fun q hq1 hq2 => BT_get hI.1.1 39 0 4 (0) (0) (60) (by decide) q hq1 hq2) (fun v5272 av5272 bv5272 => ?_)
  refine WP_callV3 (k := 11) dX11_sortDay_16 ⟨⟨⟨by decide, by decide⟩, zX11_earned⟩, lX11_426, by decide, rfl, vX11_earned.1, vX11_earned.2⟩ (ly_is hy 0 11 rfl) (sm_earned hy hr hI so da v5272 (by omega) (by omega) (by omega) (by omega) (by omega) (by omega)) (Nat.le_of_ble_eq_true rfl) ?_
  intro r Ia Ja Ra hq
  obtain ⟨⟨ea, eb, ec⟩, v5273, rfl, av5273, bv5273⟩ := hq
  show WP _ _ _ _ (.int _ :: _) _ _ _ _
  rw [ea, eb, ec]
  clear ea eb ec Ia Ja Ra
  refine WP_istore (ls' := [(0, _), (1, _), (2, _), (3, _), (4, _), (5, _)]) dX11_sortDay_19 (by decide) rfl ?_
  refine WP_aload_n dX11_sortDay_21 rfl ?_
  refine WP_iload_n dX11_sortDay_22 rfl ?_
  refine WP_iload_n dX11_sortDay_23 rfl ?_
  refine WP_aload_n dX11_sortDay_24 rfl ?_
  refine WP_aload_n dX11_sortDay_25 rfl ?_
  refine WQ_bipush (28) (28) dX11_sortDay_26 rfl rfl (fun v5274 hv5274 => ?_)
  refine WP_iload_n dX11_sortDay_28 rfl ?_
  refine WQ_iadd dX11_sortDay_29 (by omega) (by omega) (fun v5275 hv5275 => ?_)
  refine WQ_ialdu dX11_sortDay_30 (ly_is hy 39 13 rfl) (ly_n hy 39 35 rfl) (by omega) (by omega) (fun v5276 => ?_)
  refine WP_iload_n dX11_sortDay_31 rfl ?_
  refine WP_iload_n dX11_sortDay_32 rfl ?_
  refine WP_iload dX11_sortDay_33 rfl ?_
  refine WP_aload_n dX11_sortDay_35 rfl ?_
  refine WQ_iconst (4) (4) dX11_sortDay_36 rfl rfl (fun v5277 hv5277 => ?_)
  refine WP_iload_n dX11_sortDay_37 rfl ?_
  refine WQ_iadd dX11_sortDay_38 (by omega) (by omega) (fun v5278 hv5278 => ?_)
  refine WQ_ialdq (q := v5278.toInt.toNat) dX11_sortDay_39 (ly_is hy 39 13 rfl) (ly_n hy 39 35 rfl) (by omega) (by omega) (by omega) (BT_get hI.1.1 39 4 8 (0) (0) (5) (by decide) _ (by omega) (by omega)) (fun v5279 av5279 bv5279 zv5279 => ?_)
  have yv5279 : I (ad g 39) (4 + so.toInt).toNat = v5279 := by rw [← zv5279, cl (x := v5278) (n := (4 + so.toInt).toNat) (by omega)]
  refine WP_callV5 (k := 11) dX11_sortDay_40 ⟨⟨⟨by decide, by decide⟩, zX11_actOf⟩, lX11_457, by decide, rfl, vX11_actOf.1, vX11_actOf.2⟩ (ly_is hy 0 11 rfl) (sm_actOf hy hr hI v5276 so da v5273 v5279  (by omega) (by omega) (by omega) (by omega) (by omega) (by omega) (by omega) (by omega)) (Nat.le_of_ble_eq_true rfl) ?_
  intro r I5280 J5281 Ra hq
  obtain ⟨⟨hI5280, ec, fiI5280, ejI5280, fqI5280, ⟨pI5280, sI5280_0_10, sI5280_0_14, sI5280_0_68⟩⟩, v5282, rfl, av5282, bv5282, cv5282⟩ := hq
  show WP _ _ _ _ (.int _ :: _) _ _ _ _
  rw [ec]
  clear ec Ra
  have fr5283 : fz 49 g [0, 35, 36, 37, 40, 41, 39] I I5280 := fz_tr fr0 (fz_mono fiI5280 (by decide))
  have fr5284 : fs g [56] I I5280 := fs_tr frq0 (fs_mono fqI5280 (by decide))
  rw [ejI5280]
  clear ejI5280 J5281
  have YI5280 : I5280 (ad g 39) (4 + so.toInt).toNat = v5279 := by rw [fz_at fiI5280 39 (by decide) (by decide)]; exact yv5279
  have e5285 : I5280 (ad g 0) 10 = w5264 := by rw [sI5280_0_10]; exact ew5264
  have e5286 : I5280 (ad g 0) 14 = w5265 := by rw [sI5280_0_14]; exact ew5265
  have e5287 : I5280 (ad g 0) 68 = w5266 := by rw [sI5280_0_68]; exact ew5266
  have e5288 : I5280 (ad g 39) 32 = w5262 := by rw [fz_at fiI5280 39 (by decide) (by decide)]; exact ew5262
  have e5289 : I5280 (ad g 39) 33 = w5263 := by rw [fz_at fiI5280 39 (by decide) (by decide)]; exact ew5263
  have e5290 : I5280 (ad g 0) 1 = L := hI5280.1.2
  have b5291 := BT_get hI5280.1.1 0 1 2 (0) (0) (900) (by decide) 1 (by decide) (by decide)
  rw [e5290] at b5291
  have am := cv5282
  rw [← fz_at fiI5280 22 (by decide) (by decide), ← fz_at fiI5280 24 (by decide) (by decide), ← fz_at fiI5280 25 (by decide) (by decide), ← sI5280_0_14] at am
  refine WP_callV3 (k := 11) dX11_sortDay_43 ⟨⟨⟨by decide, by decide⟩, zX11_cutAct⟩, lX11_461, by decide, rfl, vX11_cutAct.1, vX11_cutAct.2⟩ (ly_is hy 0 11 rfl) (sm_cutAct hy hr hI5280 so da v5282 (by omega) (by omega) (by omega) (by omega) (by omega) (by omega) (by rw [e5285]; omega)) (Nat.le_of_ble_eq_true rfl) ?_
  intro r Ia Ja Ra hq
  obtain ⟨⟨ea, eb, ec⟩, v5292, rfl, av5292, bv5292, cv5292⟩ := hq
  show WP _ _ _ _ (.int _ :: _) _ _ _ _
  rw [ea, eb, ec]
  clear ea eb ec Ia Ja Ra
  refine WP_istore (ls' := [(0, _), (1, _), (2, _), (3, _), (4, _), (5, _), (6, _)]) dX11_sortDay_46 (by decide) rfl ?_
  refine WP_aload_n dX11_sortDay_48 rfl ?_
  refine WP_iload_n dX11_sortDay_49 rfl ?_
  refine WP_iload_n dX11_sortDay_50 rfl ?_
  refine WP_iload dX11_sortDay_51 rfl ?_
  refine WP_callV3 (k := 11) dX11_sortDay_53 ⟨⟨⟨by decide, by decide⟩, zX11_paysFor⟩, lX11_405, by decide, rfl, vX11_paysFor.1, vX11_paysFor.2⟩ (ly_is hy 0 11 rfl) (sm_paysx hy hr hI5280 so da v5292 (by omega) (by omega) (by omega) (by omega) (by omega) (by omega)) (Nat.le_of_ble_eq_true rfl) ?_
  intro r Ia Ja Ra hq
  obtain ⟨⟨ea, eb, ec⟩, v5293, rfl, av5293, bv5293, cv5293⟩ := hq
  show WP _ _ _ _ (.int _ :: _) _ _ _ _
  rw [ea, eb, ec]
  clear ea eb ec Ia Ja Ra
  have cu := cv5292
  unfold AM AOKm at am
  obtain ⟨a0, a47, af, as, ap, au, aq⟩ := am
  unfold CUT at cu
  obtain ⟨u0, u1, u2, u3, u4, u5, u6⟩ := cu
  have b24 := BT_get hI5280.1.1 24 0 28 (-1) (0) (2) (by decide) (7 * so.toInt + da.toInt).toNat (Nat.zero_le _) (by omega)
  obtain ⟨e3, he3⟩ : ∃ z : Int, CA (I5280 (ad g 22)) (I5280 (ad g 24) (7 * so.toInt + da.toInt).toNat).toInt da.toInt = z := ⟨_, rfl⟩
  obtain ⟨e4, he4⟩ : ∃ z : Int, CA (I5280 (ad g 22)) (I5280 (ad g 0) 14).toInt da.toInt = z := ⟨_, rfl⟩
  have n3 : 0 ≤ e3 := by rw [← he3]; exact ca_nn hI5280 (by omega) (by omega) (by omega) (by omega)
  have n4 : 0 ≤ e4 := by rw [← he4]; exact ca_nn hI5280 (by rw [e5286]; omega) (by rw [e5286]; omega) (by omega) (by omega)
  have cp := cv5293
  rw [he3, he4] at cp ap
  have k1 : (v5292.toInt % 4) * e3 ≤ (v5282.toInt % 4) * e3 := Int.mul_le_mul_of_nonneg_right (by omega) n3
  have k2 : (v5292.toInt / 16) * e4 ≤ (v5282.toInt / 16) * e4 := Int.mul_le_mul_of_nonneg_right (by omega) n4
  have kp : v5293.toInt ≤ v5273.toInt := by omega
  have k5 : v5292.toInt / 4 % 4 ≤ v5279.toInt := by omega
  have k6 : v5279.toInt - v5292.toInt / 4 % 4 + v5292.toInt / 16 ≤ 5 := by omega
  refine WP_istore (ls' := [(0, _), (1, _), (2, _), (3, _), (4, _), (5, _), (6, _), (7, _)]) dX11_sortDay_56 (by decide) rfl ?_
  refine WP_aload_n dX11_sortDay_58 rfl ?_
  refine WP_aload_n dX11_sortDay_59 rfl ?_
  refine WP_getr dX11_sortDay_60 fX11_261 rfl (ly_is hy 0 11 rfl) (rf hr 0 42 24 (by decide)) ?_
  refine WP_iload dX11_sortDay_63 rfl ?_
  refine WQ_iald dX11_sortDay_65 (ly_is hy 24 13 rfl) (ly_n hy 24 28 rfl) (by omega) (by omega) (fun q hq => BT_get hI5280.1.1 24 0 28 (-1) (0) (2) (by decide) q (Nat.zero_le _) hq) (fun v5294 av5294 bv5294 ev5294 => ?_)
  refine WP_iload_n dX11_sortDay_66 rfl ?_
  refine WP_iload dX11_sortDay_67 rfl ?_
  refine WQ_iconst (4) (4) dX11_sortDay_69 rfl rfl (fun v5295 hv5295 => ?_)
  refine WQ_iremk (4) dX11_sortDay_70 hv5295 (by decide) (by omega) (fun v5296 hv5296 => ?_)
  refine WP_aload_n dX11_sortDay_71 rfl ?_
  refine WP_getr dX11_sortDay_72 fX11_235 rfl (ly_is hy 0 11 rfl) (rf hr 0 26 8 (by decide)) ?_
  refine WP_iload_n dX11_sortDay_75 rfl ?_
  refine WQ_ialdq (q := so.toInt.toNat) dX11_sortDay_76 (ly_is hy 8 13 rfl) (ly_n hy 8 4 rfl) (by omega) (by omega) (by omega) (pp_get hI5280 (by omega) (by rw [e5285]; omega)) (fun v5297 av5297 bv5297 ev5297 => ?_)
  refine WQ_imulb (3) (99) dX11_sortDay_77 ⟨by omega, by omega⟩ ⟨by omega, by omega⟩ (by decide) (fun v5298 pv5298 av5298 bv5298 cv5298 => ?_)
  have ew : I5280 (ad g 24) (7 * so.toInt + da.toInt).toNat = v5294 := by rw [← cl (x := v5269) (n := (7 * so.toInt + da.toInt).toNat) (by omega)]; exact ev5294
  have ep : (I5280 (ad g 8) so.toInt.toNat).toInt = v5297.toInt := by rw [← cl (x := so) (n := so.toInt.toNat) (by omega), ev5297]
  have hu1 : v5298.toInt = (v5292.toInt % 4) * v5297.toInt := by have q := pv5298; rw [hv5296] at q; exact q
  have hw1 : v5292.toInt % 4 = 0 ∨ v5294.toInt ≠ -1 := by
    by_cases z : v5292.toInt % 4 = 0
    · exact Or.inl z
    · right; rw [← ew]; exact wi_get hI5280 (by rw [e5285]; omega) (by omega)
  rw [ew] at u5 u6
  refine WP_callV3 (k := 11) dX11_sortDay_78 ⟨⟨⟨by decide, by decide⟩, zX11_takes⟩, lX11_464, by decide, rfl, vX11_takes.1, vX11_takes.2⟩ (ly_is hy 0 11 rfl) (sm_takes hy hr hI5280 v5294 da v5298 (by omega) (by omega) (by omega) (by omega) (by omega) (by omega) (tk1 u5 ep (by omega) hu1 hw1 (by omega))) (Nat.le_of_ble_eq_true rfl) ?_
  intro r I5299 J5300 Ra hq
  obtain ⟨⟨hI5299, ec, fiI5299, ejI5299, fqI5299, pI5299⟩, rfl⟩ := hq
  rw [ec]
  clear ec Ra
  have fr5301 : fz 49 g [0, 35, 36, 37, 40, 41, 39] I I5299 := fz_tr fr5283 (fz_mono fiI5299 (by decide))
  have fr5302 : fs g [56] I I5299 := fs_tr fr5284 (fs_mono fqI5299 (by decide))
  rw [ejI5299]
  clear ejI5299 J5300
  have YI5299 : I5299 (ad g 39) (4 + so.toInt).toNat = v5279 := by rw [fz_at fiI5299 39 (by decide) (by decide)]; exact YI5280
  have e5303 : I5299 (ad g 0) 10 = w5264 := by rw [fz_at fiI5299 0 (by decide) (by decide)]; exact e5285
  have e5304 : I5299 (ad g 0) 14 = w5265 := by rw [fz_at fiI5299 0 (by decide) (by decide)]; exact e5286
  have e5305 : I5299 (ad g 0) 68 = w5266 := by rw [fz_at fiI5299 0 (by decide) (by decide)]; exact e5287
  have e5306 : I5299 (ad g 39) 32 = w5262 := by rw [fz_at fiI5299 39 (by decide) (by decide)]; exact e5288
  have e5307 : I5299 (ad g 39) 33 = w5263 := by rw [fz_at fiI5299 39 (by decide) (by decide)]; exact e5289
  have e5308 : I5299 (ad g 24) v5269.toNatClampNeg = v5294 := by rw [fz_at fiI5299 24 (by decide) (by decide)]; exact ev5294
  have e5309 : I5299 (ad g 8) so.toNatClampNeg = v5297 := by rw [fz_at fiI5299 8 (by decide) (by decide)]; exact ev5297
  have e5310 : I5299 (ad g 0) 1 = L := hI5299.1.2
  have b5311 := BT_get hI5299.1.1 0 1 2 (0) (0) (900) (by decide) 1 (by decide) (by decide)
  rw [e5310] at b5311
  refine WP_aload_n dX11_sortDay_81 rfl ?_
  refine WP_aload_n dX11_sortDay_82 rfl ?_
  refine WQ_getim dX11_sortDay_83 fX11_224 rfl (ly_is hy 0 11 rfl) e5304 ?_
  refine WP_iload_n dX11_sortDay_86 rfl ?_
  refine WP_iload dX11_sortDay_87 rfl ?_
  refine WQ_bipush (16) (16) dX11_sortDay_89 rfl rfl (fun v5312 hv5312 => ?_)
  refine WQ_idivk (16) dX11_sortDay_91 hv5312 (by decide) (by omega) (fun v5313 hv5313 => ?_)
  refine WP_aload_n dX11_sortDay_92 rfl ?_
  refine WP_getr dX11_sortDay_93 fX11_235 rfl (ly_is hy 0 11 rfl) (rf hr 0 26 8 (by decide)) ?_
  refine WP_iload_n dX11_sortDay_96 rfl ?_
  refine WQ_ialdq (q := so.toInt.toNat) dX11_sortDay_97 (ly_is hy 8 13 rfl) (ly_n hy 8 4 rfl) (by omega) (by omega) (by omega) (pp_get hI5299 (by omega) (by rw [e5303]; omega)) (fun v5314 av5314 bv5314 ev5314 => ?_)
  refine WQ_imulb (2) (99) dX11_sortDay_98 ⟨by omega, by omega⟩ ⟨by omega, by omega⟩ (by decide) (fun v5315 pv5315 av5315 bv5315 cv5315 => ?_)
  have e14 : I5280 (ad g 0) 14 = w5265 := e5286
  rw [e14] at u6 aq
  have ep2 : (I5280 (ad g 8) so.toInt.toNat).toInt = v5314.toInt := by rw [← fz_at fiI5299 8 (by decide) (by decide), ← cl (x := so) (n := so.toInt.toNat) (by omega), ev5314]
  have hu2 : v5315.toInt = (v5292.toInt / 16) * v5314.toInt := by have q := pv5315; rw [hv5313] at q; exact q
  have hpp : v5297.toInt = v5314.toInt := by omega
  rw [hpp] at hu1
  refine WP_callV3 (k := 11) dX11_sortDay_99 ⟨⟨⟨by decide, by decide⟩, zX11_takes⟩, lX11_464, by decide, rfl, vX11_takes.1, vX11_takes.2⟩ (ly_is hy 0 11 rfl) (sm_takes hy hr hI5299 w5265 da v5315 (by omega) (by omega) (by omega) (by omega) (by omega) (by omega) (tk2 pI5299 u6 (by omega) ep2 (by omega) hu1 hu2 (by omega) (by omega))) (Nat.le_of_ble_eq_true rfl) ?_
  intro r I5316 J5317 Ra hq
  obtain ⟨⟨hI5316, ec, fiI5316, ejI5316, fqI5316, pI5316⟩, rfl⟩ := hq
  rw [ec]
  clear ec Ra
  have fr5318 : fz 49 g [0, 35, 36, 37, 40, 41, 39] I I5316 := fz_tr fr5301 (fz_mono fiI5316 (by decide))
  have fr5319 : fs g [56] I I5316 := fs_tr fr5302 (fs_mono fqI5316 (by decide))
  rw [ejI5316]
  clear ejI5316 J5317
  have YI5316 : I5316 (ad g 39) (4 + so.toInt).toNat = v5279 := by rw [fz_at fiI5316 39 (by decide) (by decide)]; exact YI5299
  have e5320 : I5316 (ad g 0) 10 = w5264 := by rw [fz_at fiI5316 0 (by decide) (by decide)]; exact e5303
  have e5321 : I5316 (ad g 0) 14 = w5265 := by rw [fz_at fiI5316 0 (by decide) (by decide)]; exact e5304
  have e5322 : I5316 (ad g 0) 68 = w5266 := by rw [fz_at fiI5316 0 (by decide) (by decide)]; exact e5305
  have e5323 : I5316 (ad g 39) 32 = w5262 := by rw [fz_at fiI5316 39 (by decide) (by decide)]; exact e5306
  have e5324 : I5316 (ad g 39) 33 = w5263 := by rw [fz_at fiI5316 39 (by decide) (by decide)]; exact e5307
  have e5325 : I5316 (ad g 24) v5269.toNatClampNeg = v5294 := by rw [fz_at fiI5316 24 (by decide) (by decide)]; exact e5308
  have e5326 : I5316 (ad g 8) so.toNatClampNeg = v5314 := by rw [fz_at fiI5316 8 (by decide) (by decide)]; exact ev5314
  have e5327 : I5316 (ad g 0) 1 = L := hI5316.1.2
  have b5328 := BT_get hI5316.1.1 0 1 2 (0) (0) (900) (by decide) 1 (by decide) (by decide)
  rw [e5327] at b5328
  refine WP_aload_n dX11_sortDay_102 rfl ?_
  refine WQ_iconst (0) (0) dX11_sortDay_103 rfl rfl (fun v5329 hv5329 => ?_)
  refine WP_iload_n dX11_sortDay_104 rfl ?_
  refine WQ_iadd dX11_sortDay_105 (by omega) (by omega) (fun v5330 hv5330 => ?_)
  refine WP_iload dX11_sortDay_106 rfl ?_
  refine WP_iload dX11_sortDay_108 rfl ?_
  refine WQ_isub dX11_sortDay_110 (by omega) (by omega) (fun v5331 hv5331 => ?_)
  refine WQ_iast dX11_sortDay_111 (ly_is hy 39 13 rfl) (ly_n hy 39 35 rfl) (by omega) (by omega) (fun I5332 eI5332 => ?_)
  have hI5332 : MP g n L I5332 := by rw [eI5332]; exact (mp_w hy hI5316 (c := 39) (mi_rr hy hI5316.1 (c := 39) (0) (3) (0) (0) (60) (by decide) (Or.inl (by decide)) (by rw [cl (n := v5330.toInt.toNat) (by omega)]; omega) (by decide) (fun _ => ⟨by omega, by omega⟩)) (by decide) (by decide) (Or.inl (by decide)))
  have e5333 : I5332 (ad g 0) 10 = w5264 := by rw [eI5332, pp_ne _ _ (Or.inl (ly_ne hy (by decide) (by decide) (by decide)))]; exact e5320
  have e5334 : I5332 (ad g 0) 14 = w5265 := by rw [eI5332, pp_ne _ _ (Or.inl (ly_ne hy (by decide) (by decide) (by decide)))]; exact e5321
  have e5335 : I5332 (ad g 0) 68 = w5266 := by rw [eI5332, pp_ne _ _ (Or.inl (ly_ne hy (by decide) (by decide) (by decide)))]; exact e5322
  have e5336 : I5332 (ad g 39) 32 = w5262 := by rw [eI5332, pp_ne _ _ (Or.inr (by rw [cl (x := v5330) (n := v5330.toInt.toNat) (by omega)]; omega))]; exact e5323
  have e5337 : I5332 (ad g 39) 33 = w5263 := by rw [eI5332, pp_ne _ _ (Or.inr (by rw [cl (x := v5330) (n := v5330.toInt.toNat) (by omega)]; omega))]; exact e5324
  have e5338 : I5332 (ad g 24) v5269.toNatClampNeg = v5294 := by rw [eI5332, pp_ne _ _ (Or.inl (ly_ne hy (by decide) (by decide) (by decide)))]; exact e5325
  have e5339 : I5332 (ad g 8) so.toNatClampNeg = v5314 := by rw [eI5332, pp_ne _ _ (Or.inl (ly_ne hy (by decide) (by decide) (by decide)))]; exact e5326
  have e5340 : I5332 (ad g 0) 1 = L := by rw [eI5332, pp_ne _ _ (Or.inl (ly_ne hy (by decide) (by decide) (by decide)))]; exact e5327
  have fr5341 : fs g [56] I I5332 := by rw [eI5332]; exact fs_ppn hy fr5319 (by decide) (by decide)
  have fr5342 : fz 49 g [0, 35, 36, 37, 40, 41, 39] I I5332 := by rw [eI5332]; exact fzm_pp hy fr5318 (by decide) (by decide)
  have YI5332 : I5332 (ad g 39) (4 + so.toInt).toNat = v5279 := by rw [eI5332, pp_ne _ _ (Or.inr (by rw [cl (x := v5330) (n := v5330.toInt.toNat) (by omega)]; omega))]; exact YI5316
  clear eI5332
  refine WP_aload_n dX11_sortDay_112 rfl ?_
  refine WQ_iconst (4) (4) dX11_sortDay_113 rfl rfl (fun v5343 hv5343 => ?_)
  refine WP_iload_n dX11_sortDay_114 rfl ?_
  refine WQ_iadd dX11_sortDay_115 (by omega) (by omega) (fun v5344 hv5344 => ?_)
  refine WP_dup2 dX11_sortDay_116 rfl rfl ?_
  refine WQ_ialdq (q := v5344.toInt.toNat) dX11_sortDay_117 (ly_is hy 39 13 rfl) (ly_n hy 39 35 rfl) (by omega) (by omega) (by omega) (BT_get hI5332.1.1 39 4 8 (0) (0) (5) (by decide) _ (by omega) (by omega)) (fun v5345 av5345 bv5345 zv5345 => ?_)
  have tv5345 : v5345.toInt = v5279.toInt := by rw [← zv5345, cl (x := v5344) (n := (4 + so.toInt).toNat) (by omega), YI5332]
  refine WP_iload dX11_sortDay_118 rfl ?_
  refine WQ_bipush (16) (16) dX11_sortDay_120 rfl rfl (fun v5346 hv5346 => ?_)
  refine WQ_idivk (16) dX11_sortDay_122 hv5346 (by decide) (by omega) (fun v5347 hv5347 => ?_)
  refine WP_iload dX11_sortDay_123 rfl ?_
  refine WQ_iconst (4) (4) dX11_sortDay_125 rfl rfl (fun v5348 hv5348 => ?_)
  refine WQ_idivk (4) dX11_sortDay_126 hv5348 (by decide) (by omega) (fun v5349 hv5349 => ?_)
  refine WQ_iconst (4) (4) dX11_sortDay_127 rfl rfl (fun v5350 hv5350 => ?_)
  refine WQ_iremk (4) dX11_sortDay_128 hv5350 (by decide) (by omega) (fun v5351 hv5351 => ?_)
  have q1 : v5351.toInt = v5292.toInt / 4 % 4 := by omega
  have q2 : v5347.toInt = v5292.toInt / 16 := by omega
  refine WQ_isub dX11_sortDay_129 (by omega) (by omega) (fun v5352 hv5352 => ?_)
  refine WQ_iadd dX11_sortDay_130 (by omega) (by omega) (fun v5353 hv5353 => ?_)
  have fin : 0 ≤ v5353.toInt ∧ v5353.toInt ≤ 5 := by clear u5 u6 aq hw1 au hu1 hu2 k1 k2 ap cp u2 u3 u4 af as; omega
  clear q1 q2 u5 u6 aq hw1 au hu1 hu2 k1 k2 ap cp u2 u3 u4 af as k5 k6
  refine WQ_iast dX11_sortDay_131 (ly_is hy 39 13 rfl) (ly_n hy 39 35 rfl) (by omega) (by omega) (fun I5354 eI5354 => ?_)
  have hI5354 : MP g n L I5354 := by rw [eI5354]; exact (mp_w hy hI5332 (c := 39) (mi_rr hy hI5332.1 (c := 39) (4) (7) (0) (0) (5) (by decide) (Or.inl (by decide)) (by rw [cl (n := v5344.toInt.toNat) (by omega)]; omega) (by decide) (fun _ => ⟨by omega, by omega⟩)) (by decide) (by decide) (Or.inl (by decide)))
  have e5355 : I5354 (ad g 0) 10 = w5264 := by rw [eI5354, pp_ne _ _ (Or.inl (ly_ne hy (by decide) (by decide) (by decide)))]; exact e5333
  have e5356 : I5354 (ad g 0) 14 = w5265 := by rw [eI5354, pp_ne _ _ (Or.inl (ly_ne hy (by decide) (by decide) (by decide)))]; exact e5334
  have e5357 : I5354 (ad g 0) 68 = w5266 := by rw [eI5354, pp_ne _ _ (Or.inl (ly_ne hy (by decide) (by decide) (by decide)))]; exact e5335
  have e5358 : I5354 (ad g 39) 32 = w5262 := by rw [eI5354, pp_ne _ _ (Or.inr (by rw [cl (x := v5344) (n := v5344.toInt.toNat) (by omega)]; omega))]; exact e5336
  have e5359 : I5354 (ad g 39) 33 = w5263 := by rw [eI5354, pp_ne _ _ (Or.inr (by rw [cl (x := v5344) (n := v5344.toInt.toNat) (by omega)]; omega))]; exact e5337
  have e5360 : I5354 (ad g 24) v5269.toNatClampNeg = v5294 := by rw [eI5354, pp_ne _ _ (Or.inl (ly_ne hy (by decide) (by decide) (by decide)))]; exact e5338
  have e5361 : I5354 (ad g 8) so.toNatClampNeg = v5314 := by rw [eI5354, pp_ne _ _ (Or.inl (ly_ne hy (by decide) (by decide) (by decide)))]; exact e5339
  have e5362 : I5354 (ad g 0) 1 = L := by rw [eI5354, pp_ne _ _ (Or.inl (ly_ne hy (by decide) (by decide) (by decide)))]; exact e5340
  have fr5363 : fs g [56] I I5354 := by rw [eI5354]; exact fs_ppn hy fr5341 (by decide) (by decide)
  have fr5364 : fz 49 g [0, 35, 36, 37, 40, 41, 39] I I5354 := by rw [eI5354]; exact fzm_pp hy fr5342 (by decide) (by decide)
  clear eI5354
  refine WP_aload_n dX11_sortDay_132 rfl ?_
  refine WQ_bipush (8) (8) dX11_sortDay_133 rfl rfl (fun v5365 hv5365 => ?_)
  refine WP_iload_n dX11_sortDay_135 rfl ?_
  refine WQ_iadd dX11_sortDay_136 (by omega) (by omega) (fun v5366 hv5366 => ?_)
  refine WP_dup2 dX11_sortDay_137 rfl rfl ?_
  refine WQ_ialdu dX11_sortDay_138 (ly_is hy 39 13 rfl) (ly_n hy 39 35 rfl) (by omega) (by omega) (fun v5367 => ?_)
  refine WP_iload dX11_sortDay_139 rfl ?_
  refine WP_aload_n dX11_sortDay_141 rfl ?_
  refine WP_getr dX11_sortDay_142 fX11_235 rfl (ly_is hy 0 11 rfl) (rf hr 0 26 8 (by decide)) ?_
  refine WP_iload_n dX11_sortDay_145 rfl ?_
  refine WQ_ialdq (q := so.toInt.toNat) dX11_sortDay_146 (ly_is hy 8 13 rfl) (ly_n hy 8 4 rfl) (by omega) (by omega) (by omega) (pp_get hI5354 (by omega) (by rw [e5355]; omega)) (fun v5368 av5368 bv5368 ev5368 => ?_)
  refine WQ_imulb (60) (99) dX11_sortDay_147 ⟨by omega, by omega⟩ ⟨by omega, by omega⟩ (by decide) (fun v5369 pv5369 av5369 bv5369 cv5369 => ?_)
  refine WQ_iaddu dX11_sortDay_148 (fun v5370 => ?_)
  refine WQ_iast dX11_sortDay_149 (ly_is hy 39 13 rfl) (ly_n hy 39 35 rfl) (by omega) (by omega) (fun I5371 eI5371 => ?_)
  have hI5371 : MP g n L I5371 := by rw [eI5371]; exact (mp_w hy hI5354 (c := 39) (mi_rr hy hI5354.1 (c := 39) (8) (11) (0) (0) (0) (by decide) (Or.inl (by decide)) (by rw [cl (n := v5366.toInt.toNat) (by omega)]; omega) (by decide) (fun h => absurd h (by decide))) (by decide) (by decide) (Or.inl (by decide)))
  have e5372 : I5371 (ad g 0) 10 = w5264 := by rw [eI5371, pp_ne _ _ (Or.inl (ly_ne hy (by decide) (by decide) (by decide)))]; exact e5355
  have e5373 : I5371 (ad g 0) 14 = w5265 := by rw [eI5371, pp_ne _ _ (Or.inl (ly_ne hy (by decide) (by decide) (by decide)))]; exact e5356
  have e5374 : I5371 (ad g 0) 68 = w5266 := by rw [eI5371, pp_ne _ _ (Or.inl (ly_ne hy (by decide) (by decide) (by decide)))]; exact e5357
  have e5375 : I5371 (ad g 39) 32 = w5262 := by rw [eI5371, pp_ne _ _ (Or.inr (by rw [cl (x := v5366) (n := v5366.toInt.toNat) (by omega)]; omega))]; exact e5358
  have e5376 : I5371 (ad g 39) 33 = w5263 := by rw [eI5371, pp_ne _ _ (Or.inr (by rw [cl (x := v5366) (n := v5366.toInt.toNat) (by omega)]; omega))]; exact e5359
  have e5377 : I5371 (ad g 24) v5269.toNatClampNeg = v5294 := by rw [eI5371, pp_ne _ _ (Or.inl (ly_ne hy (by decide) (by decide) (by decide)))]; exact e5360
  have e5378 : I5371 (ad g 8) so.toNatClampNeg = v5368 := by rw [eI5371, pp_ne _ _ (Or.inl (ly_ne hy (by decide) (by decide) (by decide)))]; exact ev5368
  have e5379 : I5371 (ad g 0) 1 = L := by rw [eI5371, pp_ne _ _ (Or.inl (ly_ne hy (by decide) (by decide) (by decide)))]; exact e5362
  have fr5380 : fs g [56] I I5371 := by rw [eI5371]; exact fs_ppn hy fr5363 (by decide) (by decide)
  have fr5381 : fz 49 g [0, 35, 36, 37, 40, 41, 39] I I5371 := by rw [eI5371]; exact fzm_pp hy fr5364 (by decide) (by decide)
  clear eI5371
  refine WP_aload_n dX11_sortDay_150 rfl ?_
  refine WQ_bipush (16) (16) dX11_sortDay_151 rfl rfl (fun v5382 hv5382 => ?_)
  refine WP_iload_n dX11_sortDay_153 rfl ?_
  refine WQ_iadd dX11_sortDay_154 (by omega) (by omega) (fun v5383 hv5383 => ?_)
  refine WP_dup2 dX11_sortDay_155 rfl rfl ?_
  refine WQ_ialdu dX11_sortDay_156 (ly_is hy 39 13 rfl) (ly_n hy 39 35 rfl) (by omega) (by omega) (fun v5384 => ?_)
  refine WP_iload dX11_sortDay_157 rfl ?_
  refine WQ_iconst (4) (4) dX11_sortDay_159 rfl rfl (fun v5385 hv5385 => ?_)
  refine WQ_iremk (4) dX11_sortDay_160 hv5385 (by decide) (by omega) (fun v5386 hv5386 => ?_)
  refine WP_iload dX11_sortDay_161 rfl ?_
  refine WQ_iconst (4) (4) dX11_sortDay_163 rfl rfl (fun v5387 hv5387 => ?_)
  refine WQ_idivk (4) dX11_sortDay_164 hv5387 (by decide) (by omega) (fun v5388 hv5388 => ?_)
  refine WQ_iconst (4) (4) dX11_sortDay_165 rfl rfl (fun v5389 hv5389 => ?_)
  refine WQ_iremk (4) dX11_sortDay_166 hv5389 (by decide) (by omega) (fun v5390 hv5390 => ?_)
  refine WQ_iadd dX11_sortDay_167 (by omega) (by omega) (fun v5391 hv5391 => ?_)
  refine WP_aload_n dX11_sortDay_168 rfl ?_
  refine WP_getr dX11_sortDay_169 fX11_267 rfl (ly_is hy 0 11 rfl) (rf hr 0 44 26 (by decide)) ?_
  refine WP_iload dX11_sortDay_172 rfl ?_
  refine WQ_iald dX11_sortDay_174 (ly_is hy 26 13 rfl) (ly_n hy 26 28 rfl) (by omega) (by omega) (fun q hq => BT_get hI5371.1.1 26 0 28 (0) (0) (99) (by decide) q (Nat.zero_le _) hq) (fun v5392 av5392 bv5392 ev5392 => ?_)
  refine WQ_imulb (6) (99) dX11_sortDay_175 ⟨by omega, by omega⟩ ⟨by omega, by omega⟩ (by decide) (fun v5393 pv5393 av5393 bv5393 cv5393 => ?_)
  refine WP_aload_n dX11_sortDay_176 rfl ?_
  refine WP_getr dX11_sortDay_177 fX11_235 rfl (ly_is hy 0 11 rfl) (rf hr 0 26 8 (by decide)) ?_
  refine WP_iload_n dX11_sortDay_180 rfl ?_
  refine WQ_ialdq (q := so.toInt.toNat) dX11_sortDay_181 (ly_is hy 8 13 rfl) (ly_n hy 8 4 rfl) (by omega) (by omega) (by omega) (pp_get hI5371 (by omega) (by rw [e5372]; omega)) (fun v5394 av5394 bv5394 ev5394 => ?_)
  refine WQ_imulb (594) (99) dX11_sortDay_182 ⟨by omega, by omega⟩ ⟨by omega, by omega⟩ (by decide) (fun v5395 pv5395 av5395 bv5395 cv5395 => ?_)
  refine WQ_iaddu dX11_sortDay_183 (fun v5396 => ?_)
  refine WQ_iast dX11_sortDay_184 (ly_is hy 39 13 rfl) (ly_n hy 39 35 rfl) (by omega) (by omega) (fun I5397 eI5397 => ?_)
  have hI5397 : MP g n L I5397 := by rw [eI5397]; exact (mp_w hy hI5371 (c := 39) (mi_rr hy hI5371.1 (c := 39) (16) (19) (0) (0) (0) (by decide) (Or.inl (by decide)) (by rw [cl (n := v5383.toInt.toNat) (by omega)]; omega) (by decide) (fun h => absurd h (by decide))) (by decide) (by decide) (Or.inl (by decide)))
  have e5398 : I5397 (ad g 0) 10 = w5264 := by rw [eI5397, pp_ne _ _ (Or.inl (ly_ne hy (by decide) (by decide) (by decide)))]; exact e5372
  have e5399 : I5397 (ad g 0) 14 = w5265 := by rw [eI5397, pp_ne _ _ (Or.inl (ly_ne hy (by decide) (by decide) (by decide)))]; exact e5373
  have e5400 : I5397 (ad g 0) 68 = w5266 := by rw [eI5397, pp_ne _ _ (Or.inl (ly_ne hy (by decide) (by decide) (by decide)))]; exact e5374
  have e5401 : I5397 (ad g 39) 32 = w5262 := by rw [eI5397, pp_ne _ _ (Or.inr (by rw [cl (x := v5383) (n := v5383.toInt.toNat) (by omega)]; omega))]; exact e5375
  have e5402 : I5397 (ad g 39) 33 = w5263 := by rw [eI5397, pp_ne _ _ (Or.inr (by rw [cl (x := v5383) (n := v5383.toInt.toNat) (by omega)]; omega))]; exact e5376
  have e5403 : I5397 (ad g 24) v5269.toNatClampNeg = v5294 := by rw [eI5397, pp_ne _ _ (Or.inl (ly_ne hy (by decide) (by decide) (by decide)))]; exact e5377
  have e5404 : I5397 (ad g 8) so.toNatClampNeg = v5394 := by rw [eI5397, pp_ne _ _ (Or.inl (ly_ne hy (by decide) (by decide) (by decide)))]; exact ev5394
  have e5405 : I5397 (ad g 0) 1 = L := by rw [eI5397, pp_ne _ _ (Or.inl (ly_ne hy (by decide) (by decide) (by decide)))]; exact e5379
  have e5406 : I5397 (ad g 26) v5269.toNatClampNeg = v5392 := by rw [eI5397, pp_ne _ _ (Or.inl (ly_ne hy (by decide) (by decide) (by decide)))]; exact ev5392
  have fr5407 : fs g [56] I I5397 := by rw [eI5397]; exact fs_ppn hy fr5380 (by decide) (by decide)
  have fr5408 : fz 49 g [0, 35, 36, 37, 40, 41, 39] I I5397 := by rw [eI5397]; exact fzm_pp hy fr5381 (by decide) (by decide)
  clear eI5397
  refine WP_aload_n dX11_sortDay_185 rfl ?_
  refine WQ_bipush (34) (34) dX11_sortDay_186 rfl rfl (fun v5409 hv5409 => ?_)
  refine WP_dup2 dX11_sortDay_188 rfl rfl ?_
  obtain ⟨w5411, ew5411⟩ : ∃ w : Int32, I5397 (ad g 39) 34 = w := ⟨_, rfl⟩
  refine WQ_ialdm (z := 34) dX11_sortDay_189 (ly_is hy 39 13 rfl) (ly_n hy 39 35 rfl) hv5409 (by decide) ew5411 ?_
  refine WP_iload dX11_sortDay_190 rfl ?_
  refine WQ_iconst (4) (4) dX11_sortDay_192 rfl rfl (fun v5412 hv5412 => ?_)
  refine WQ_iremk (4) dX11_sortDay_193 hv5412 (by decide) (by omega) (fun v5413 hv5413 => ?_)
  refine WP_iload dX11_sortDay_194 rfl ?_
  refine WQ_bipush (16) (16) dX11_sortDay_196 rfl rfl (fun v5414 hv5414 => ?_)
  refine WQ_idivk (16) dX11_sortDay_198 hv5414 (by decide) (by omega) (fun v5415 hv5415 => ?_)
  refine WQ_iadd dX11_sortDay_199 (by omega) (by omega) (fun v5416 hv5416 => ?_)
  refine WP_aload_n dX11_sortDay_200 rfl ?_
  refine WP_getr dX11_sortDay_201 fX11_235 rfl (ly_is hy 0 11 rfl) (rf hr 0 26 8 (by decide)) ?_
  refine WP_iload_n dX11_sortDay_204 rfl ?_
  refine WQ_ialdq (q := so.toInt.toNat) dX11_sortDay_205 (ly_is hy 8 13 rfl) (ly_n hy 8 4 rfl) (by omega) (by omega) (by omega) (pp_get hI5397 (by omega) (by rw [e5398]; omega)) (fun v5417 av5417 bv5417 ev5417 => ?_)
  refine WQ_imulb (5) (99) dX11_sortDay_206 ⟨by omega, by omega⟩ ⟨by omega, by omega⟩ (by decide) (fun v5418 pv5418 av5418 bv5418 cv5418 => ?_)
  refine WQ_iaddu dX11_sortDay_207 (fun v5419 => ?_)
  refine WQ_iast dX11_sortDay_208 (ly_is hy 39 13 rfl) (ly_n hy 39 35 rfl) (by omega) (by omega) (fun I5420 fI5420 => ?_)
  have eI5420 := fI5420
  rw [cl (x := v5409) (n := 34) (by omega)] at eI5420
  clear fI5420
  have hI5420 : MP g n L I5420 := by rw [eI5420]; exact (mp_w hy hI5397 (c := 39) (mi_f0 hy hI5397.1 (c := 39) (by decide) (Or.inl (by decide)) (by decide)) (by decide) (by decide) (Or.inl (by decide)))
  have e5421 : I5420 (ad g 0) 10 = w5264 := by rw [eI5420, pp_ne _ _ (Or.inl (ly_ne hy (by decide) (by decide) (by decide)))]; exact e5398
  have e5422 : I5420 (ad g 0) 14 = w5265 := by rw [eI5420, pp_ne _ _ (Or.inl (ly_ne hy (by decide) (by decide) (by decide)))]; exact e5399
  have e5423 : I5420 (ad g 0) 68 = w5266 := by rw [eI5420, pp_ne _ _ (Or.inl (ly_ne hy (by decide) (by decide) (by decide)))]; exact e5400
  have e5424 : I5420 (ad g 39) 32 = w5262 := by rw [eI5420, pp_ne _ _ (Or.inr (by decide))]; exact e5401
  have e5425 : I5420 (ad g 39) 33 = w5263 := by rw [eI5420, pp_ne _ _ (Or.inr (by decide))]; exact e5402
  have e5426 : I5420 (ad g 24) v5269.toNatClampNeg = v5294 := by rw [eI5420, pp_ne _ _ (Or.inl (ly_ne hy (by decide) (by decide) (by decide)))]; exact e5403
  have e5427 : I5420 (ad g 8) so.toNatClampNeg = v5417 := by rw [eI5420, pp_ne _ _ (Or.inl (ly_ne hy (by decide) (by decide) (by decide)))]; exact ev5417
  have e5428 : I5420 (ad g 0) 1 = L := by rw [eI5420, pp_ne _ _ (Or.inl (ly_ne hy (by decide) (by decide) (by decide)))]; exact e5405
  have e5429 : I5420 (ad g 26) v5269.toNatClampNeg = v5392 := by rw [eI5420, pp_ne _ _ (Or.inl (ly_ne hy (by decide) (by decide) (by decide)))]; exact e5406
  have e5430 : I5420 (ad g 39) 34 = v5419 := by rw [eI5420, pp_self]
  have fr5431 : fs g [56] I I5420 := by rw [eI5420]; exact fs_ppn hy fr5407 (by decide) (by decide)
  have fr5432 : fz 49 g [0, 35, 36, 37, 40, 41, 39] I I5420 := by rw [eI5420]; exact fzm_pp hy fr5408 (by decide) (by decide)
  clear eI5420
  refine WP_aload_n dX11_sortDay_209 rfl ?_
  refine WQ_iconst (0) (0) dX11_sortDay_210 rfl rfl (fun v5433 hv5433 => ?_)
  refine WP_iload_n dX11_sortDay_211 rfl ?_
  refine WQ_iadd dX11_sortDay_212 (by omega) (by omega) (fun v5434 hv5434 => ?_)
  refine WQ_ialdr dX11_sortDay_213 (ly_is hy 39 13 rfl) (ly_n hy 39 35 rfl) (by omega) (by omega) (a := 0) (b := 4) (by omega) (by omega) (fun q hq1 hq2 => BT_get hI5420.1.1 39 0 4 (0) (0) (60) (by decide) q hq1 hq2) (fun v5435 av5435 bv5435 => ?_)
  refine WQ_i2l dX11_sortDay_214 (fun l5436 hl5436 => ?_)
  refine WP_aload_n dX11_sortDay_215 rfl ?_
  refine WP_getr dX11_sortDay_216 fX11_235 rfl (ly_is hy 0 11 rfl) (rf hr 0 26 8 (by decide)) ?_
  refine WP_iload_n dX11_sortDay_219 rfl ?_
  refine WQ_ialdq (q := so.toInt.toNat) dX11_sortDay_220 (ly_is hy 8 13 rfl) (ly_n hy 8 4 rfl) (by omega) (by omega) (by omega) (pp_get hI5420 (by omega) (by rw [e5421]; omega)) (fun v5437 av5437 bv5437 ev5437 => ?_)
  refine WQ_i2l dX11_sortDay_221 (fun l5438 hl5438 => ?_)
  refine WQ_lmul dX11_sortDay_222 (fun l5439 => ?_)
  exact WP_lret dX11_sortDay_223 rfl ⟨⟨hI5420, rfl, fr5432, rfl, fr5431, ⟨trivial, (by rw [e5424, ew5262] <;> exact (eq32 _ _).mpr (by omega)), (by rw [e5425, ew5263] <;> exact (eq32 _ _).mpr (by omega)), (by rw [e5421, ew5264] <;> exact (eq32 _ _).mpr (by omega)), (by rw [e5422, ew5265] <;> exact (eq32 _ _).mpr (by omega)), (by rw [e5423, ew5266] <;> exact (eq32 _ _).mpr (by omega))⟩⟩, _, rfl⟩
