set_option maxHeartbeats 4000000 in
set_option maxRecDepth 100000 in
theorem sm_sortDay_38 {g : GG} {n : Int} {L : Int32} (hy : Ly g)  {I : pI} {J : pJ} {R : pR} (hr : Rf g R) (hI : MP g n L I) (so : Int32) (da : Int32) (so_lo : 0 ≤ so.toInt) (so_hi : so.toInt ≤ 3) (da_lo : 0 ≤ da.toInt) (da_hi : da.toInt ≤ 6) (hb : so.toInt < (I (ad g 0) 10).toInt) : SP g mX11_sortDay [.ref (ad g 0), .ref (ad g 38), .int so, .int da] I J R (fun r I' J' R' => (MP g n L I' ∧ R' = R ∧ fz 49 g [0, 35, 36, 37, 40, 41, 38] I I' ∧ J' = J ∧ fs g [56] I I' ∧ True ∧ I' (ad g 38) 32 = I (ad g 38) 32 ∧ I' (ad g 38) 33 = I (ad g 38) 33 ∧ I' (ad g 0) 10 = I (ad g 0) 10 ∧ I' (ad g 0) 14 = I (ad g 0) 14 ∧ I' (ad g 0) 68 = I (ad g 0) 68 ∧ I' (ad g 38) 28 = I (ad g 38) 28 ∧ I' (ad g 38) 29 = I (ad g 38) 29 ∧ I' (ad g 38) 30 = I (ad g 38) 30 ∧ I' (ad g 38) 31 = I (ad g 38) 31) ∧ ∃ v : Int64, r = some (.long v)) := by
  refine SP_of ⟨by decide, rfl⟩ (Nat.le_of_ble_eq_true rfl) ?_
  have e5080 : I (ad g 0) 1 = L := hI.1.2
  have b5081 := BT_get hI.1.1 0 1 2 (0) (0) (900) (by decide) 1 (by decide) (by decide)
  rw [e5080] at b5081
  have fr0 : fz 49 g [0, 35, 36, 37, 40, 41, 38] I I := fz_rf
  have frq0 : fs g [56] I I := fs_rf
  obtain ⟨w5082, ew5082⟩ : ∃ w : Int32, I (ad g 38) 32 = w := ⟨_, rfl⟩
  have bw5082 := BT_get hI.1.1 38 32 33 (0) (23760) (0) (by decide) 32 (by decide) (by decide)
  rw [ew5082] at bw5082
  obtain ⟨w5083, ew5083⟩ : ∃ w : Int32, I (ad g 38) 33 = w := ⟨_, rfl⟩
  have bw5083 := BT_get hI.1.1 38 33 34 (0) (1) (0) (by decide) 33 (by decide) (by decide)
  rw [ew5083] at bw5083
  obtain ⟨w5084, ew5084⟩ : ∃ w : Int32, I (ad g 0) 10 = w := ⟨_, rfl⟩
  have bw5084 := BT_get hI.1.1 0 10 11 (0) (0) (4) (by decide) 10 (by decide) (by decide)
  rw [ew5084] at bw5084
  obtain ⟨w5085, ew5085⟩ : ∃ w : Int32, I (ad g 0) 14 = w := ⟨_, rfl⟩
  have bw5085 := BT_get hI.1.1 0 14 15 (-1) (0) (2) (by decide) 14 (by decide) (by decide)
  rw [ew5085] at bw5085
  obtain ⟨w5086, ew5086⟩ : ∃ w : Int32, I (ad g 0) 68 = w := ⟨_, rfl⟩
  obtain ⟨w5087, ew5087⟩ : ∃ w : Int32, I (ad g 38) 28 = w := ⟨_, rfl⟩
  obtain ⟨w5088, ew5088⟩ : ∃ w : Int32, I (ad g 38) 29 = w := ⟨_, rfl⟩
  obtain ⟨w5089, ew5089⟩ : ∃ w : Int32, I (ad g 38) 30 = w := ⟨_, rfl⟩
  obtain ⟨w5090, ew5090⟩ : ∃ w : Int32, I (ad g 38) 31 = w := ⟨_, rfl⟩
  rw [ew5084] at hb
  refine WQ_bipush (7) (7) dX11_sortDay_0 rfl rfl (fun v5091 hv5091 => ?_)
  refine WP_iload_n dX11_sortDay_2 rfl ?_
  refine WQ_imulK (7) dX11_sortDay_3 hv5091 (by omega) (by omega) (fun v5092 hv5092 => ?_)
  refine WP_iload_n dX11_sortDay_4 rfl ?_
  refine WQ_iadd dX11_sortDay_5 (by omega) (by omega) (fun v5093 hv5093 => ?_)
  refine WP_istore (ls' := [(0, _), (1, _), (2, _), (3, _), (4, _)]) dX11_sortDay_6 (by decide) rfl ?_
  refine WP_aload_n dX11_sortDay_8 rfl ?_
  refine WP_iload_n dX11_sortDay_9 rfl ?_
  refine WP_iload_n dX11_sortDay_10 rfl ?_
  refine WP_aload_n dX11_sortDay_11 rfl ?_
  refine WQ_iconst (0) (0) dX11_sortDay_12 rfl rfl (fun v5094 hv5094 => ?_)
  refine WP_iload_n dX11_sortDay_13 rfl ?_
  refine WQ_iadd dX11_sortDay_14 (by omega) (by omega) (fun v5095 hv5095 => ?_)
  refine WQ_ialdr dX11_sortDay_15 (ly_is hy 38 13 rfl) (ly_n hy 38 35 rfl) (by omega) (by omega) (a := 0) (b := 4) (by omega) (by omega) (fun q hq1 hq2 => BT_get hI.1.1 38 0 4 (0) (0) (60) (by decide) q hq1 hq2) (fun v5096 av5096 bv5096 => ?_)
  refine WP_callV3 (k := 11) dX11_sortDay_16 ⟨⟨⟨by decide, by decide⟩, zX11_earned⟩, lX11_426, by decide, rfl, vX11_earned.1, vX11_earned.2⟩ (ly_is hy 0 11 rfl) (sm_earned hy hr hI so da v5096 (by omega) (by omega) (by omega) (by omega) (by omega) (by omega)) (Nat.le_of_ble_eq_true rfl) ?_
  intro r Ia Ja Ra hq
  obtain ⟨⟨ea, eb, ec⟩, v5097, rfl, av5097, bv5097⟩ := hq
  show WP _ _ _ _ (.int _ :: _) _ _ _ _
  rw [ea, eb, ec]
  clear ea eb ec Ia Ja Ra
  refine WP_istore (ls' := [(0, _), (1, _), (2, _), (3, _), (4, _), (5, _)]) dX11_sortDay_19 (by decide) rfl ?_
  refine WP_aload_n dX11_sortDay_21 rfl ?_
  refine WP_iload_n dX11_sortDay_22 rfl ?_
  refine WP_iload_n dX11_sortDay_23 rfl ?_
  refine WP_aload_n dX11_sortDay_24 rfl ?_
  refine WP_aload_n dX11_sortDay_25 rfl ?_
  refine WQ_bipush (28) (28) dX11_sortDay_26 rfl rfl (fun v5098 hv5098 => ?_)
  refine WP_iload_n dX11_sortDay_28 rfl ?_
  refine WQ_iadd dX11_sortDay_29 (by omega) (by omega) (fun v5099 hv5099 => ?_)
  refine WQ_ialdu dX11_sortDay_30 (ly_is hy 38 13 rfl) (ly_n hy 38 35 rfl) (by omega) (by omega) (fun v5100 => ?_)
  refine WP_iload_n dX11_sortDay_31 rfl ?_
  refine WP_iload_n dX11_sortDay_32 rfl ?_
  refine WP_iload dX11_sortDay_33 rfl ?_
  refine WP_aload_n dX11_sortDay_35 rfl ?_
  refine WQ_iconst (4) (4) dX11_sortDay_36 rfl rfl (fun v5101 hv5101 => ?_)
  refine WP_iload_n dX11_sortDay_37 rfl ?_
  refine WQ_iadd dX11_sortDay_38 (by omega) (by omega) (fun v5102 hv5102 => ?_)
  refine WQ_ialdq (q := v5102.toInt.toNat) dX11_sortDay_39 (ly_is hy 38 13 rfl) (ly_n hy 38 35 rfl) (by omega) (by omega) (by omega) (BT_get hI.1.1 38 4 8 (0) (0) (5) (by decide) _ (by omega) (by omega)) (fun v5103 av5103 bv5103 zv5103 => ?_)
  have yv5103 : I (ad g 38) (4 + so.toInt).toNat = v5103 := by rw [← zv5103, cl (x := v5102) (n := (4 + so.toInt).toNat) (by omega)]
  refine WP_callV5 (k := 11) dX11_sortDay_40 ⟨⟨⟨by decide, by decide⟩, zX11_actOf⟩, lX11_457, by decide, rfl, vX11_actOf.1, vX11_actOf.2⟩ (ly_is hy 0 11 rfl) (sm_actOf hy hr hI v5100 so da v5097 v5103  (by omega) (by omega) (by omega) (by omega) (by omega) (by omega) (by omega) (by omega)) (Nat.le_of_ble_eq_true rfl) ?_
  intro r I5104 J5105 Ra hq
  obtain ⟨⟨hI5104, ec, fiI5104, ejI5104, fqI5104, ⟨pI5104, sI5104_0_10, sI5104_0_14, sI5104_0_68⟩⟩, v5106, rfl, av5106, bv5106, cv5106⟩ := hq
  show WP _ _ _ _ (.int _ :: _) _ _ _ _
  rw [ec]
  clear ec Ra
  have fr5107 : fz 49 g [0, 35, 36, 37, 40, 41, 38] I I5104 := fz_tr fr0 (fz_mono fiI5104 (by decide))
  have fr5108 : fs g [56] I I5104 := fs_tr frq0 (fs_mono fqI5104 (by decide))
  rw [ejI5104]
  clear ejI5104 J5105
  have YI5104 : I5104 (ad g 38) (4 + so.toInt).toNat = v5103 := by rw [fz_at fiI5104 38 (by decide) (by decide)]; exact yv5103
  have e5109 : I5104 (ad g 0) 10 = w5084 := by rw [sI5104_0_10]; exact ew5084
  have e5110 : I5104 (ad g 0) 14 = w5085 := by rw [sI5104_0_14]; exact ew5085
  have e5111 : I5104 (ad g 0) 68 = w5086 := by rw [sI5104_0_68]; exact ew5086
  have e5112 : I5104 (ad g 38) 32 = w5082 := by rw [fz_at fiI5104 38 (by decide) (by decide)]; exact ew5082
  have e5113 : I5104 (ad g 38) 33 = w5083 := by rw [fz_at fiI5104 38 (by decide) (by decide)]; exact ew5083
  have e5114 : I5104 (ad g 38) 28 = w5087 := by rw [fz_at fiI5104 38 (by decide) (by decide)]; exact ew5087
  have e5115 : I5104 (ad g 38) 29 = w5088 := by rw [fz_at fiI5104 38 (by decide) (by decide)]; exact ew5088
  have e5116 : I5104 (ad g 38) 30 = w5089 := by rw [fz_at fiI5104 38 (by decide) (by decide)]; exact ew5089
  have e5117 : I5104 (ad g 38) 31 = w5090 := by rw [fz_at fiI5104 38 (by decide) (by decide)]; exact ew5090
  have e5118 : I5104 (ad g 0) 1 = L := hI5104.1.2
  have b5119 := BT_get hI5104.1.1 0 1 2 (0) (0) (900) (by decide) 1 (by decide) (by decide)
  rw [e5118] at b5119
  have am := cv5106
  rw [← fz_at fiI5104 22 (by decide) (by decide), ← fz_at fiI5104 24 (by decide) (by decide), ← fz_at fiI5104 25 (by decide) (by decide), ← sI5104_0_14] at am
  refine WP_callV3 (k := 11) dX11_sortDay_43 ⟨⟨⟨by decide, by decide⟩, zX11_cutAct⟩, lX11_461, by decide, rfl, vX11_cutAct.1, vX11_cutAct.2⟩ (ly_is hy 0 11 rfl) (sm_cutAct hy hr hI5104 so da v5106 (by omega) (by omega) (by omega) (by omega) (by omega) (by omega) (by rw [e5109]; omega)) (Nat.le_of_ble_eq_true rfl) ?_
  intro r Ia Ja Ra hq
  obtain ⟨⟨ea, eb, ec⟩, v5120, rfl, av5120, bv5120, cv5120⟩ := hq
  show WP _ _ _ _ (.int _ :: _) _ _ _ _
  rw [ea, eb, ec]
  clear ea eb ec Ia Ja Ra
  refine WP_istore (ls' := [(0, _), (1, _), (2, _), (3, _), (4, _), (5, _), (6, _)]) dX11_sortDay_46 (by decide) rfl ?_
  refine WP_aload_n dX11_sortDay_48 rfl ?_
  refine WP_iload_n dX11_sortDay_49 rfl ?_
  refine WP_iload_n dX11_sortDay_50 rfl ?_
  refine WP_iload dX11_sortDay_51 rfl ?_
  refine WP_callV3 (k := 11) dX11_sortDay_53 ⟨⟨⟨by decide, by decide⟩, zX11_paysFor⟩, lX11_405, by decide, rfl, vX11_paysFor.1, vX11_paysFor.2⟩ (ly_is hy 0 11 rfl) (sm_paysx hy hr hI5104 so da v5120 (by omega) (by omega) (by omega) (by omega) (by omega) (by omega)) (Nat.le_of_ble_eq_true rfl) ?_
  intro r Ia Ja Ra hq
  obtain ⟨⟨ea, eb, ec⟩, v5121, rfl, av5121, bv5121, cv5121⟩ := hq
  show WP _ _ _ _ (.int _ :: _) _ _ _ _
  rw [ea, eb, ec]
  clear ea eb ec Ia Ja Ra
  have cu := cv5120
  unfold AM AOKm at am
  obtain ⟨a0, a47, af, as, ap, au, aq⟩ := am
  unfold CUT at cu
  obtain ⟨u0, u1, u2, u3, u4, u5, u6⟩ := cu
  have b24 := BT_get hI5104.1.1 24 0 28 (-1) (0) (2) (by decide) (7 * so.toInt + da.toInt).toNat (Nat.zero_le _) (by omega)
  obtain ⟨e3, he3⟩ : ∃ z : Int, CA (I5104 (ad g 22)) (I5104 (ad g 24) (7 * so.toInt + da.toInt).toNat).toInt da.toInt = z := ⟨_, rfl⟩
  obtain ⟨e4, he4⟩ : ∃ z : Int, CA (I5104 (ad g 22)) (I5104 (ad g 0) 14).toInt da.toInt = z := ⟨_, rfl⟩
  have n3 : 0 ≤ e3 := by rw [← he3]; exact ca_nn hI5104 (by omega) (by omega) (by omega) (by omega)
  have n4 : 0 ≤ e4 := by rw [← he4]; exact ca_nn hI5104 (by rw [e5110]; omega) (by rw [e5110]; omega) (by omega) (by omega)
  have cp := cv5121
  rw [he3, he4] at cp ap
  have k1 : (v5120.toInt % 4) * e3 ≤ (v5106.toInt % 4) * e3 := Int.mul_le_mul_of_nonneg_right (by omega) n3
  have k2 : (v5120.toInt / 16) * e4 ≤ (v5106.toInt / 16) * e4 := Int.mul_le_mul_of_nonneg_right (by omega) n4
  have kp : v5121.toInt ≤ v5097.toInt := by omega
  have k5 : v5120.toInt / 4 % 4 ≤ v5103.toInt := by omega
  have k6 : v5103.toInt - v5120.toInt / 4 % 4 + v5120.toInt / 16 ≤ 5 := by omega
  refine WP_istore (ls' := [(0, _), (1, _), (2, _), (3, _), (4, _), (5, _), (6, _), (7, _)]) dX11_sortDay_56 (by decide) rfl ?_
  refine WP_aload_n dX11_sortDay_58 rfl ?_
  refine WP_aload_n dX11_sortDay_59 rfl ?_
  refine WP_getr dX11_sortDay_60 fX11_261 rfl (ly_is hy 0 11 rfl) (rf hr 0 42 24 (by decide)) ?_
  refine WP_iload dX11_sortDay_63 rfl ?_
  refine WQ_iald dX11_sortDay_65 (ly_is hy 24 13 rfl) (ly_n hy 24 28 rfl) (by omega) (by omega) (fun q hq => BT_get hI5104.1.1 24 0 28 (-1) (0) (2) (by decide) q (Nat.zero_le _) hq) (fun v5122 av5122 bv5122 ev5122 => ?_)
  refine WP_iload_n dX11_sortDay_66 rfl ?_
  refine WP_iload dX11_sortDay_67 rfl ?_
  refine WQ_iconst (4) (4) dX11_sortDay_69 rfl rfl (fun v5123 hv5123 => ?_)
  refine WQ_iremk (4) dX11_sortDay_70 hv5123 (by decide) (by omega) (fun v5124 hv5124 => ?_)
  refine WP_aload_n dX11_sortDay_71 rfl ?_
  refine WP_getr dX11_sortDay_72 fX11_235 rfl (ly_is hy 0 11 rfl) (rf hr 0 26 8 (by decide)) ?_
  refine WP_iload_n dX11_sortDay_75 rfl ?_
  refine WQ_ialdq (q := so.toInt.toNat) dX11_sortDay_76 (ly_is hy 8 13 rfl) (ly_n hy 8 4 rfl) (by omega) (by omega) (by omega) (pp_get hI5104 (by omega) (by rw [e5109]; omega)) (fun v5125 av5125 bv5125 ev5125 => ?_)
  refine WQ_imulb (3) (99) dX11_sortDay_77 ⟨by omega, by omega⟩ ⟨by omega, by omega⟩ (by decide) (fun v5126 pv5126 av5126 bv5126 cv5126 => ?_)
  have ew : I5104 (ad g 24) (7 * so.toInt + da.toInt).toNat = v5122 := by rw [← cl (x := v5093) (n := (7 * so.toInt + da.toInt).toNat) (by omega)]; exact ev5122
  have ep : (I5104 (ad g 8) so.toInt.toNat).toInt = v5125.toInt := by rw [← cl (x := so) (n := so.toInt.toNat) (by omega), ev5125]
  have hu1 : v5126.toInt = (v5120.toInt % 4) * v5125.toInt := by have q := pv5126; rw [hv5124] at q; exact q
  have hw1 : v5120.toInt % 4 = 0 ∨ v5122.toInt ≠ -1 := by
    by_cases z : v5120.toInt % 4 = 0
    · exact Or.inl z
    · right; rw [← ew]; exact wi_get hI5104 (by rw [e5109]; omega) (by omega)
  rw [ew] at u5 u6
  refine WP_callV3 (k := 11) dX11_sortDay_78 ⟨⟨⟨by decide, by decide⟩, zX11_takes⟩, lX11_464, by decide, rfl, vX11_takes.1, vX11_takes.2⟩ (ly_is hy 0 11 rfl) (sm_takes hy hr hI5104 v5122 da v5126 (by omega) (by omega) (by omega) (by omega) (by omega) (by omega) (tk1 u5 ep (by omega) hu1 hw1 (by omega))) (Nat.le_of_ble_eq_true rfl) ?_
  intro r I5127 J5128 Ra hq
  obtain ⟨⟨hI5127, ec, fiI5127, ejI5127, fqI5127, pI5127⟩, rfl⟩ := hq
  rw [ec]
  clear ec Ra
  have fr5129 : fz 49 g [0, 35, 36, 37, 40, 41, 38] I I5127 := fz_tr fr5107 (fz_mono fiI5127 (by decide))
  have fr5130 : fs g [56] I I5127 := fs_tr fr5108 (fs_mono fqI5127 (by decide))
  rw [ejI5127]
  clear ejI5127 J5128
  have YI5127 : I5127 (ad g 38) (4 + so.toInt).toNat = v5103 := by rw [fz_at fiI5127 38 (by decide) (by decide)]; exact YI5104
  have e5131 : I5127 (ad g 0) 10 = w5084 := by rw [fz_at fiI5127 0 (by decide) (by decide)]; exact e5109
  have e5132 : I5127 (ad g 0) 14 = w5085 := by rw [fz_at fiI5127 0 (by decide) (by decide)]; exact e5110
  have e5133 : I5127 (ad g 0) 68 = w5086 := by rw [fz_at fiI5127 0 (by decide) (by decide)]; exact e5111
  have e5134 : I5127 (ad g 38) 32 = w5082 := by rw [fz_at fiI5127 38 (by decide) (by decide)]; exact e5112
  have e5135 : I5127 (ad g 38) 33 = w5083 := by rw [fz_at fiI5127 38 (by decide) (by decide)]; exact e5113
  have e5136 : I5127 (ad g 38) 28 = w5087 := by rw [fz_at fiI5127 38 (by decide) (by decide)]; exact e5114
  have e5137 : I5127 (ad g 38) 29 = w5088 := by rw [fz_at fiI5127 38 (by decide) (by decide)]; exact e5115
  have e5138 : I5127 (ad g 38) 30 = w5089 := by rw [fz_at fiI5127 38 (by decide) (by decide)]; exact e5116
  have e5139 : I5127 (ad g 38) 31 = w5090 := by rw [fz_at fiI5127 38 (by decide) (by decide)]; exact e5117
  have e5140 : I5127 (ad g 24) v5093.toNatClampNeg = v5122 := by rw [fz_at fiI5127 24 (by decide) (by decide)]; exact ev5122
  have e5141 : I5127 (ad g 8) so.toNatClampNeg = v5125 := by rw [fz_at fiI5127 8 (by decide) (by decide)]; exact ev5125
  have e5142 : I5127 (ad g 0) 1 = L := hI5127.1.2
  have b5143 := BT_get hI5127.1.1 0 1 2 (0) (0) (900) (by decide) 1 (by decide) (by decide)
  rw [e5142] at b5143
  refine WP_aload_n dX11_sortDay_81 rfl ?_
  refine WP_aload_n dX11_sortDay_82 rfl ?_
  refine WQ_getim dX11_sortDay_83 fX11_224 rfl (ly_is hy 0 11 rfl) e5132 ?_
  refine WP_iload_n dX11_sortDay_86 rfl ?_
  refine WP_iload dX11_sortDay_87 rfl ?_
  refine WQ_bipush (16) (16) dX11_sortDay_89 rfl rfl (fun v5144 hv5144 => ?_)
  refine WQ_idivk (16) dX11_sortDay_91 hv5144 (by decide) (by omega) (fun v5145 hv5145 => ?_)
  refine WP_aload_n dX11_sortDay_92 rfl ?_
  refine WP_getr dX11_sortDay_93 fX11_235 rfl (ly_is hy 0 11 rfl) (rf hr 0 26 8 (by decide)) ?_
  refine WP_iload_n dX11_sortDay_96 rfl ?_
  refine WQ_ialdq (q := so.toInt.toNat) dX11_sortDay_97 (ly_is hy 8 13 rfl) (ly_n hy 8 4 rfl) (by omega) (by omega) (by omega) (pp_get hI5127 (by omega) (by rw [e5131]; omega)) (fun v5146 av5146 bv5146 ev5146 => ?_)
  refine WQ_imulb (2) (99) dX11_sortDay_98 ⟨by omega, by omega⟩ ⟨by omega, by omega⟩ (by decide) (fun v5147 pv5147 av5147 bv5147 cv5147 => ?_)
  have e14 : I5104 (ad g 0) 14 = w5085 := e5110
  rw [e14] at u6 aq
  have ep2 : (I5104 (ad g 8) so.toInt.toNat).toInt = v5146.toInt := by rw [← fz_at fiI5127 8 (by decide) (by decide), ← cl (x := so) (n := so.toInt.toNat) (by omega), ev5146]
  have hu2 : v5147.toInt = (v5120.toInt / 16) * v5146.toInt := by have q := pv5147; rw [hv5145] at q; exact q
  have hpp : v5125.toInt = v5146.toInt := by omega
  rw [hpp] at hu1
  refine WP_callV3 (k := 11) dX11_sortDay_99 ⟨⟨⟨by decide, by decide⟩, zX11_takes⟩, lX11_464, by decide, rfl, vX11_takes.1, vX11_takes.2⟩ (ly_is hy 0 11 rfl) (sm_takes hy hr hI5127 w5085 da v5147 (by omega) (by omega) (by omega) (by omega) (by omega) (by omega) (tk2 pI5127 u6 (by omega) ep2 (by omega) hu1 hu2 (by omega) (by omega))) (Nat.le_of_ble_eq_true rfl) ?_
  intro r I5148 J5149 Ra hq
  obtain ⟨⟨hI5148, ec, fiI5148, ejI5148, fqI5148, pI5148⟩, rfl⟩ := hq
  rw [ec]
  clear ec Ra
  have fr5150 : fz 49 g [0, 35, 36, 37, 40, 41, 38] I I5148 := fz_tr fr5129 (fz_mono fiI5148 (by decide))
  have fr5151 : fs g [56] I I5148 := fs_tr fr5130 (fs_mono fqI5148 (by decide))
  rw [ejI5148]
  clear ejI5148 J5149
  have YI5148 : I5148 (ad g 38) (4 + so.toInt).toNat = v5103 := by rw [fz_at fiI5148 38 (by decide) (by decide)]; exact YI5127
  have e5152 : I5148 (ad g 0) 10 = w5084 := by rw [fz_at fiI5148 0 (by decide) (by decide)]; exact e5131
  have e5153 : I5148 (ad g 0) 14 = w5085 := by rw [fz_at fiI5148 0 (by decide) (by decide)]; exact e5132
  have e5154 : I5148 (ad g 0) 68 = w5086 := by rw [fz_at fiI5148 0 (by decide) (by decide)]; exact e5133
  have e5155 : I5148 (ad g 38) 32 = w5082 := by rw [fz_at fiI5148 38 (by decide) (by decide)]; exact e5134
  have e5156 : I5148 (ad g 38) 33 = w5083 := by rw [fz_at fiI5148 38 (by decide) (by decide)]; exact e5135
  have e5157 : I5148 (ad g 38) 28 = w5087 := by rw [fz_at fiI5148 38 (by decide) (by decide)]; exact e5136
  have e5158 : I5148 (ad g 38) 29 = w5088 := by rw [fz_at fiI5148 38 (by decide) (by decide)]; exact e5137
  have e5159 : I5148 (ad g 38) 30 = w5089 := by rw [fz_at fiI5148 38 (by decide) (by decide)]; exact e5138
  have e5160 : I5148 (ad g 38) 31 = w5090 := by rw [fz_at fiI5148 38 (by decide) (by decide)]; exact e5139
  have e5161 : I5148 (ad g 24) v5093.toNatClampNeg = v5122 := by rw [fz_at fiI5148 24 (by decide) (by decide)]; exact e5140
  have e5162 : I5148 (ad g 8) so.toNatClampNeg = v5146 := by rw [fz_at fiI5148 8 (by decide) (by decide)]; exact ev5146
  have e5163 : I5148 (ad g 0) 1 = L := hI5148.1.2
  have b5164 := BT_get hI5148.1.1 0 1 2 (0) (0) (900) (by decide) 1 (by decide) (by decide)
  rw [e5163] at b5164
  refine WP_aload_n dX11_sortDay_102 rfl ?_
  refine WQ_iconst (0) (0) dX11_sortDay_103 rfl rfl (fun v5165 hv5165 => ?_)
  refine WP_iload_n dX11_sortDay_104 rfl ?_
  refine WQ_iadd dX11_sortDay_105 (by omega) (by omega) (fun v5166 hv5166 => ?_)
  refine WP_iload dX11_sortDay_106 rfl ?_
  refine WP_iload dX11_sortDay_108 rfl ?_
  refine WQ_isub dX11_sortDay_110 (by omega) (by omega) (fun v5167 hv5167 => ?_)
  refine WQ_iast dX11_sortDay_111 (ly_is hy 38 13 rfl) (ly_n hy 38 35 rfl) (by omega) (by omega) (fun I5168 eI5168 => ?_)
  have hI5168 : MP g n L I5168 := by rw [eI5168]; exact (mp_w hy hI5148 (c := 38) (mi_rr hy hI5148.1 (c := 38) (0) (3) (0) (0) (60) (by decide) (Or.inl (by decide)) (by rw [cl (n := v5166.toInt.toNat) (by omega)]; omega) (by decide) (fun _ => ⟨by omega, by omega⟩)) (by decide) (by decide) (Or.inl (by decide)))
  have e5169 : I5168 (ad g 0) 10 = w5084 := by rw [eI5168, pp_ne _ _ (Or.inl (ly_ne hy (by decide) (by decide) (by decide)))]; exact e5152
  have e5170 : I5168 (ad g 0) 14 = w5085 := by rw [eI5168, pp_ne _ _ (Or.inl (ly_ne hy (by decide) (by decide) (by decide)))]; exact e5153
  have e5171 : I5168 (ad g 0) 68 = w5086 := by rw [eI5168, pp_ne _ _ (Or.inl (ly_ne hy (by decide) (by decide) (by decide)))]; exact e5154
  have e5172 : I5168 (ad g 38) 32 = w5082 := by rw [eI5168, pp_ne _ _ (Or.inr (by rw [cl (x := v5166) (n := v5166.toInt.toNat) (by omega)]; omega))]; exact e5155
  have e5173 : I5168 (ad g 38) 33 = w5083 := by rw [eI5168, pp_ne _ _ (Or.inr (by rw [cl (x := v5166) (n := v5166.toInt.toNat) (by omega)]; omega))]; exact e5156
  have e5174 : I5168 (ad g 38) 28 = w5087 := by rw [eI5168, pp_ne _ _ (Or.inr (by rw [cl (x := v5166) (n := v5166.toInt.toNat) (by omega)]; omega))]; exact e5157
  have e5175 : I5168 (ad g 38) 29 = w5088 := by rw [eI5168, pp_ne _ _ (Or.inr (by rw [cl (x := v5166) (n := v5166.toInt.toNat) (by omega)]; omega))]; exact e5158
  have e5176 : I5168 (ad g 38) 30 = w5089 := by rw [eI5168, pp_ne _ _ (Or.inr (by rw [cl (x := v5166) (n := v5166.toInt.toNat) (by omega)]; omega))]; exact e5159
  have e5177 : I5168 (ad g 38) 31 = w5090 := by rw [eI5168, pp_ne _ _ (Or.inr (by rw [cl (x := v5166) (n := v5166.toInt.toNat) (by omega)]; omega))]; exact e5160
  have e5178 : I5168 (ad g 24) v5093.toNatClampNeg = v5122 := by rw [eI5168, pp_ne _ _ (Or.inl (ly_ne hy (by decide) (by decide) (by decide)))]; exact e5161
  have e5179 : I5168 (ad g 8) so.toNatClampNeg = v5146 := by rw [eI5168, pp_ne _ _ (Or.inl (ly_ne hy (by decide) (by decide) (by decide)))]; exact e5162
  have e5180 : I5168 (ad g 0) 1 = L := by rw [eI5168, pp_ne _ _ (Or.inl (ly_ne hy (by decide) (by decide) (by decide)))]; exact e5163
  have fr5181 : fs g [56] I I5168 := by rw [eI5168]; exact fs_ppn hy fr5151 (by decide) (by decide)
  have fr5182 : fz 49 g [0, 35, 36, 37, 40, 41, 38] I I5168 := by rw [eI5168]; exact fzm_pp hy fr5150 (by decide) (by decide)
  have YI5168 : I5168 (ad g 38) (4 + so.toInt).toNat = v5103 := by rw [eI5168, pp_ne _ _ (Or.inr (by rw [cl (x := v5166) (n := v5166.toInt.toNat) (by omega)]; omega))]; exact YI5148
  clear eI5168
  refine WP_aload_n dX11_sortDay_112 rfl ?_
  refine WQ_iconst (4) (4) dX11_sortDay_113 rfl rfl (fun v5183 hv5183 => ?_)
  refine WP_iload_n dX11_sortDay_114 rfl ?_
  refine WQ_iadd dX11_sortDay_115 (by omega) (by omega) (fun v5184 hv5184 => ?_)
  refine WP_dup2 dX11_sortDay_116 rfl rfl ?_
  refine WQ_ialdq (q := v5184.toInt.toNat) dX11_sortDay_117 (ly_is hy 38 13 rfl) (ly_n hy 38 35 rfl) (by omega) (by omega) (by omega) (BT_get hI5168.1.1 38 4 8 (0) (0) (5) (by decide) _ (by omega) (by omega)) (fun v5185 av5185 bv5185 zv5185 => ?_)
  have tv5185 : v5185.toInt = v5103.toInt := by rw [← zv5185, cl (x := v5184) (n := (4 + so.toInt).toNat) (by omega), YI5168]
  refine WP_iload dX11_sortDay_118 rfl ?_
  refine WQ_bipush (16) (16) dX11_sortDay_120 rfl rfl (fun v5186 hv5186 => ?_)
  refine WQ_idivk (16) dX11_sortDay_122 hv5186 (by decide) (by omega) (fun v5187 hv5187 => ?_)
  refine WP_iload dX11_sortDay_123 rfl ?_
  refine WQ_iconst (4) (4) dX11_sortDay_125 rfl rfl (fun v5188 hv5188 => ?_)
  refine WQ_idivk (4) dX11_sortDay_126 hv5188 (by decide) (by omega) (fun v5189 hv5189 => ?_)
  refine WQ_iconst (4) (4) dX11_sortDay_127 rfl rfl (fun v5190 hv5190 => ?_)
  refine WQ_iremk (4) dX11_sortDay_128 hv5190 (by decide) (by omega) (fun v5191 hv5191 => ?_)
  have q1 : v5191.toInt = v5120.toInt / 4 % 4 := by omega
  have q2 : v5187.toInt = v5120.toInt / 16 := by omega
  refine WQ_isub dX11_sortDay_129 (by omega) (by omega) (fun v5192 hv5192 => ?_)
  refine WQ_iadd dX11_sortDay_130 (by omega) (by omega) (fun v5193 hv5193 => ?_)
  have fin : 0 ≤ v5193.toInt ∧ v5193.toInt ≤ 5 := by clear u5 u6 aq hw1 au hu1 hu2 k1 k2 ap cp u2 u3 u4 af as; omega
  clear q1 q2 u5 u6 aq hw1 au hu1 hu2 k1 k2 ap cp u2 u3 u4 af as k5 k6
  refine WQ_iast dX11_sortDay_131 (ly_is hy 38 13 rfl) (ly_n hy 38 35 rfl) (by omega) (by omega) (fun I5194 eI5194 => ?_)
  have hI5194 : MP g n L I5194 := by rw [eI5194]; exact (mp_w hy hI5168 (c := 38) (mi_rr hy hI5168.1 (c := 38) (4) (7) (0) (0) (5) (by decide) (Or.inl (by decide)) (by rw [cl (n := v5184.toInt.toNat) (by omega)]; omega) (by decide) (fun _ => ⟨by omega, by omega⟩)) (by decide) (by decide) (Or.inl (by decide)))
  have e5195 : I5194 (ad g 0) 10 = w5084 := by rw [eI5194, pp_ne _ _ (Or.inl (ly_ne hy (by decide) (by decide) (by decide)))]; exact e5169
  have e5196 : I5194 (ad g 0) 14 = w5085 := by rw [eI5194, pp_ne _ _ (Or.inl (ly_ne hy (by decide) (by decide) (by decide)))]; exact e5170
  have e5197 : I5194 (ad g 0) 68 = w5086 := by rw [eI5194, pp_ne _ _ (Or.inl (ly_ne hy (by decide) (by decide) (by decide)))]; exact e5171
  have e5198 : I5194 (ad g 38) 32 = w5082 := by rw [eI5194, pp_ne _ _ (Or.inr (by rw [cl (x := v5184) (n := v5184.toInt.toNat) (by omega)]; omega))]; exact e5172
  have e5199 : I5194 (ad g 38) 33 = w5083 := by rw [eI5194, pp_ne _ _ (Or.inr (by rw [cl (x := v5184) (n := v5184.toInt.toNat) (by omega)]; omega))]; exact e5173
  have e5200 : I5194 (ad g 38) 28 = w5087 := by rw [eI5194, pp_ne _ _ (Or.inr (by rw [cl (x := v5184) (n := v5184.toInt.toNat) (by omega)]; omega))]; exact e5174
  have e5201 : I5194 (ad g 38) 29 = w5088 := by rw [eI5194, pp_ne _ _ (Or.inr (by rw [cl (x := v5184) (n := v5184.toInt.toNat) (by omega)]; omega))]; exact e5175
  have e5202 : I5194 (ad g 38) 30 = w5089 := by rw [eI5194, pp_ne _ _ (Or.inr (by rw [cl (x := v5184) (n := v5184.toInt.toNat) (by omega)]; omega))]; exact e5176
  have e5203 : I5194 (ad g 38) 31 = w5090 := by rw [eI5194, pp_ne _ _ (Or.inr (by rw [cl (x := v5184) (n := v5184.toInt.toNat) (by omega)]; omega))]; exact e5177
  have e5204 : I5194 (ad g 24) v5093.toNatClampNeg = v5122 := by rw [eI5194, pp_ne _ _ (Or.inl (ly_ne hy (by decide) (by decide) (by decide)))]; exact e5178
  have e5205 : I5194 (ad g 8) so.toNatClampNeg = v5146 := by rw [eI5194, pp_ne _ _ (Or.inl (ly_ne hy (by decide) (by decide) (by decide)))]; exact e5179
  have e5206 : I5194 (ad g 0) 1 = L := by rw [eI5194, pp_ne _ _ (Or.inl (ly_ne hy (by decide) (by decide) (by decide)))]; exact e5180
  have fr5207 : fs g [56] I I5194 := by rw [eI5194]; exact fs_ppn hy fr5181 (by decide) (by decide)
  have fr5208 : fz 49 g [0, 35, 36, 37, 40, 41, 38] I I5194 := by rw [eI5194]; exact fzm_pp hy fr5182 (by decide) (by decide)
  clear eI5194
  refine WP_aload_n dX11_sortDay_132 rfl ?_
  refine WQ_bipush (8) (8) dX11_sortDay_133 rfl rfl (fun v5209 hv5209 => ?_)
  refine WP_iload_n dX11_sortDay_135 rfl ?_
  refine WQ_iadd dX11_sortDay_136 (by omega) (by omega) (fun v5210 hv5210 => ?_)
  refine WP_dup2 dX11_sortDay_137 rfl rfl ?_
  refine WQ_ialdu dX11_sortDay_138 (ly_is hy 38 13 rfl) (ly_n hy 38 35 rfl) (by omega) (by omega) (fun v5211 => ?_)
  refine WP_iload dX11_sortDay_139 rfl ?_
  refine WP_aload_n dX11_sortDay_141 rfl ?_
  refine WP_getr dX11_sortDay_142 fX11_235 rfl (ly_is hy 0 11 rfl) (rf hr 0 26 8 (by decide)) ?_
  refine WP_iload_n dX11_sortDay_145 rfl ?_
  refine WQ_ialdq (q := so.toInt.toNat) dX11_sortDay_146 (ly_is hy 8 13 rfl) (ly_n hy 8 4 rfl) (by omega) (by omega) (by omega) (pp_get hI5194 (by omega) (by rw [e5195]; omega)) (fun v5212 av5212 bv5212 ev5212 => ?_)
  refine WQ_imulb (60) (99) dX11_sortDay_147 ⟨by omega, by omega⟩ ⟨by omega, by omega⟩ (by decide) (fun v5213 pv5213 av5213 bv5213 cv5213 => ?_)
  refine WQ_iaddu dX11_sortDay_148 (fun v5214 => ?_)
  refine WQ_iast dX11_sortDay_149 (ly_is hy 38 13 rfl) (ly_n hy 38 35 rfl) (by omega) (by omega) (fun I5215 eI5215 => ?_)
  have hI5215 : MP g n L I5215 := by rw [eI5215]; exact (mp_w hy hI5194 (c := 38) (mi_rr hy hI5194.1 (c := 38) (8) (11) (0) (0) (0) (by decide) (Or.inl (by decide)) (by rw [cl (n := v5210.toInt.toNat) (by omega)]; omega) (by decide) (fun h => absurd h (by decide))) (by decide) (by decide) (Or.inl (by decide)))
  have e5216 : I5215 (ad g 0) 10 = w5084 := by rw [eI5215, pp_ne _ _ (Or.inl (ly_ne hy (by decide) (by decide) (by decide)))]; exact e5195
  have e5217 : I5215 (ad g 0) 14 = w5085 := by rw [eI5215, pp_ne _ _ (Or.inl (ly_ne hy (by decide) (by decide) (by decide)))]; exact e5196
  have e5218 : I5215 (ad g 0) 68 = w5086 := by rw [eI5215, pp_ne _ _ (Or.inl (ly_ne hy (by decide) (by decide) (by decide)))]; exact e5197
  have e5219 : I5215 (ad g 38) 32 = w5082 := by rw [eI5215, pp_ne _ _ (Or.inr (by rw [cl (x := v5210) (n := v5210.toInt.toNat) (by omega)]; omega))]; exact e5198
  have e5220 : I5215 (ad g 38) 33 = w5083 := by rw [eI5215, pp_ne _ _ (Or.inr (by rw [cl (x := v5210) (n := v5210.toInt.toNat) (by omega)]; omega))]; exact e5199
  have e5221 : I5215 (ad g 38) 28 = w5087 := by rw [eI5215, pp_ne _ _ (Or.inr (by rw [cl (x := v5210) (n := v5210.toInt.toNat) (by omega)]; omega))]; exact e5200
  have e5222 : I5215 (ad g 38) 29 = w5088 := by rw [eI5215, pp_ne _ _ (Or.inr (by rw [cl (x := v5210) (n := v5210.toInt.toNat) (by omega)]; omega))]; exact e5201
  have e5223 : I5215 (ad g 38) 30 = w5089 := by rw [eI5215, pp_ne _ _ (Or.inr (by rw [cl (x := v5210) (n := v5210.toInt.toNat) (by omega)]; omega))]; exact e5202
  have e5224 : I5215 (ad g 38) 31 = w5090 := by rw [eI5215, pp_ne _ _ (Or.inr (by rw [cl (x := v5210) (n := v5210.toInt.toNat) (by omega)]; omega))]; exact e5203
  have e5225 : I5215 (ad g 24) v5093.toNatClampNeg = v5122 := by rw [eI5215, pp_ne _ _ (Or.inl (ly_ne hy (by decide) (by decide) (by decide)))]; exact e5204
  have e5226 : I5215 (ad g 8) so.toNatClampNeg = v5212 := by rw [eI5215, pp_ne _ _ (Or.inl (ly_ne hy (by decide) (by decide) (by decide)))]; exact ev5212
  have e5227 : I5215 (ad g 0) 1 = L := by rw [eI5215, pp_ne _ _ (Or.inl (ly_ne hy (by decide) (by decide) (by decide)))]; exact e5206
  have fr5228 : fs g [56] I I5215 := by rw [eI5215]; exact fs_ppn hy fr5207 (by decide) (by decide)
  have fr5229 : fz 49 g [0, 35, 36, 37, 40, 41, 38] I I5215 := by rw [eI5215]; exact fzm_pp hy fr5208 (by decide) (by decide)
  clear eI5215
  refine WP_aload_n dX11_sortDay_150 rfl ?_
  refine WQ_bipush (16) (16) dX11_sortDay_151 rfl rfl (fun v5230 hv5230 => ?_)
  refine WP_iload_n dX11_sortDay_153 rfl ?_
  refine WQ_iadd dX11_sortDay_154 (by omega) (by omega) (fun v5231 hv5231 => ?_)
  refine WP_dup2 dX11_sortDay_155 rfl rfl ?_
  refine WQ_ialdu dX11_sortDay_156 (ly_is hy 38 13 rfl) (ly_n hy 38 35 rfl) (by omega) (by omega) (fun v5232 => ?_)
  refine WP_iload dX11_sortDay_157 rfl ?_
  refine WQ_iconst (4) (4) dX11_sortDay_159 rfl rfl (fun v5233 hv5233 => ?_)
  refine WQ_iremk (4) dX11_sortDay_160 hv5233 (by decide) (by omega) (fun v5234 hv5234 => ?_)
  refine WP_iload dX11_sortDay_161 rfl ?_
  refine WQ_iconst (4) (4) dX11_sortDay_163 rfl rfl (fun v5235 hv5235 => ?_)
  refine WQ_idivk (4) dX11_sortDay_164 hv5235 (by decide) (by omega) (fun v5236 hv5236 => ?_)
  refine WQ_iconst (4) (4) dX11_sortDay_165 rfl rfl (fun v5237 hv5237 => ?_)
  refine WQ_iremk (4) dX11_sortDay_166 hv5237 (by decide) (by omega) (fun v5238 hv5238 => ?_)
  refine WQ_iadd dX11_sortDay_167 (by omega) (by omega) (fun v5239 hv5239 => ?_)
  refine WP_aload_n dX11_sortDay_168 rfl ?_
  refine WP_getr dX11_sortDay_169 fX11_267 rfl (ly_is hy 0 11 rfl) (rf hr 0 44 26 (by decide)) ?_
  refine WP_iload dX11_sortDay_172 rfl ?_
  refine WQ_iald dX11_sortDay_174 (ly_is hy 26 13 rfl) (ly_n hy 26 28 rfl) (by omega) (by omega) (fun q hq => BT_get hI5215.1.1 26 0 28 (0) (0) (99) (by decide) q (Nat.zero_le _) hq) (fun v5240 av5240 bv5240 ev5240 => ?_)
  refine WQ_imulb (6) (99) dX11_sortDay_175 ⟨by omega, by omega⟩ ⟨by omega, by omega⟩ (by decide) (fun v5241 pv5241 av5241 bv5241 cv5241 => ?_)
  refine WP_aload_n dX11_sortDay_176 rfl ?_
  refine WP_getr dX11_sortDay_177 fX11_235 rfl (ly_is hy 0 11 rfl) (rf hr 0 26 8 (by decide)) ?_
  refine WP_iload_n dX11_sortDay_180 rfl ?_
  refine WQ_ialdq (q := so.toInt.toNat) dX11_sortDay_181 (ly_is hy 8 13 rfl) (ly_n hy 8 4 rfl) (by omega) (by omega) (by omega) (pp_get hI5215 (by omega) (by rw [e5216]; omega)) (fun v5242 av5242 bv5242 ev5242 => ?_)
  refine WQ_imulb (594) (99) dX11_sortDay_182 ⟨by omega, by omega⟩ ⟨by omega, by omega⟩ (by decide) (fun v5243 pv5243 av5243 bv5243 cv5243 => ?_)
  refine WQ_iaddu dX11_sortDay_183 (fun v5244 => ?_)
  refine WQ_iast dX11_sortDay_184 (ly_is hy 38 13 rfl) (ly_n hy 38 35 rfl) (by omega) (by omega) (fun I5245 eI5245 => ?_)
  have hI5245 : MP g n L I5245 := by rw [eI5245]; exact (mp_w hy hI5215 (c := 38) (mi_rr hy hI5215.1 (c := 38) (16) (19) (0) (0) (0) (by decide) (Or.inl (by decide)) (by rw [cl (n := v5231.toInt.toNat) (by omega)]; omega) (by decide) (fun h => absurd h (by decide))) (by decide) (by decide) (Or.inl (by decide)))
  have e5246 : I5245 (ad g 0) 10 = w5084 := by rw [eI5245, pp_ne _ _ (Or.inl (ly_ne hy (by decide) (by decide) (by decide)))]; exact e5216
  have e5247 : I5245 (ad g 0) 14 = w5085 := by rw [eI5245, pp_ne _ _ (Or.inl (ly_ne hy (by decide) (by decide) (by decide)))]; exact e5217
  have e5248 : I5245 (ad g 0) 68 = w5086 := by rw [eI5245, pp_ne _ _ (Or.inl (ly_ne hy (by decide) (by decide) (by decide)))]; exact e5218
  have e5249 : I5245 (ad g 38) 32 = w5082 := by rw [eI5245, pp_ne _ _ (Or.inr (by rw [cl (x := v5231) (n := v5231.toInt.toNat) (by omega)]; omega))]; exact e5219
  have e5250 : I5245 (ad g 38) 33 = w5083 := by rw [eI5245, pp_ne _ _ (Or.inr (by rw [cl (x := v5231) (n := v5231.toInt.toNat) (by omega)]; omega))]; exact e5220
  have e5251 : I5245 (ad g 38) 28 = w5087 := by rw [eI5245, pp_ne _ _ (Or.inr (by rw [cl (x := v5231) (n := v5231.toInt.toNat) (by omega)]; omega))]; exact e5221
  have e5252 : I5245 (ad g 38) 29 = w5088 := by rw [eI5245, pp_ne _ _ (Or.inr (by rw [cl (x := v5231) (n := v5231.toInt.toNat) (by omega)]; omega))]; exact e5222
  have e5253 : I5245 (ad g 38) 30 = w5089 := by rw [eI5245, pp_ne _ _ (Or.inr (by rw [cl (x := v5231) (n := v5231.toInt.toNat) (by omega)]; omega))]; exact e5223
  have e5254 : I5245 (ad g 38) 31 = w5090 := by rw [eI5245, pp_ne _ _ (Or.inr (by rw [cl (x := v5231) (n := v5231.toInt.toNat) (by omega)]; omega))]; exact e5224
  have e5255 : I5245 (ad g 24) v5093.toNatClampNeg = v5122 := by rw [eI5245, pp_ne _ _ (Or.inl (ly_ne hy (by decide) (by decide) (by decide)))]; exact e5225
  have e5256 : I5245 (ad g 8) so.toNatClampNeg = v5242 := by rw [eI5245, pp_ne _ _ (Or.inl (ly_ne hy (by decide) (by decide) (by decide)))]; exact ev5242
  have e5257 : I5245 (ad g 0) 1 = L := by rw [eI5245, pp_ne _ _ (Or.inl (ly_ne hy (by decide) (by decide) (by decide)))]; exact e5227
  have e5258 : I5245 (ad g 26) v5093.toNatClampNeg = v5240 := by rw [eI5245, pp_ne _ _ (Or.inl (ly_ne hy (by decide) (by decide) (by decide)))]; exact ev5240
  have fr5259 : fs g [56] I I5245 := by rw [eI5245]; exact fs_ppn hy fr5228 (by decide) (by decide)
  have fr5260 : fz 49 g [0, 35, 36, 37, 40, 41, 38] I I5245 := by rw [eI5245]; exact fzm_pp hy fr5229 (by decide) (by decide)
  clear eI5245
  refine WP_aload_n dX11_sortDay_185 rfl ?_
  refine WQ_bipush (34) (34) dX11_sortDay_186 rfl rfl (fun v5261 hv5261 => ?_)
  refine WP_dup2 dX11_sortDay_188 rfl rfl ?_
  obtain ⟨w5263, ew5263⟩ : ∃ w : Int32, I5245 (ad g 38) 34 = w := ⟨_, rfl⟩
  refine WQ_ialdm (z := 34) dX11_sortDay_189 (ly_is hy 38 13 rfl) (ly_n hy 38 35 rfl) hv5261 (by decide) ew5263 ?_
  refine WP_iload dX11_sortDay_190 rfl ?_
  refine WQ_iconst (4) (4) dX11_sortDay_192 rfl rfl (fun v5264 hv5264 => ?_)
  refine WQ_iremk (4) dX11_sortDay_193 hv5264 (by decide) (by omega) (fun v5265 hv5265 => ?_)
  refine WP_iload dX11_sortDay_194 rfl ?_
  refine WQ_bipush (16) (16) dX11_sortDay_196 rfl rfl (fun v5266 hv5266 => ?_)
  refine WQ_idivk (16) dX11_sortDay_198 hv5266 (by decide) (by omega) (fun v5267 hv5267 => ?_)
  refine WQ_iadd dX11_sortDay_199 (by omega) (by omega) (fun v5268 hv5268 => ?_)
  refine WP_aload_n dX11_sortDay_200 rfl ?_
  refine WP_getr dX11_sortDay_201 fX11_235 rfl (ly_is hy 0 11 rfl) (rf hr 0 26 8 (by decide)) ?_
  refine WP_iload_n dX11_sortDay_204 rfl ?_
  refine WQ_ialdq (q := so.toInt.toNat) dX11_sortDay_205 (ly_is hy 8 13 rfl) (ly_n hy 8 4 rfl) (by omega) (by omega) (by omega) (pp_get hI5245 (by omega) (by rw [e5246]; omega)) (fun v5269 av5269 bv5269 ev5269 => ?_)
  refine WQ_imulb (5) (99) dX11_sortDay_206 ⟨by omega, by omega⟩ ⟨by omega, by omega⟩ (by decide) (fun v5270 pv5270 av5270 bv5270 cv5270 => ?_)
  refine WQ_iaddu dX11_sortDay_207 (fun v5271 => ?_)
  refine WQ_iast dX11_sortDay_208 (ly_is hy 38 13 rfl) (ly_n hy 38 35 rfl) (by omega) (by omega) (fun I5272 fI5272 => ?_)
  have eI5272 := fI5272
  rw [cl (x := v5261) (n := 34) (by omega)] at eI5272
  clear fI5272
  have hI5272 : MP g n L I5272 := by rw [eI5272]; exact (mp_w hy hI5245 (c := 38) (mi_f0 hy hI5245.1 (c := 38) (by decide) (Or.inl (by decide)) (by decide)) (by decide) (by decide) (Or.inl (by decide)))
  have e5273 : I5272 (ad g 0) 10 = w5084 := by rw [eI5272, pp_ne _ _ (Or.inl (ly_ne hy (by decide) (by decide) (by decide)))]; exact e5246
  have e5274 : I5272 (ad g 0) 14 = w5085 := by rw [eI5272, pp_ne _ _ (Or.inl (ly_ne hy (by decide) (by decide) (by decide)))]; exact e5247
  have e5275 : I5272 (ad g 0) 68 = w5086 := by rw [eI5272, pp_ne _ _ (Or.inl (ly_ne hy (by decide) (by decide) (by decide)))]; exact e5248
  have e5276 : I5272 (ad g 38) 32 = w5082 := by rw [eI5272, pp_ne _ _ (Or.inr (by decide))]; exact e5249
  have e5277 : I5272 (ad g 38) 33 = w5083 := by rw [eI5272, pp_ne _ _ (Or.inr (by decide))]; exact e5250
  have e5278 : I5272 (ad g 38) 28 = w5087 := by rw [eI5272, pp_ne _ _ (Or.inr (by decide))]; exact e5251
  have e5279 : I5272 (ad g 38) 29 = w5088 := by rw [eI5272, pp_ne _ _ (Or.inr (by decide))]; exact e5252
  have e5280 : I5272 (ad g 38) 30 = w5089 := by rw [eI5272, pp_ne _ _ (Or.inr (by decide))]; exact e5253
  have e5281 : I5272 (ad g 38) 31 = w5090 := by rw [eI5272, pp_ne _ _ (Or.inr (by decide))]; exact e5254
  have e5282 : I5272 (ad g 24) v5093.toNatClampNeg = v5122 := by rw [eI5272, pp_ne _ _ (Or.inl (ly_ne hy (by decide) (by decide) (by decide)))]; exact e5255
  have e5283 : I5272 (ad g 8) so.toNatClampNeg = v5269 := by rw [eI5272, pp_ne _ _ (Or.inl (ly_ne hy (by decide) (by decide) (by decide)))]; exact ev5269
  have e5284 : I5272 (ad g 0) 1 = L := by rw [eI5272, pp_ne _ _ (Or.inl (ly_ne hy (by decide) (by decide) (by decide)))]; exact e5257
  have e5285 : I5272 (ad g 26) v5093.toNatClampNeg = v5240 := by rw [eI5272, pp_ne _ _ (Or.inl (ly_ne hy (by decide) (by decide) (by decide)))]; exact e5258
  have e5286 : I5272 (ad g 38) 34 = v5271 := by rw [eI5272, pp_self]
  have fr5287 : fs g [56] I I5272 := by rw [eI5272]; exact fs_ppn hy fr5259 (by decide) (by decide)
  have fr5288 : fz 49 g [0, 35, 36, 37, 40, 41, 38] I I5272 := by rw [eI5272]; exact fzm_pp hy fr5260 (by decide) (by decide)
  clear eI5272
  refine WP_aload_n dX11_sortDay_209 rfl ?_
  refine WQ_iconst (0) (0) dX11_sortDay_210 rfl rfl (fun v5289 hv5289 => ?_)
  refine WP_iload_n dX11_sortDay_211 rfl ?_
  refine WQ_iadd dX11_sortDay_212 (by omega) (by omega) (fun v5290 hv5290 => ?_)
  refine WQ_ialdr dX11_sortDay_213 (ly_is hy 38 13 rfl) (ly_n hy 38 35 rfl) (by omega) (by omega) (a := 0) (b := 4) (by omega) (by omega) (fun q hq1 hq2 => BT_get hI5272.1.1 38 0 4 (0) (0) (60) (by decide) q hq1 hq2) (fun v5291 av5291 bv5291 => ?_)
  refine WQ_i2l dX11_sortDay_214 (fun l5292 hl5292 => ?_)
  refine WP_aload_n dX11_sortDay_215 rfl ?_
  refine WP_getr dX11_sortDay_216 fX11_235 rfl (ly_is hy 0 11 rfl) (rf hr 0 26 8 (by decide)) ?_
  refine WP_iload_n dX11_sortDay_219 rfl ?_
  refine WQ_ialdq (q := so.toInt.toNat) dX11_sortDay_220 (ly_is hy 8 13 rfl) (ly_n hy 8 4 rfl) (by omega) (by omega) (by omega) (pp_get hI5272 (by omega) (by rw [e5273]; omega)) (fun v5293 av5293 bv5293 ev5293 => ?_)
  refine WQ_i2l dX11_sortDay_221 (fun l5294 hl5294 => ?_)
  refine WQ_lmul dX11_sortDay_222 (fun l5295 => ?_)
  exact WP_lret dX11_sortDay_223 rfl ⟨⟨hI5272, rfl, fr5288, rfl, fr5287, ⟨trivial, (by rw [e5276, ew5082] <;> exact (eq32 _ _).mpr (by omega)), (by rw [e5277, ew5083] <;> exact (eq32 _ _).mpr (by omega)), (by rw [e5273, ew5084] <;> exact (eq32 _ _).mpr (by omega)), (by rw [e5274, ew5085] <;> exact (eq32 _ _).mpr (by omega)), (by rw [e5275, ew5086] <;> exact (eq32 _ _).mpr (by omega)), (by rw [e5278, ew5087] <;> exact (eq32 _ _).mpr (by omega)), (by rw [e5279, ew5088] <;> exact (eq32 _ _).mpr (by omega)), (by rw [e5280, ew5089] <;> exact (eq32 _ _).mpr (by omega)), (by rw [e5281, ew5090] <;> exact (eq32 _ _).mpr (by omega))⟩⟩, _, rfl⟩
set_option maxHeartbeats 4000000 in
set_option maxRecDepth 100000 in
theorem sm_sortDay_39 {g : GG} {n : Int} {L : Int32} (hy : Ly g)  {I : pI} {J : pJ} {R : pR} (hr : Rf g R) (hI : MP g n L I) (so : Int32) (da : Int32) (so_lo : 0 ≤ so.toInt) (so_hi : so.toInt ≤ 3) (da_lo : 0 ≤ da.toInt) (da_hi : da.toInt ≤ 6) (hb : so.toInt < (I (ad g 0) 10).toInt) : SP g mX11_sortDay [.ref (ad g 0), .ref (ad g 39), .int so, .int da] I J R (fun r I' J' R' => (MP g n L I' ∧ R' = R ∧ fz 49 g [0, 35, 36, 37, 40, 41, 39] I I' ∧ J' = J ∧ fs g [56] I I' ∧ True ∧ I' (ad g 39) 32 = I (ad g 39) 32 ∧ I' (ad g 39) 33 = I (ad g 39) 33 ∧ I' (ad g 0) 10 = I (ad g 0) 10 ∧ I' (ad g 0) 14 = I (ad g 0) 14 ∧ I' (ad g 0) 68 = I (ad g 0) 68) ∧ ∃ v : Int64, r = some (.long v)) := by
  refine SP_of ⟨by decide, rfl⟩ (Nat.le_of_ble_eq_true rfl) ?_
  have e5296 : I (ad g 0) 1 = L := hI.1.2
  have b5297 := BT_get hI.1.1 0 1 2 (0) (0) (900) (by decide) 1 (by decide) (by decide)
  rw [e5296] at b5297
  have fr0 : fz 49 g [0, 35, 36, 37, 40, 41, 39] I I := fz_rf
  have frq0 : fs g [56] I I := fs_rf
  obtain ⟨w5298, ew5298⟩ : ∃ w : Int32, I (ad g 39) 32 = w := ⟨_, rfl⟩
  have bw5298 := BT_get hI.1.1 39 32 33 (0) (23760) (700000) (by decide) 32 (by decide) (by decide)
  rw [ew5298] at bw5298
  obtain ⟨w5299, ew5299⟩ : ∃ w : Int32, I (ad g 39) 33 = w := ⟨_, rfl⟩
  have bw5299 := BT_get hI.1.1 39 33 34 (0) (1) (30) (by decide) 33 (by decide) (by decide)
  rw [ew5299] at bw5299
  obtain ⟨w5300, ew5300⟩ : ∃ w : Int32, I (ad g 0) 10 = w := ⟨_, rfl⟩
  have bw5300 := BT_get hI.1.1 0 10 11 (0) (0) (4) (by decide) 10 (by decide) (by decide)
  rw [ew5300] at bw5300
  obtain ⟨w5301, ew5301⟩ : ∃ w : Int32, I (ad g 0) 14 = w := ⟨_, rfl⟩
  have bw5301 := BT_get hI.1.1 0 14 15 (-1) (0) (2) (by decide) 14 (by decide) (by decide)
  rw [ew5301] at bw5301
  obtain ⟨w5302, ew5302⟩ : ∃ w : Int32, I (ad g 0) 68 = w := ⟨_, rfl⟩
  rw [ew5300] at hb
  refine WQ_bipush (7) (7) dX11_sortDay_0 rfl rfl (fun v5303 hv5303 => ?_)
  refine WP_iload_n dX11_sortDay_2 rfl ?_
  refine WQ_imulK (7) dX11_sortDay_3 hv5303 (by omega) (by omega) (fun v5304 hv5304 => ?_)
  refine WP_iload_n dX11_sortDay_4 rfl ?_
  refine WQ_iadd dX11_sortDay_5 (by omega) (by omega) (fun v5305 hv5305 => ?_)
  refine WP_istore (ls' := [(0, _), (1, _), (2, _), (3, _), (4, _)]) dX11_sortDay_6 (by decide) rfl ?_
  refine WP_aload_n dX11_sortDay_8 rfl ?_
  refine WP_iload_n dX11_sortDay_9 rfl ?_
  refine WP_iload_n dX11_sortDay_10 rfl ?_
  refine WP_aload_n dX11_sortDay_11 rfl ?_
  refine WQ_iconst (0) (0) dX11_sortDay_12 rfl rfl (fun v5306 hv5306 => ?_)
  refine WP_iload_n dX11_sortDay_13 rfl ?_
  refine WQ_iadd dX11_sortDay_14 (by omega) (by omega) (fun v5307 hv5307 => ?_)
  refine WQ_ialdr dX11_sortDay_15 (ly_is hy 39 13 rfl) (ly_n hy 39 35 rfl) (by omega) (by omega) (a := 0) (b := 4) (by omega) (by omega) (fun q hq1 hq2 => BT_get hI.1.1 39 0 4 (0) (0) (60) (by decide) q hq1 hq2) (fun v5308 av5308 bv5308 => ?_)
  refine WP_callV3 (k := 11) dX11_sortDay_16 ⟨⟨⟨by decide, by decide⟩, zX11_earned⟩, lX11_426, by decide, rfl, vX11_earned.1, vX11_earned.2⟩ (ly_is hy 0 11 rfl) (sm_earned hy hr hI so da v5308 (by omega) (by omega) (by omega) (by omega) (by omega) (by omega)) (Nat.le_of_ble_eq_true rfl) ?_
  intro r Ia Ja Ra hq
  obtain ⟨⟨ea, eb, ec⟩, v5309, rfl, av5309, bv5309⟩ := hq
  show WP _ _ _ _ (.int _ :: _) _ _ _ _
  rw [ea, eb, ec]
  clear ea eb ec Ia Ja Ra
  refine WP_istore (ls' := [(0, _), (1, _), (2, _), (3, _), (4, _), (5, _)]) dX11_sortDay_19 (by decide) rfl ?_
  refine WP_aload_n dX11_sortDay_21 rfl ?_
  refine WP_iload_n dX11_sortDay_22 rfl ?_
  refine WP_iload_n dX11_sortDay_23 rfl ?_
  refine WP_aload_n dX11_sortDay_24 rfl ?_
  refine WP_aload_n dX11_sortDay_25 rfl ?_
  refine WQ_bipush (28) (28) dX11_sortDay_26 rfl rfl (fun v5310 hv5310 => ?_)
  refine WP_iload_n dX11_sortDay_28 rfl ?_
  refine WQ_iadd dX11_sortDay_29 (by omega) (by omega) (fun v5311 hv5311 => ?_)
  refine WQ_ialdu dX11_sortDay_30 (ly_is hy 39 13 rfl) (ly_n hy 39 35 rfl) (by omega) (by omega) (fun v5312 => ?_)
  refine WP_iload_n dX11_sortDay_31 rfl ?_
  refine WP_iload_n dX11_sortDay_32 rfl ?_
  refine WP_iload dX11_sortDay_33 rfl ?_
  refine WP_aload_n dX11_sortDay_35 rfl ?_
  refine WQ_iconst (4) (4) dX11_sortDay_36 rfl rfl (fun v5313 hv5313 => ?_)
  refine WP_iload_n dX11_sortDay_37 rfl ?_
  refine WQ_iadd dX11_sortDay_38 (by omega) (by omega) (fun v5314 hv5314 => ?_)
  refine WQ_ialdq (q := v5314.toInt.toNat) dX11_sortDay_39 (ly_is hy 39 13 rfl) (ly_n hy 39 35 rfl) (by omega) (by omega) (by omega) (BT_get hI.1.1 39 4 8 (0) (0) (5) (by decide) _ (by omega) (by omega)) (fun v5315 av5315 bv5315 zv5315 => ?_)
  have yv5315 : I (ad g 39) (4 + so.toInt).toNat = v5315 := by rw [← zv5315, cl (x := v5314) (n := (4 + so.toInt).toNat) (by omega)]
  refine WP_callV5 (k := 11) dX11_sortDay_40 ⟨⟨⟨by decide, by decide⟩, zX11_actOf⟩, lX11_457, by decide, rfl, vX11_actOf.1, vX11_actOf.2⟩ (ly_is hy 0 11 rfl) (sm_actOf hy hr hI v5312 so da v5309 v5315  (by omega) (by omega) (by omega) (by omega) (by omega) (by omega) (by omega) (by omega)) (Nat.le_of_ble_eq_true rfl) ?_
  intro r I5316 J5317 Ra hq
  obtain ⟨⟨hI5316, ec, fiI5316, ejI5316, fqI5316, ⟨pI5316, sI5316_0_10, sI5316_0_14, sI5316_0_68⟩⟩, v5318, rfl, av5318, bv5318, cv5318⟩ := hq
  show WP _ _ _ _ (.int _ :: _) _ _ _ _
  rw [ec]
  clear ec Ra
  have fr5319 : fz 49 g [0, 35, 36, 37, 40, 41, 39] I I5316 := fz_tr fr0 (fz_mono fiI5316 (by decide))
  have fr5320 : fs g [56] I I5316 := fs_tr frq0 (fs_mono fqI5316 (by decide))
  rw [ejI5316]
  clear ejI5316 J5317
  have YI5316 : I5316 (ad g 39) (4 + so.toInt).toNat = v5315 := by rw [fz_at fiI5316 39 (by decide) (by decide)]; exact yv5315
  have e5321 : I5316 (ad g 0) 10 = w5300 := by rw [sI5316_0_10]; exact ew5300
  have e5322 : I5316 (ad g 0) 14 = w5301 := by rw [sI5316_0_14]; exact ew5301
  have e5323 : I5316 (ad g 0) 68 = w5302 := by rw [sI5316_0_68]; exact ew5302
  have e5324 : I5316 (ad g 39) 32 = w5298 := by rw [fz_at fiI5316 39 (by decide) (by decide)]; exact ew5298
  have e5325 : I5316 (ad g 39) 33 = w5299 := by rw [fz_at fiI5316 39 (by decide) (by decide)]; exact ew5299
  have e5326 : I5316 (ad g 0) 1 = L := hI5316.1.2
  have b5327 := BT_get hI5316.1.1 0 1 2 (0) (0) (900) (by decide) 1 (by decide) (by decide)
  rw [e5326] at b5327
  have am := cv5318
  rw [← fz_at fiI5316 22 (by decide) (by decide), ← fz_at fiI5316 24 (by decide) (by decide), ← fz_at fiI5316 25 (by decide) (by decide), ← sI5316_0_14] at am
  refine WP_callV3 (k := 11) dX11_sortDay_43 ⟨⟨⟨by decide, by decide⟩, zX11_cutAct⟩, lX11_461, by decide, rfl, vX11_cutAct.1, vX11_cutAct.2⟩ (ly_is hy 0 11 rfl) (sm_cutAct hy hr hI5316 so da v5318 (by omega) (by omega) (by omega) (by omega) (by omega) (by omega) (by rw [e5321]; omega)) (Nat.le_of_ble_eq_true rfl) ?_
  intro r Ia Ja Ra hq
  obtain ⟨⟨ea, eb, ec⟩, v5328, rfl, av5328, bv5328, cv5328⟩ := hq
  show WP _ _ _ _ (.int _ :: _) _ _ _ _
  rw [ea, eb, ec]
  clear ea eb ec Ia Ja Ra
  refine WP_istore (ls' := [(0, _), (1, _), (2, _), (3, _), (4, _), (5, _), (6, _)]) dX11_sortDay_46 (by decide) rfl ?_
  refine WP_aload_n dX11_sortDay_48 rfl ?_
  refine WP_iload_n dX11_sortDay_49 rfl ?_
  refine WP_iload_n dX11_sortDay_50 rfl ?_
  refine WP_iload dX11_sortDay_51 rfl ?_
  refine WP_callV3 (k := 11) dX11_sortDay_53 ⟨⟨⟨by decide, by decide⟩, zX11_paysFor⟩, lX11_405, by decide, rfl, vX11_paysFor.1, vX11_paysFor.2⟩ (ly_is hy 0 11 rfl) (sm_paysx hy hr hI5316 so da v5328 (by omega) (by omega) (by omega) (by omega) (by omega) (by omega)) (Nat.le_of_ble_eq_true rfl) ?_
  intro r Ia Ja Ra hq
  obtain ⟨⟨ea, eb, ec⟩, v5329, rfl, av5329, bv5329, cv5329⟩ := hq
  show WP _ _ _ _ (.int _ :: _) _ _ _ _
  rw [ea, eb, ec]
  clear ea eb ec Ia Ja Ra
  have cu := cv5328
  unfold AM AOKm at am
  obtain ⟨a0, a47, af, as, ap, au, aq⟩ := am
  unfold CUT at cu
  obtain ⟨u0, u1, u2, u3, u4, u5, u6⟩ := cu
  have b24 := BT_get hI5316.1.1 24 0 28 (-1) (0) (2) (by decide) (7 * so.toInt + da.toInt).toNat (Nat.zero_le _) (by omega)
  obtain ⟨e3, he3⟩ : ∃ z : Int, CA (I5316 (ad g 22)) (I5316 (ad g 24) (7 * so.toInt + da.toInt).toNat).toInt da.toInt = z := ⟨_, rfl⟩
  obtain ⟨e4, he4⟩ : ∃ z : Int, CA (I5316 (ad g 22)) (I5316 (ad g 0) 14).toInt da.toInt = z := ⟨_, rfl⟩
  have n3 : 0 ≤ e3 := by rw [← he3]; exact ca_nn hI5316 (by omega) (by omega) (by omega) (by omega)
  have n4 : 0 ≤ e4 := by rw [← he4]; exact ca_nn hI5316 (by rw [e5322]; omega) (by rw [e5322]; omega) (by omega) (by omega)
  have cp := cv5329
  rw [he3, he4] at cp ap
  have k1 : (v5328.toInt % 4) * e3 ≤ (v5318.toInt % 4) * e3 := Int.mul_le_mul_of_nonneg_right (by omega) n3
  have k2 : (v5328.toInt / 16) * e4 ≤ (v5318.toInt / 16) * e4 := Int.mul_le_mul_of_nonneg_right (by omega) n4
  have kp : v5329.toInt ≤ v5309.toInt := by omega
  have k5 : v5328.toInt / 4 % 4 ≤ v5315.toInt := by omega
  have k6 : v5315.toInt - v5328.toInt / 4 % 4 + v5328.toInt / 16 ≤ 5 := by omega
  refine WP_istore (ls' := [(0, _), (1, _), (2, _), (3, _), (4, _), (5, _), (6, _), (7, _)]) dX11_sortDay_56 (by decide) rfl ?_
  refine WP_aload_n dX11_sortDay_58 rfl ?_
  refine WP_aload_n dX11_sortDay_59 rfl ?_
  refine WP_getr dX11_sortDay_60 fX11_261 rfl (ly_is hy 0 11 rfl) (rf hr 0 42 24 (by decide)) ?_
  refine WP_iload dX11_sortDay_63 rfl ?_
  refine WQ_iald dX11_sortDay_65 (ly_is hy 24 13 rfl) (ly_n hy 24 28 rfl) (by omega) (by omega) (fun q hq => BT_get hI5316.1.1 24 0 28 (-1) (0) (2) (by decide) q (Nat.zero_le _) hq) (fun v5330 av5330 bv5330 ev5330 => ?_)
  refine WP_iload_n dX11_sortDay_66 rfl ?_
  refine WP_iload dX11_sortDay_67 rfl ?_
  refine WQ_iconst (4) (4) dX11_sortDay_69 rfl rfl (fun v5331 hv5331 => ?_)
  refine WQ_iremk (4) dX11_sortDay_70 hv5331 (by decide) (by omega) (fun v5332 hv5332 => ?_)
  refine WP_aload_n dX11_sortDay_71 rfl ?_
  refine WP_getr dX11_sortDay_72 fX11_235 rfl (ly_is hy 0 11 rfl) (rf hr 0 26 8 (by decide)) ?_
  refine WP_iload_n dX11_sortDay_75 rfl ?_
  refine WQ_ialdq (q := so.toInt.toNat) dX11_sortDay_76 (ly_is hy 8 13 rfl) (ly_n hy 8 4 rfl) (by omega) (by omega) (by omega) (pp_get hI5316 (by omega) (by rw [e5321]; omega)) (fun v5333 av5333 bv5333 ev5333 => ?_)
  refine WQ_imulb (3) (99) dX11_sortDay_77 ⟨by omega, by omega⟩ ⟨by omega, by omega⟩ (by decide) (fun v5334 pv5334 av5334 bv5334 cv5334 => ?_)
  have ew : I5316 (ad g 24) (7 * so.toInt + da.toInt).toNat = v5330 := by rw [← cl (x := v5305) (n := (7 * so.toInt + da.toInt).toNat) (by omega)]; exact ev5330
  have ep : (I5316 (ad g 8) so.toInt.toNat).toInt = v5333.toInt := by rw [← cl (x := so) (n := so.toInt.toNat) (by omega), ev5333]
  have hu1 : v5334.toInt = (v5328.toInt % 4) * v5333.toInt := by have q := pv5334; rw [hv5332] at q; exact q
  have hw1 : v5328.toInt % 4 = 0 ∨ v5330.toInt ≠ -1 := by
    by_cases z : v5328.toInt % 4 = 0
    · exact Or.inl z
    · right; rw [← ew]; exact wi_get hI5316 (by rw [e5321]; omega) (by omega)
  rw [ew] at u5 u6
  refine WP_callV3 (k := 11) dX11_sortDay_78 ⟨⟨⟨by decide, by decide⟩, zX11_takes⟩, lX11_464, by decide, rfl, vX11_takes.1, vX11_takes.2⟩ (ly_is hy 0 11 rfl) (sm_takes hy hr hI5316 v5330 da v5334 (by omega) (by omega) (by omega) (by omega) (by omega) (by omega) (tk1 u5 ep (by omega) hu1 hw1 (by omega))) (Nat.le_of_ble_eq_true rfl) ?_
  intro r I5335 J5336 Ra hq
  obtain ⟨⟨hI5335, ec, fiI5335, ejI5335, fqI5335, pI5335⟩, rfl⟩ := hq
  rw [ec]
  clear ec Ra
  have fr5337 : fz 49 g [0, 35, 36, 37, 40, 41, 39] I I5335 := fz_tr fr5319 (fz_mono fiI5335 (by decide))
  have fr5338 : fs g [56] I I5335 := fs_tr fr5320 (fs_mono fqI5335 (by decide))
  rw [ejI5335]
  clear ejI5335 J5336
  have YI5335 : I5335 (ad g 39) (4 + so.toInt).toNat = v5315 := by rw [fz_at fiI5335 39 (by decide) (by decide)]; exact YI5316
  have e5339 : I5335 (ad g 0) 10 = w5300 := by rw [fz_at fiI5335 0 (by decide) (by decide)]; exact e5321
  have e5340 : I5335 (ad g 0) 14 = w5301 := by rw [fz_at fiI5335 0 (by decide) (by decide)]; exact e5322
  have e5341 : I5335 (ad g 0) 68 = w5302 := by rw [fz_at fiI5335 0 (by decide) (by decide)]; exact e5323
  have e5342 : I5335 (ad g 39) 32 = w5298 := by rw [fz_at fiI5335 39 (by decide) (by decide)]; exact e5324
  have e5343 : I5335 (ad g 39) 33 = w5299 := by rw [fz_at fiI5335 39 (by decide) (by decide)]; exact e5325
  have e5344 : I5335 (ad g 24) v5305.toNatClampNeg = v5330 := by rw [fz_at fiI5335 24 (by decide) (by decide)]; exact ev5330
  have e5345 : I5335 (ad g 8) so.toNatClampNeg = v5333 := by rw [fz_at fiI5335 8 (by decide) (by decide)]; exact ev5333
  have e5346 : I5335 (ad g 0) 1 = L := hI5335.1.2
  have b5347 := BT_get hI5335.1.1 0 1 2 (0) (0) (900) (by decide) 1 (by decide) (by decide)
  rw [e5346] at b5347
  refine WP_aload_n dX11_sortDay_81 rfl ?_
  refine WP_aload_n dX11_sortDay_82 rfl ?_
  refine WQ_getim dX11_sortDay_83 fX11_224 rfl (ly_is hy 0 11 rfl) e5340 ?_
  refine WP_iload_n dX11_sortDay_86 rfl ?_
  refine WP_iload dX11_sortDay_87 rfl ?_
  refine WQ_bipush (16) (16) dX11_sortDay_89 rfl rfl (fun v5348 hv5348 => ?_)
  refine WQ_idivk (16) dX11_sortDay_91 hv5348 (by decide) (by omega) (fun v5349 hv5349 => ?_)
  refine WP_aload_n dX11_sortDay_92 rfl ?_
  refine WP_getr dX11_sortDay_93 fX11_235 rfl (ly_is hy 0 11 rfl) (rf hr 0 26 8 (by decide)) ?_
  refine WP_iload_n dX11_sortDay_96 rfl ?_
  refine WQ_ialdq (q := so.toInt.toNat) dX11_sortDay_97 (ly_is hy 8 13 rfl) (ly_n hy 8 4 rfl) (by omega) (by omega) (by omega) (pp_get hI5335 (by omega) (by rw [e5339]; omega)) (fun v5350 av5350 bv5350 ev5350 => ?_)
  refine WQ_imulb (2) (99) dX11_sortDay_98 ⟨by omega, by omega⟩ ⟨by omega, by omega⟩ (by decide) (fun v5351 pv5351 av5351 bv5351 cv5351 => ?_)
  have e14 : I5316 (ad g 0) 14 = w5301 := e5322
  rw [e14] at u6 aq
  have ep2 : (I5316 (ad g 8) so.toInt.toNat).toInt = v5350.toInt := by rw [← fz_at fiI5335 8 (by decide) (by decide), ← cl (x := so) (n := so.toInt.toNat) (by omega), ev5350]
  have hu2 : v5351.toInt = (v5328.toInt / 16) * v5350.toInt := by have q := pv5351; rw [hv5349] at q; exact q
  have hpp : v5333.toInt = v5350.toInt := by omega
  rw [hpp] at hu1
  refine WP_callV3 (k := 11) dX11_sortDay_99 ⟨⟨⟨by decide, by decide⟩, zX11_takes⟩, lX11_464, by decide, rfl, vX11_takes.1, vX11_takes.2⟩ (ly_is hy 0 11 rfl) (sm_takes hy hr hI5335 w5301 da v5351 (by omega) (by omega) (by omega) (by omega) (by omega) (by omega) (tk2 pI5335 u6 (by omega) ep2 (by omega) hu1 hu2 (by omega) (by omega))) (Nat.le_of_ble_eq_true rfl) ?_
  intro r I5352 J5353 Ra hq
  obtain ⟨⟨hI5352, ec, fiI5352, ejI5352, fqI5352, pI5352⟩, rfl⟩ := hq
  rw [ec]
  clear ec Ra
  have fr5354 : fz 49 g [0, 35, 36, 37, 40, 41, 39] I I5352 := fz_tr fr5337 (fz_mono fiI5352 (by decide))
  have fr5355 : fs g [56] I I5352 := fs_tr fr5338 (fs_mono fqI5352 (by decide))
  rw [ejI5352]
  clear ejI5352 J5353
  have YI5352 : I5352 (ad g 39) (4 + so.toInt).toNat = v5315 := by rw [fz_at fiI5352 39 (by decide) (by decide)]; exact YI5335
  have e5356 : I5352 (ad g 0) 10 = w5300 := by rw [fz_at fiI5352 0 (by decide) (by decide)]; exact e5339
  have e5357 : I5352 (ad g 0) 14 = w5301 := by rw [fz_at fiI5352 0 (by decide) (by decide)]; exact e5340
  have e5358 : I5352 (ad g 0) 68 = w5302 := by rw [fz_at fiI5352 0 (by decide) (by decide)]; exact e5341
  have e5359 : I5352 (ad g 39) 32 = w5298 := by rw [fz_at fiI5352 39 (by decide) (by decide)]; exact e5342
  have e5360 : I5352 (ad g 39) 33 = w5299 := by rw [fz_at fiI5352 39 (by decide) (by decide)]; exact e5343
  have e5361 : I5352 (ad g 24) v5305.toNatClampNeg = v5330 := by rw [fz_at fiI5352 24 (by decide) (by decide)]; exact e5344
  have e5362 : I5352 (ad g 8) so.toNatClampNeg = v5350 := by rw [fz_at fiI5352 8 (by decide) (by decide)]; exact ev5350
  have e5363 : I5352 (ad g 0) 1 = L := hI5352.1.2
  have b5364 := BT_get hI5352.1.1 0 1 2 (0) (0) (900) (by decide) 1 (by decide) (by decide)
  rw [e5363] at b5364
  refine WP_aload_n dX11_sortDay_102 rfl ?_
  refine WQ_iconst (0) (0) dX11_sortDay_103 rfl rfl (fun v5365 hv5365 => ?_)
  refine WP_iload_n dX11_sortDay_104 rfl ?_
  refine WQ_iadd dX11_sortDay_105 (by omega) (by omega) (fun v5366 hv5366 => ?_)
  refine WP_iload dX11_sortDay_106 rfl ?_
  refine WP_iload dX11_sortDay_108 rfl ?_
  refine WQ_isub dX11_sortDay_110 (by omega) (by omega) (fun v5367 hv5367 => ?_)
  refine WQ_iast dX11_sortDay_111 (ly_is hy 39 13 rfl) (ly_n hy 39 35 rfl) (by omega) (by omega) (fun I5368 eI5368 => ?_)
  have hI5368 : MP g n L I5368 := by rw [eI5368]; exact (mp_w hy hI5352 (c := 39) (mi_rr hy hI5352.1 (c := 39) (0) (3) (0) (0) (60) (by decide) (Or.inl (by decide)) (by rw [cl (n := v5366.toInt.toNat) (by omega)]; omega) (by decide) (fun _ => ⟨by omega, by omega⟩)) (by decide) (by decide) (Or.inl (by decide)))
  have e5369 : I5368 (ad g 0) 10 = w5300 := by rw [eI5368, pp_ne _ _ (Or.inl (ly_ne hy (by decide) (by decide) (by decide)))]; exact e5356
  have e5370 : I5368 (ad g 0) 14 = w5301 := by rw [eI5368, pp_ne _ _ (Or.inl (ly_ne hy (by decide) (by decide) (by decide)))]; exact e5357
  have e5371 : I5368 (ad g 0) 68 = w5302 := by rw [eI5368, pp_ne _ _ (Or.inl (ly_ne hy (by decide) (by decide) (by decide)))]; exact e5358
  have e5372 : I5368 (ad g 39) 32 = w5298 := by rw [eI5368, pp_ne _ _ (Or.inr (by rw [cl (x := v5366) (n := v5366.toInt.toNat) (by omega)]; omega))]; exact e5359
  have e5373 : I5368 (ad g 39) 33 = w5299 := by rw [eI5368, pp_ne _ _ (Or.inr (by rw [cl (x := v5366) (n := v5366.toInt.toNat) (by omega)]; omega))]; exact e5360
  have e5374 : I5368 (ad g 24) v5305.toNatClampNeg = v5330 := by rw [eI5368, pp_ne _ _ (Or.inl (ly_ne hy (by decide) (by decide) (by decide)))]; exact e5361
  have e5375 : I5368 (ad g 8) so.toNatClampNeg = v5350 := by rw [eI5368, pp_ne _ _ (Or.inl (ly_ne hy (by decide) (by decide) (by decide)))]; exact e5362
  have e5376 : I5368 (ad g 0) 1 = L := by rw [eI5368, pp_ne _ _ (Or.inl (ly_ne hy (by decide) (by decide) (by decide)))]; exact e5363
  have fr5377 : fs g [56] I I5368 := by rw [eI5368]; exact fs_ppn hy fr5355 (by decide) (by decide)
  have fr5378 : fz 49 g [0, 35, 36, 37, 40, 41, 39] I I5368 := by rw [eI5368]; exact fzm_pp hy fr5354 (by decide) (by decide)
  have YI5368 : I5368 (ad g 39) (4 + so.toInt).toNat = v5315 := by rw [eI5368, pp_ne _ _ (Or.inr (by rw [cl (x := v5366) (n := v5366.toInt.toNat) (by omega)]; omega))]; exact YI5352
  clear eI5368
  refine WP_aload_n dX11_sortDay_112 rfl ?_
  refine WQ_iconst (4) (4) dX11_sortDay_113 rfl rfl (fun v5379 hv5379 => ?_)
  refine WP_iload_n dX11_sortDay_114 rfl ?_
  refine WQ_iadd dX11_sortDay_115 (by omega) (by omega) (fun v5380 hv5380 => ?_)
  refine WP_dup2 dX11_sortDay_116 rfl rfl ?_
  refine WQ_ialdq (q := v5380.toInt.toNat) dX11_sortDay_117 (ly_is hy 39 13 rfl) (ly_n hy 39 35 rfl) (by omega) (by omega) (by omega) (BT_get hI5368.1.1 39 4 8 (0) (0) (5) (by decide) _ (by omega) (by omega)) (fun v5381 av5381 bv5381 zv5381 => ?_)
  have tv5381 : v5381.toInt = v5315.toInt := by rw [← zv5381, cl (x := v5380) (n := (4 + so.toInt).toNat) (by omega), YI5368]
  refine WP_iload dX11_sortDay_118 rfl ?_
  refine WQ_bipush (16) (16) dX11_sortDay_120 rfl rfl (fun v5382 hv5382 => ?_)
  refine WQ_idivk (16) dX11_sortDay_122 hv5382 (by decide) (by omega) (fun v5383 hv5383 => ?_)
  refine WP_iload dX11_sortDay_123 rfl ?_
  refine WQ_iconst (4) (4) dX11_sortDay_125 rfl rfl (fun v5384 hv5384 => ?_)
  refine WQ_idivk (4) dX11_sortDay_126 hv5384 (by decide) (by omega) (fun v5385 hv5385 => ?_)
  refine WQ_iconst (4) (4) dX11_sortDay_127 rfl rfl (fun v5386 hv5386 => ?_)
  refine WQ_iremk (4) dX11_sortDay_128 hv5386 (by decide) (by omega) (fun v5387 hv5387 => ?_)
  have q1 : v5387.toInt = v5328.toInt / 4 % 4 := by omega
  have q2 : v5383.toInt = v5328.toInt / 16 := by omega
  refine WQ_isub dX11_sortDay_129 (by omega) (by omega) (fun v5388 hv5388 => ?_)
  refine WQ_iadd dX11_sortDay_130 (by omega) (by omega) (fun v5389 hv5389 => ?_)
  have fin : 0 ≤ v5389.toInt ∧ v5389.toInt ≤ 5 := by clear u5 u6 aq hw1 au hu1 hu2 k1 k2 ap cp u2 u3 u4 af as; omega
  clear q1 q2 u5 u6 aq hw1 au hu1 hu2 k1 k2 ap cp u2 u3 u4 af as k5 k6
  refine WQ_iast dX11_sortDay_131 (ly_is hy 39 13 rfl) (ly_n hy 39 35 rfl) (by omega) (by omega) (fun I5390 eI5390 => ?_)
  have hI5390 : MP g n L I5390 := by rw [eI5390]; exact (mp_w hy hI5368 (c := 39) (mi_rr hy hI5368.1 (c := 39) (4) (7) (0) (0) (5) (by decide) (Or.inl (by decide)) (by rw [cl (n := v5380.toInt.toNat) (by omega)]; omega) (by decide) (fun _ => ⟨by omega, by omega⟩)) (by decide) (by decide) (Or.inl (by decide)))
  have e5391 : I5390 (ad g 0) 10 = w5300 := by rw [eI5390, pp_ne _ _ (Or.inl (ly_ne hy (by decide) (by decide) (by decide)))]; exact e5369
  have e5392 : I5390 (ad g 0) 14 = w5301 := by rw [eI5390, pp_ne _ _ (Or.inl (ly_ne hy (by decide) (by decide) (by decide)))]; exact e5370
  have e5393 : I5390 (ad g 0) 68 = w5302 := by rw [eI5390, pp_ne _ _ (Or.inl (ly_ne hy (by decide) (by decide) (by decide)))]; exact e5371
  have e5394 : I5390 (ad g 39) 32 = w5298 := by rw [eI5390, pp_ne _ _ (Or.inr (by rw [cl (x := v5380) (n := v5380.toInt.toNat) (by omega)]; omega))]; exact e5372
  have e5395 : I5390 (ad g 39) 33 = w5299 := by rw [eI5390, pp_ne _ _ (Or.inr (by rw [cl (x := v5380) (n := v5380.toInt.toNat) (by omega)]; omega))]; exact e5373
  have e5396 : I5390 (ad g 24) v5305.toNatClampNeg = v5330 := by rw [eI5390, pp_ne _ _ (Or.inl (ly_ne hy (by decide) (by decide) (by decide)))]; exact e5374
  have e5397 : I5390 (ad g 8) so.toNatClampNeg = v5350 := by rw [eI5390, pp_ne _ _ (Or.inl (ly_ne hy (by decide) (by decide) (by decide)))]; exact e5375
  have e5398 : I5390 (ad g 0) 1 = L := by rw [eI5390, pp_ne _ _ (Or.inl (ly_ne hy (by decide) (by decide) (by decide)))]; exact e5376
  have fr5399 : fs g [56] I I5390 := by rw [eI5390]; exact fs_ppn hy fr5377 (by decide) (by decide)
  have fr5400 : fz 49 g [0, 35, 36, 37, 40, 41, 39] I I5390 := by rw [eI5390]; exact fzm_pp hy fr5378 (by decide) (by decide)
  clear eI5390
  refine WP_aload_n dX11_sortDay_132 rfl ?_
  refine WQ_bipush (8) (8) dX11_sortDay_133 rfl rfl (fun v5401 hv5401 => ?_)
  refine WP_iload_n dX11_sortDay_135 rfl ?_
  refine WQ_iadd dX11_sortDay_136 (by omega) (by omega) (fun v5402 hv5402 => ?_)
  refine WP_dup2 dX11_sortDay_137 rfl rfl ?_
  refine WQ_ialdu dX11_sortDay_138 (ly_is hy 39 13 rfl) (ly_n hy 39 35 rfl) (by omega) (by omega) (fun v5403 => ?_)
  refine WP_iload dX11_sortDay_139 rfl ?_
  refine WP_aload_n dX11_sortDay_141 rfl ?_
  refine WP_getr dX11_sortDay_142 fX11_235 rfl (ly_is hy 0 11 rfl) (rf hr 0 26 8 (by decide)) ?_
  refine WP_iload_n dX11_sortDay_145 rfl ?_
  refine WQ_ialdq (q := so.toInt.toNat) dX11_sortDay_146 (ly_is hy 8 13 rfl) (ly_n hy 8 4 rfl) (by omega) (by omega) (by omega) (pp_get hI5390 (by omega) (by rw [e5391]; omega)) (fun v5404 av5404 bv5404 ev5404 => ?_)
  refine WQ_imulb (60) (99) dX11_sortDay_147 ⟨by omega, by omega⟩ ⟨by omega, by omega⟩ (by decide) (fun v5405 pv5405 av5405 bv5405 cv5405 => ?_)
  refine WQ_iaddu dX11_sortDay_148 (fun v5406 => ?_)
  refine WQ_iast dX11_sortDay_149 (ly_is hy 39 13 rfl) (ly_n hy 39 35 rfl) (by omega) (by omega) (fun I5407 eI5407 => ?_)
  have hI5407 : MP g n L I5407 := by rw [eI5407]; exact (mp_w hy hI5390 (c := 39) (mi_rr hy hI5390.1 (c := 39) (8) (11) (0) (0) (0) (by decide) (Or.inl (by decide)) (by rw [cl (n := v5402.toInt.toNat) (by omega)]; omega) (by decide) (fun h => absurd h (by decide))) (by decide) (by decide) (Or.inl (by decide)))
  have e5408 : I5407 (ad g 0) 10 = w5300 := by rw [eI5407, pp_ne _ _ (Or.inl (ly_ne hy (by decide) (by decide) (by decide)))]; exact e5391
  have e5409 : I5407 (ad g 0) 14 = w5301 := by rw [eI5407, pp_ne _ _ (Or.inl (ly_ne hy (by decide) (by decide) (by decide)))]; exact e5392
  have e5410 : I5407 (ad g 0) 68 = w5302 := by rw [eI5407, pp_ne _ _ (Or.inl (ly_ne hy (by decide) (by decide) (by decide)))]; exact e5393
  have e5411 : I5407 (ad g 39) 32 = w5298 := by rw [eI5407, pp_ne _ _ (Or.inr (by rw [cl (x := v5402) (n := v5402.toInt.toNat) (by omega)]; omega))]; exact e5394
  have e5412 : I5407 (ad g 39) 33 = w5299 := by rw [eI5407, pp_ne _ _ (Or.inr (by rw [cl (x := v5402) (n := v5402.toInt.toNat) (by omega)]; omega))]; exact e5395
  have e5413 : I5407 (ad g 24) v5305.toNatClampNeg = v5330 := by rw [eI5407, pp_ne _ _ (Or.inl (ly_ne hy (by decide) (by decide) (by decide)))]; exact e5396
  have e5414 : I5407 (ad g 8) so.toNatClampNeg = v5404 := by rw [eI5407, pp_ne _ _ (Or.inl (ly_ne hy (by decide) (by decide) (by decide)))]; exact ev5404
  have e5415 : I5407 (ad g 0) 1 = L := by rw [eI5407, pp_ne _ _ (Or.inl (ly_ne hy (by decide) (by decide) (by decide)))]; exact e5398
  have fr5416 : fs g [56] I I5407 := by rw [eI5407]; exact fs_ppn hy fr5399 (by decide) (by decide)
  have fr5417 : fz 49 g [0, 35, 36, 37, 40, 41, 39] I I5407 := by rw [eI5407]; exact fzm_pp hy fr5400 (by decide) (by decide)
  clear eI5407
  refine WP_aload_n dX11_sortDay_150 rfl ?_
  refine WQ_bipush (16) (16) dX11_sortDay_151 rfl rfl (fun v5418 hv5418 => ?_)
  refine WP_iload_n dX11_sortDay_153 rfl ?_
  refine WQ_iadd dX11_sortDay_154 (by omega) (by omega) (fun v5419 hv5419 => ?_)
  refine WP_dup2 dX11_sortDay_155 rfl rfl ?_
  refine WQ_ialdu dX11_sortDay_156 (ly_is hy 39 13 rfl) (ly_n hy 39 35 rfl) (by omega) (by omega) (fun v5420 => ?_)
  refine WP_iload dX11_sortDay_157 rfl ?_
  refine WQ_iconst (4) (4) dX11_sortDay_159 rfl rfl (fun v5421 hv5421 => ?_)
  refine WQ_iremk (4) dX11_sortDay_160 hv5421 (by decide) (by omega) (fun v5422 hv5422 => ?_)
  refine WP_iload dX11_sortDay_161 rfl ?_
  refine WQ_iconst (4) (4) dX11_sortDay_163 rfl rfl (fun v5423 hv5423 => ?_)
  refine WQ_idivk (4) dX11_sortDay_164 hv5423 (by decide) (by omega) (fun v5424 hv5424 => ?_)
  refine WQ_iconst (4) (4) dX11_sortDay_165 rfl rfl (fun v5425 hv5425 => ?_)
  refine WQ_iremk (4) dX11_sortDay_166 hv5425 (by decide) (by omega) (fun v5426 hv5426 => ?_)
  refine WQ_iadd dX11_sortDay_167 (by omega) (by omega) (fun v5427 hv5427 => ?_)
  refine WP_aload_n dX11_sortDay_168 rfl ?_
  refine WP_getr dX11_sortDay_169 fX11_267 rfl (ly_is hy 0 11 rfl) (rf hr 0 44 26 (by decide)) ?_
  refine WP_iload dX11_sortDay_172 rfl ?_
  refine WQ_iald dX11_sortDay_174 (ly_is hy 26 13 rfl) (ly_n hy 26 28 rfl) (by omega) (by omega) (fun q hq => BT_get hI5407.1.1 26 0 28 (0) (0) (99) (by decide) q (Nat.zero_le _) hq) (fun v5428 av5428 bv5428 ev5428 => ?_)
  refine WQ_imulb (6) (99) dX11_sortDay_175 ⟨by omega, by omega⟩ ⟨by omega, by omega⟩ (by decide) (fun v5429 pv5429 av5429 bv5429 cv5429 => ?_)
  refine WP_aload_n dX11_sortDay_176 rfl ?_
  refine WP_getr dX11_sortDay_177 fX11_235 rfl (ly_is hy 0 11 rfl) (rf hr 0 26 8 (by decide)) ?_
  refine WP_iload_n dX11_sortDay_180 rfl ?_
  refine WQ_ialdq (q := so.toInt.toNat) dX11_sortDay_181 (ly_is hy 8 13 rfl) (ly_n hy 8 4 rfl) (by omega) (by omega) (by omega) (pp_get hI5407 (by omega) (by rw [e5408]; omega)) (fun v5430 av5430 bv5430 ev5430 => ?_)
  refine WQ_imulb (594) (99) dX11_sortDay_182 ⟨by omega, by omega⟩ ⟨by omega, by omega⟩ (by decide) (fun v5431 pv5431 av5431 bv5431 cv5431 => ?_)
  refine WQ_iaddu dX11_sortDay_183 (fun v5432 => ?_)
  refine WQ_iast dX11_sortDay_184 (ly_is hy 39 13 rfl) (ly_n hy 39 35 rfl) (by omega) (by omega) (fun I5433 eI5433 => ?_)
  have hI5433 : MP g n L I5433 := by rw [eI5433]; exact (mp_w hy hI5407 (c := 39) (mi_rr hy hI5407.1 (c := 39) (16) (19) (0) (0) (0) (by decide) (Or.inl (by decide)) (by rw [cl (n := v5419.toInt.toNat) (by omega)]; omega) (by decide) (fun h => absurd h (by decide))) (by decide) (by decide) (Or.inl (by decide)))
  have e5434 : I5433 (ad g 0) 10 = w5300 := by rw [eI5433, pp_ne _ _ (Or.inl (ly_ne hy (by decide) (by decide) (by decide)))]; exact e5408
  have e5435 : I5433 (ad g 0) 14 = w5301 := by rw [eI5433, pp_ne _ _ (Or.inl (ly_ne hy (by decide) (by decide) (by decide)))]; exact e5409
  have e5436 : I5433 (ad g 0) 68 = w5302 := by rw [eI5433, pp_ne _ _ (Or.inl (ly_ne hy (by decide) (by decide) (by decide)))]; exact e5410
  have e5437 : I5433 (ad g 39) 32 = w5298 := by rw [eI5433, pp_ne _ _ (Or.inr (by rw [cl (x := v5419) (n := v5419.toInt.toNat) (by omega)]; omega))]; exact e5411
  have e5438 : I5433 (ad g 39) 33 = w5299 := by rw [eI5433, pp_ne _ _ (Or.inr (by rw [cl (x := v5419) (n := v5419.toInt.toNat) (by omega)]; omega))]; exact e5412
  have e5439 : I5433 (ad g 24) v5305.toNatClampNeg = v5330 := by rw [eI5433, pp_ne _ _ (Or.inl (ly_ne hy (by decide) (by decide) (by decide)))]; exact e5413
  have e5440 : I5433 (ad g 8) so.toNatClampNeg = v5430 := by rw [eI5433, pp_ne _ _ (Or.inl (ly_ne hy (by decide) (by decide) (by decide)))]; exact ev5430
  have e5441 : I5433 (ad g 0) 1 = L := by rw [eI5433, pp_ne _ _ (Or.inl (ly_ne hy (by decide) (by decide) (by decide)))]; exact e5415
  have e5442 : I5433 (ad g 26) v5305.toNatClampNeg = v5428 := by rw [eI5433, pp_ne _ _ (Or.inl (ly_ne hy (by decide) (by decide) (by decide)))]; exact ev5428
  have fr5443 : fs g [56] I I5433 := by rw [eI5433]; exact fs_ppn hy fr5416 (by decide) (by decide)
  have fr5444 : fz 49 g [0, 35, 36, 37, 40, 41, 39] I I5433 := by rw [eI5433]; exact fzm_pp hy fr5417 (by decide) (by decide)
  clear eI5433
  refine WP_aload_n dX11_sortDay_185 rfl ?_
  refine WQ_bipush (34) (34) dX11_sortDay_186 rfl rfl (fun v5445 hv5445 => ?_)
  refine WP_dup2 dX11_sortDay_188 rfl rfl ?_
  obtain ⟨w5447, ew5447⟩ : ∃ w : Int32, I5433 (ad g 39) 34 = w := ⟨_, rfl⟩
  refine WQ_ialdm (z := 34) dX11_sortDay_189 (ly_is hy 39 13 rfl) (ly_n hy 39 35 rfl) hv5445 (by decide) ew5447 ?_
  refine WP_iload dX11_sortDay_190 rfl ?_
  refine WQ_iconst (4) (4) dX11_sortDay_192 rfl rfl (fun v5448 hv5448 => ?_)
  refine WQ_iremk (4) dX11_sortDay_193 hv5448 (by decide) (by omega) (fun v5449 hv5449 => ?_)
  refine WP_iload dX11_sortDay_194 rfl ?_
  refine WQ_bipush (16) (16) dX11_sortDay_196 rfl rfl (fun v5450 hv5450 => ?_)
  refine WQ_idivk (16) dX11_sortDay_198 hv5450 (by decide) (by omega) (fun v5451 hv5451 => ?_)
  refine WQ_iadd dX11_sortDay_199 (by omega) (by omega) (fun v5452 hv5452 => ?_)
  refine WP_aload_n dX11_sortDay_200 rfl ?_
  refine WP_getr dX11_sortDay_201 fX11_235 rfl (ly_is hy 0 11 rfl) (rf hr 0 26 8 (by decide)) ?_
  refine WP_iload_n dX11_sortDay_204 rfl ?_
  refine WQ_ialdq (q := so.toInt.toNat) dX11_sortDay_205 (ly_is hy 8 13 rfl) (ly_n hy 8 4 rfl) (by omega) (by omega) (by omega) (pp_get hI5433 (by omega) (by rw [e5434]; omega)) (fun v5453 av5453 bv5453 ev5453 => ?_)
  refine WQ_imulb (5) (99) dX11_sortDay_206 ⟨by omega, by omega⟩ ⟨by omega, by omega⟩ (by decide) (fun v5454 pv5454 av5454 bv5454 cv5454 => ?_)
  refine WQ_iaddu dX11_sortDay_207 (fun v5455 => ?_)
  refine WQ_iast dX11_sortDay_208 (ly_is hy 39 13 rfl) (ly_n hy 39 35 rfl) (by omega) (by omega) (fun I5456 fI5456 => ?_)
  have eI5456 := fI5456
  rw [cl (x := v5445) (n := 34) (by omega)] at eI5456
  clear fI5456
  have hI5456 : MP g n L I5456 := by rw [eI5456]; exact (mp_w hy hI5433 (c := 39) (mi_f0 hy hI5433.1 (c := 39) (by decide) (Or.inl (by decide)) (by decide)) (by decide) (by decide) (Or.inl (by decide)))
  have e5457 : I5456 (ad g 0) 10 = w5300 := by rw [eI5456, pp_ne _ _ (Or.inl (ly_ne hy (by decide) (by decide) (by decide)))]; exact e5434
  have e5458 : I5456 (ad g 0) 14 = w5301 := by rw [eI5456, pp_ne _ _ (Or.inl (ly_ne hy (by decide) (by decide) (by decide)))]; exact e5435
  have e5459 : I5456 (ad g 0) 68 = w5302 := by rw [eI5456, pp_ne _ _ (Or.inl (ly_ne hy (by decide) (by decide) (by decide)))]; exact e5436
  have e5460 : I5456 (ad g 39) 32 = w5298 := by rw [eI5456, pp_ne _ _ (Or.inr (by decide))]; exact e5437
  have e5461 : I5456 (ad g 39) 33 = w5299 := by rw [eI5456, pp_ne _ _ (Or.inr (by decide))]; exact e5438
  have e5462 : I5456 (ad g 24) v5305.toNatClampNeg = v5330 := by rw [eI5456, pp_ne _ _ (Or.inl (ly_ne hy (by decide) (by decide) (by decide)))]; exact e5439
  have e5463 : I5456 (ad g 8) so.toNatClampNeg = v5453 := by rw [eI5456, pp_ne _ _ (Or.inl (ly_ne hy (by decide) (by decide) (by decide)))]; exact ev5453
  have e5464 : I5456 (ad g 0) 1 = L := by rw [eI5456, pp_ne _ _ (Or.inl (ly_ne hy (by decide) (by decide) (by decide)))]; exact e5441
  have e5465 : I5456 (ad g 26) v5305.toNatClampNeg = v5428 := by rw [eI5456, pp_ne _ _ (Or.inl (ly_ne hy (by decide) (by decide) (by decide)))]; exact e5442
  have e5466 : I5456 (ad g 39) 34 = v5455 := by rw [eI5456, pp_self]
  have fr5467 : fs g [56] I I5456 := by rw [eI5456]; exact fs_ppn hy fr5443 (by decide) (by decide)
  have fr5468 : fz 49 g [0, 35, 36, 37, 40, 41, 39] I I5456 := by rw [eI5456]; exact fzm_pp hy fr5444 (by decide) (by decide)
  clear eI5456
  refine WP_aload_n dX11_sortDay_209 rfl ?_
  refine WQ_iconst (0) (0) dX11_sortDay_210 rfl rfl (fun v5469 hv5469 => ?_)
  refine WP_iload_n dX11_sortDay_211 rfl ?_
  refine WQ_iadd dX11_sortDay_212 (by omega) (by omega) (fun v5470 hv5470 => ?_)
  refine WQ_ialdr dX11_sortDay_213 (ly_is hy 39 13 rfl) (ly_n hy 39 35 rfl) (by omega) (by omega) (a := 0) (b := 4) (by omega) (by omega) (fun q hq1 hq2 => BT_get hI5456.1.1 39 0 4 (0) (0) (60) (by decide) q hq1 hq2) (fun v5471 av5471 bv5471 => ?_)
  refine WQ_i2l dX11_sortDay_214 (fun l5472 hl5472 => ?_)
  refine WP_aload_n dX11_sortDay_215 rfl ?_
  refine WP_getr dX11_sortDay_216 fX11_235 rfl (ly_is hy 0 11 rfl) (rf hr 0 26 8 (by decide)) ?_
  refine WP_iload_n dX11_sortDay_219 rfl ?_
  refine WQ_ialdq (q := so.toInt.toNat) dX11_sortDay_220 (ly_is hy 8 13 rfl) (ly_n hy 8 4 rfl) (by omega) (by omega) (by omega) (pp_get hI5456 (by omega) (by rw [e5457]; omega)) (fun v5473 av5473 bv5473 ev5473 => ?_)
  refine WQ_i2l dX11_sortDay_221 (fun l5474 hl5474 => ?_)
  refine WQ_lmul dX11_sortDay_222 (fun l5475 => ?_)
  exact WP_lret dX11_sortDay_223 rfl ⟨⟨hI5456, rfl, fr5468, rfl, fr5467, ⟨trivial, (by rw [e5460, ew5298] <;> exact (eq32 _ _).mpr (by omega)), (by rw [e5461, ew5299] <;> exact (eq32 _ _).mpr (by omega)), (by rw [e5457, ew5300] <;> exact (eq32 _ _).mpr (by omega)), (by rw [e5458, ew5301] <;> exact (eq32 _ _).mpr (by omega)), (by rw [e5459, ew5302] <;> exact (eq32 _ _).mpr (by omega))⟩⟩, _, rfl⟩
