theorem gk_ly {B : GB} {kt nt : List Nat} (h : KB B kt nt) (n : Nat) : (g_L (gk B n)).length = n ∧ (g_L (gk B n)).Nodup ∧ ∀ i, i < n → g_K (gk B n) (ad (gk B n) i) = kt.getD i 0 ∧ g_n (gk B n) (ad (gk B n) i) = nt.getD i 0 := by
  refine ⟨List.length_range', List.nodup_range' 1, fun i hi => ?_⟩
  rw [gk_ad hi]
  constructor
  · show (b_k B).getD (b_b B + i - b_b B) 0 = _
    rw [Nat.add_sub_cancel_left, h.1]
  · show (b_n B).getD (b_b B + i - b_b B) 0 = _
    rw [Nat.add_sub_cancel_left, h.2]
theorem RI_ad {B : GB} {n : Nat} {E : List (Nat × Nat × Nat)} {R : pR} (h : RI B E R) {c q t : Nat} (hm : (c, q, t) ∈ E) (hc : c < n ∧ t < n) : R (ad (gk B n) c) q = some (ad (gk B n) t) := by
  rw [gk_ad hc.1, gk_ad hc.2]
  exact h (c, q, t) hm
set_option maxRecDepth 100000 in
theorem eX_ok : ∀ e ∈ rTX, e ∈ eX ∧ e.1 < 74 ∧ e.2.2 < 74 := by decide +kernel
theorem rfx_gk {B : GB} {R : pR} (h : RI B eX R) : RfX (gk B 74) R := fun e he => RI_ad h (eX_ok e he).1 (eX_ok e he).2
set_option maxHeartbeats 8000000 in
set_option maxRecDepth 100000 in
theorem n_X10 {B : GB} (hB : KB B kTX nTX) : SN B mX10_init 1 (74, 73, 3188) [.ref (b_b B + 0)] (fun _ _ => 0) (fun _ _ => 0) (fun _ _ => none) (fun I' J' R' => RfX (gk B 74) R' ∧ XF (gk B 74) I' J' R') := by
  refine SN_of ⟨by decide, rfl, rfl⟩ (Nat.le_of_ble_eq_true rfl) ?_
  have hE : RI B (eX.drop 77) (fun _ _ => none) := fun e he => absurd he List.not_mem_nil
  refine WN_aload_n dX10_init_0 rfl ?_
  refine WN_obji dX10_init_1 lX10_3 (by decide) ?_
  refine WN_aload_n dX10_init_4 rfl ?_
  refine WN_new (kd := 5) (N := 7) (k2 := 2) (c2 := 1) (s2 := 7) 0 ⟨rfl, rfl, rfl, rfl, rfl⟩ dX10_init_5 ncX10_9 (kx hB rfl) (by decide) ?_
  refine WN_dup dX10_init_8 rfl ?_
  refine WN_init (y := mX5_init) (zz := (3, 1, 900)) (As := []) (rest := [.ref (b_b B + 1), .ref (b_b B + 0)]) (k2 := 3) (c2 := 2) (s2 := 907) 1 ⟨rfl, rfl, rfl, rfl, rfl⟩ dX10_init_9 ⟨⟨⟨by decide, by decide⟩, zX5_init⟩, lX10_11, rfl, iX5_init, rfl⟩ (n_X5_1 hB hE) rfl rfl (Nat.le_of_ble_eq_true rfl) (by decide) (fun _ _ _ h => h.2.2.2) (fun I1 J9 R9 hq => ?_)
  clear hE; obtain ⟨hI9, rfl, hE, -⟩ := hq
  have n_1_1 : I1 (b_b B + 1) 1 = (0) := by rw [hI9]; simp [pp]
  have n_23 : ∀ q, I1 (b_b B + 23) q = 0 := fun q => by rw [hI9, pp_off _ _ (by omega)]
  refine WN_putr (E := (eX.drop 76)) (c := 0) (t := 1) dX10_init_12 fX10_12 rfl rfl rfl rfl (by decide) (kx hB rfl) hE (by decide) (fun R9 hE9 => ?_)
  clear hE; have hE : RI B (eX.drop 75) R9 := hE9; clear hE9
  refine WN_aload_n dX10_init_15 rfl ?_
  refine WN_new (kd := 3) (N := 4) (k2 := 4) (c2 := 3) (s2 := 911) 2 ⟨rfl, rfl, rfl, rfl, rfl⟩ dX10_init_16 ncX10_16 (kx hB rfl) (by decide) ?_
  refine WN_dup dX10_init_19 rfl ?_
  refine WN_aload_n dX10_init_20 rfl ?_
  refine WN_getr (b := b_b B + 1) dX10_init_21 fX10_12 rfl (gk_is 10 (by decide) (kx hB rfl)) (hE (0, 0, 1) (by decide)) ?_
  refine WN_init (y := mX3_init) (zz := (5, 1, 5)) (As := [.ref (b_b B + 1)]) (rest := [.ref (b_b B + 3), .ref (b_b B + 0)]) (k2 := 5) (c2 := 4) (s2 := 916) 3 ⟨rfl, rfl, rfl, rfl, rfl⟩ dX10_init_24 ⟨⟨⟨by decide, by decide⟩, zX3_init⟩, lX10_18, rfl, iX3_init, rfl⟩ (n_X3_3 hB hE) rfl rfl (Nat.le_of_ble_eq_true rfl) (by decide) (fun _ _ _ h => h.2.2.2) (fun I2 J9 R9 hq => ?_)
  clear hE; obtain ⟨hI9, rfl, hE, -⟩ := hq
  have n_3_0 : I2 (b_b B + 3) 0 = (0) := by rw [hI9]; simp [pp]
  have n_3_1 : I2 (b_b B + 3) 1 = (-1) := by rw [hI9]; simp [pp]
  have n_1_1 : I2 (b_b B + 1) 1 = (0) := by rw [hI9, pp_off _ _ (by omega), pp_off _ _ (by omega)]; exact n_1_1
  have n_23 : ∀ q, I2 (b_b B + 23) q = 0 := fun q => by rw [hI9, pp_off _ _ (by omega), pp_off _ _ (by omega)]; exact n_23 q
  refine WN_putr (E := (eX.drop 73)) (c := 0) (t := 3) dX10_init_27 fX10_21 rfl rfl rfl rfl (by decide) (kx hB rfl) hE (by decide) (fun R9 hE9 => ?_)
  clear hE; have hE : RI B (eX.drop 72) R9 := hE9; clear hE9
  refine WN_aload_n dX10_init_30 rfl ?_
  refine WN_new (kd := 0) (N := 6) (k2 := 6) (c2 := 5) (s2 := 922) 4 ⟨rfl, rfl, rfl, rfl, rfl⟩ dX10_init_31 ncX10_25 (kx hB rfl) (by decide) ?_
  refine WN_dup dX10_init_34 rfl ?_
  refine WN_new (kd := 7) (N := 20) (k2 := 7) (c2 := 6) (s2 := 942) 5 ⟨rfl, rfl, rfl, rfl, rfl⟩ dX10_init_35 ncX10_27 (kx hB rfl) (by decide) ?_
  refine WN_dup dX10_init_38 rfl ?_
  refine WN_init (y := mX7_init) (zz := (22, 15, 238)) (As := []) (rest := [.ref (b_b B + 6), .ref (b_b B + 5), .ref (b_b B + 5), .ref (b_b B + 0)]) (k2 := 22) (c2 := 21) (s2 := 1180) 6 ⟨rfl, rfl, rfl, rfl, rfl⟩ dX10_init_39 ⟨⟨⟨by decide, by decide⟩, zX7_init⟩, lX10_29, rfl, iX7_init, rfl⟩ (n_X7_6 hB hE) rfl rfl (Nat.le_of_ble_eq_true rfl) (by decide) (fun _ _ _ h => h.2.2.2) (fun I3 J9 R9 hq => ?_)
  clear hE; obtain ⟨hI9, rfl, hE, -⟩ := hq
  obtain ⟨hfr, n_6_0, n_6_1, n_6_2, n_6_3, n_6_4, n_7⟩ := hI9
  have n_1_1 : I3 (b_b B + 1) 1 = (0) := by rw [hfr _ (by omega)]; exact n_1_1
  have n_23 : ∀ q, I3 (b_b B + 23) q = 0 := fun q => by rw [hfr _ (by omega)]; exact n_23 q
  have n_3_0 : I3 (b_b B + 3) 0 = (0) := by rw [hfr _ (by omega)]; exact n_3_0
  have n_3_1 : I3 (b_b B + 3) 1 = (-1) := by rw [hfr _ (by omega)]; exact n_3_1
  refine WN_init (y := mX0_init) (zz := (27, 5, 467)) (As := [.ref (b_b B + 6)]) (rest := [.ref (b_b B + 5), .ref (b_b B + 0)]) (k2 := 27) (c2 := 26) (s2 := 1647) 21 ⟨rfl, rfl, rfl, rfl, rfl⟩ dX10_init_42 ⟨⟨⟨by decide, by decide⟩, zX0_init⟩, lX10_30, rfl, iX0_init, rfl⟩ (n_X0_5 hB hE) rfl rfl (Nat.le_of_ble_eq_true rfl) (by decide) (fun _ _ _ h => h.2.2.2) (fun I4 J9 R9 hq => ?_)
  clear hE; obtain ⟨hI9, rfl, hE, -⟩ := hq
  have n_1_1 : I4 (b_b B + 1) 1 = (0) := by rw [hI9]; exact n_1_1
  have n_23 : ∀ q, I4 (b_b B + 23) q = 0 := fun q => by rw [hI9]; exact n_23 q
  have n_3_0 : I4 (b_b B + 3) 0 = (0) := by rw [hI9]; exact n_3_0
  have n_3_1 : I4 (b_b B + 3) 1 = (-1) := by rw [hI9]; exact n_3_1
  have n_6_0 : I4 (b_b B + 6) 0 = (0) := by rw [hI9]; exact n_6_0
  have n_6_1 : I4 (b_b B + 6) 1 = (0) := by rw [hI9]; exact n_6_1
  have n_6_2 : I4 (b_b B + 6) 2 = (0) := by rw [hI9]; exact n_6_2
  have n_6_3 : I4 (b_b B + 6) 3 = (-1) := by rw [hI9]; exact n_6_3
  have n_6_4 : I4 (b_b B + 6) 4 = (-1) := by rw [hI9]; exact n_6_4
  have n_7 : ∀ q, I4 (b_b B + 7) q = 0 := fun q => by rw [hI9]; exact n_7 q
  refine WN_putr (E := (eX.drop 51)) (c := 0) (t := 5) dX10_init_45 fX10_33 rfl rfl rfl rfl (by decide) (kx hB rfl) hE (by decide) (fun R9 hE9 => ?_)
  clear hE; have hE : RI B (eX.drop 50) R9 := hE9; clear hE9
  refine WN_aload_n dX10_init_48 rfl ?_
  refine WN_new (kd := 7) (N := 20) (k2 := 28) (c2 := 27) (s2 := 1667) 26 ⟨rfl, rfl, rfl, rfl, rfl⟩ dX10_init_49 ncX10_27 (kx hB rfl) (by decide) ?_
  refine WN_dup dX10_init_52 rfl ?_
  refine WN_init (y := mX7_init) (zz := (43, 15, 238)) (As := []) (rest := [.ref (b_b B + 27), .ref (b_b B + 0)]) (k2 := 43) (c2 := 42) (s2 := 1905) 27 ⟨rfl, rfl, rfl, rfl, rfl⟩ dX10_init_53 ⟨⟨⟨by decide, by decide⟩, zX7_init⟩, lX10_29, rfl, iX7_init, rfl⟩ (n_X7_27 hB hE) rfl rfl (Nat.le_of_ble_eq_true rfl) (by decide) (fun _ _ _ h => h.2.2.2) (fun I5 J9 R9 hq => ?_)
  clear hE; obtain ⟨hI9, rfl, hE, -⟩ := hq
  obtain ⟨hfr, n_27_0, n_27_1, n_27_2, n_27_3, n_27_4, n_28⟩ := hI9
  have n_1_1 : I5 (b_b B + 1) 1 = (0) := by rw [hfr _ (by omega)]; exact n_1_1
  have n_23 : ∀ q, I5 (b_b B + 23) q = 0 := fun q => by rw [hfr _ (by omega)]; exact n_23 q
  have n_3_0 : I5 (b_b B + 3) 0 = (0) := by rw [hfr _ (by omega)]; exact n_3_0
  have n_3_1 : I5 (b_b B + 3) 1 = (-1) := by rw [hfr _ (by omega)]; exact n_3_1
  have n_6_0 : I5 (b_b B + 6) 0 = (0) := by rw [hfr _ (by omega)]; exact n_6_0
  have n_6_1 : I5 (b_b B + 6) 1 = (0) := by rw [hfr _ (by omega)]; exact n_6_1
  have n_6_2 : I5 (b_b B + 6) 2 = (0) := by rw [hfr _ (by omega)]; exact n_6_2
  have n_6_3 : I5 (b_b B + 6) 3 = (-1) := by rw [hfr _ (by omega)]; exact n_6_3
  have n_6_4 : I5 (b_b B + 6) 4 = (-1) := by rw [hfr _ (by omega)]; exact n_6_4
  have n_7 : ∀ q, I5 (b_b B + 7) q = 0 := fun q => by rw [hfr _ (by omega)]; exact n_7 q
  refine WN_putr (E := (eX.drop 35)) (c := 0) (t := 27) dX10_init_56 fX10_37 rfl rfl rfl rfl (by decide) (kx hB rfl) hE (by decide) (fun R9 hE9 => ?_)
  clear hE; have hE : RI B (eX.drop 34) R9 := hE9; clear hE9
  refine WN_aload_n dX10_init_59 rfl ?_
  refine WN_new (kd := 2) (N := 9) (k2 := 44) (c2 := 43) (s2 := 1914) 42 ⟨rfl, rfl, rfl, rfl, rfl⟩ dX10_init_60 ncX10_41 (kx hB rfl) (by decide) ?_
  refine WN_dup dX10_init_63 rfl ?_
  refine WN_aload_n dX10_init_64 rfl ?_
  refine WN_getr (b := b_b B + 5) dX10_init_65 fX10_33 rfl (gk_is 10 (by decide) (kx hB rfl)) (hE (0, 2, 5) (by decide)) ?_
  refine WN_init (y := mX2_init) (zz := (49, 5, 915)) (As := [.ref (b_b B + 5)]) (rest := [.ref (b_b B + 43), .ref (b_b B + 0)]) (k2 := 49) (c2 := 48) (s2 := 2829) 43 ⟨rfl, rfl, rfl, rfl, rfl⟩ dX10_init_68 ⟨⟨⟨by decide, by decide⟩, zX2_init⟩, lX10_43, rfl, iX2_init, rfl⟩ (n_X2_43 hB hE) rfl rfl (Nat.le_of_ble_eq_true rfl) (by decide) (fun _ _ _ h => h.2.2.2) (fun I6 J9 R9 hq => ?_)
  clear hE; obtain ⟨hI9, rfl, hE, -⟩ := hq
  have n_1_1 : I6 (b_b B + 1) 1 = (0) := by rw [hI9, pp_off _ _ (by omega)]; exact n_1_1
  have n_23 : ∀ q, I6 (b_b B + 23) q = 0 := fun q => by rw [hI9, pp_off _ _ (by omega)]; exact n_23 q
  have n_3_0 : I6 (b_b B + 3) 0 = (0) := by rw [hI9, pp_off _ _ (by omega)]; exact n_3_0
  have n_3_1 : I6 (b_b B + 3) 1 = (-1) := by rw [hI9, pp_off _ _ (by omega)]; exact n_3_1
  have n_6_0 : I6 (b_b B + 6) 0 = (0) := by rw [hI9, pp_off _ _ (by omega)]; exact n_6_0
  have n_6_1 : I6 (b_b B + 6) 1 = (0) := by rw [hI9, pp_off _ _ (by omega)]; exact n_6_1
  have n_6_2 : I6 (b_b B + 6) 2 = (0) := by rw [hI9, pp_off _ _ (by omega)]; exact n_6_2
  have n_6_3 : I6 (b_b B + 6) 3 = (-1) := by rw [hI9, pp_off _ _ (by omega)]; exact n_6_3
  have n_6_4 : I6 (b_b B + 6) 4 = (-1) := by rw [hI9, pp_off _ _ (by omega)]; exact n_6_4
  have n_7 : ∀ q, I6 (b_b B + 7) q = 0 := fun q => by rw [hI9, pp_off _ _ (by omega)]; exact n_7 q
  refine WN_putr (E := (eX.drop 28)) (c := 0) (t := 43) dX10_init_71 fX10_46 rfl rfl rfl rfl (by decide) (kx hB rfl) hE (by decide) (fun R9 hE9 => ?_)
  clear hE; have hE : RI B (eX.drop 27) R9 := hE9; clear hE9
  refine WN_aload_n dX10_init_74 rfl ?_
  refine WN_new (kd := 9) (N := 5) (k2 := 50) (c2 := 49) (s2 := 2834) 48 ⟨rfl, rfl, rfl, rfl, rfl⟩ dX10_init_75 ncX10_50 (kx hB rfl) (by decide) ?_
  refine WN_dup dX10_init_78 rfl ?_
  refine WN_aload_n dX10_init_79 rfl ?_
  refine WN_getr (b := b_b B + 5) dX10_init_80 fX10_33 rfl (gk_is 10 (by decide) (kx hB rfl)) (hE (0, 2, 5) (by decide)) ?_
  refine WN_aload_n dX10_init_83 rfl ?_
  refine WN_getr (b := b_b B + 43) dX10_init_84 fX10_46 rfl (gk_is 10 (by decide) (kx hB rfl)) (hE (0, 3, 43) (by decide)) ?_
  refine WN_init (y := mX9_init) (zz := (53, 3, 33)) (As := [.ref (b_b B + 5), .ref (b_b B + 43)]) (rest := [.ref (b_b B + 49), .ref (b_b B + 0)]) (k2 := 53) (c2 := 52) (s2 := 2867) 49 ⟨rfl, rfl, rfl, rfl, rfl⟩ dX10_init_87 ⟨⟨⟨by decide, by decide⟩, zX9_init⟩, lX10_52, rfl, iX9_init, rfl⟩ (n_X9_49 hB hE) rfl rfl (Nat.le_of_ble_eq_true rfl) (by decide) (fun _ _ _ h => h.2.2.2) (fun I7 J9 R9 hq => ?_)
  clear hE; obtain ⟨hI9, rfl, hE, -⟩ := hq
  have n_1_1 : I7 (b_b B + 1) 1 = (0) := by rw [hI9, pp_off _ _ (by omega)]; exact n_1_1
  have n_23 : ∀ q, I7 (b_b B + 23) q = 0 := fun q => by rw [hI9, pp_off _ _ (by omega)]; exact n_23 q
  have n_3_0 : I7 (b_b B + 3) 0 = (0) := by rw [hI9, pp_off _ _ (by omega)]; exact n_3_0
  have n_3_1 : I7 (b_b B + 3) 1 = (-1) := by rw [hI9, pp_off _ _ (by omega)]; exact n_3_1
  have n_6_0 : I7 (b_b B + 6) 0 = (0) := by rw [hI9, pp_off _ _ (by omega)]; exact n_6_0
  have n_6_1 : I7 (b_b B + 6) 1 = (0) := by rw [hI9, pp_off _ _ (by omega)]; exact n_6_1
  have n_6_2 : I7 (b_b B + 6) 2 = (0) := by rw [hI9, pp_off _ _ (by omega)]; exact n_6_2
  have n_6_3 : I7 (b_b B + 6) 3 = (-1) := by rw [hI9, pp_off _ _ (by omega)]; exact n_6_3
  have n_6_4 : I7 (b_b B + 6) 4 = (-1) := by rw [hI9, pp_off _ _ (by omega)]; exact n_6_4
  have n_7 : ∀ q, I7 (b_b B + 7) q = 0 := fun q => by rw [hI9, pp_off _ _ (by omega)]; exact n_7 q
  refine WN_putr (E := (eX.drop 22)) (c := 0) (t := 49) dX10_init_90 fX10_55 rfl rfl rfl rfl (by decide) (kx hB rfl) hE (by decide) (fun R9 hE9 => ?_)
  clear hE; have hE : RI B (eX.drop 21) R9 := hE9; clear hE9
  refine WN_aload_n dX10_init_93 rfl ?_
  refine WN_new (kd := 4) (N := 6) (k2 := 54) (c2 := 53) (s2 := 2873) 52 ⟨rfl, rfl, rfl, rfl, rfl⟩ dX10_init_94 ncX10_59 (kx hB rfl) (by decide) ?_
  refine WN_dup dX10_init_97 rfl ?_
  refine WN_init (y := mX4_init) (zz := (56, 2, 32)) (As := []) (rest := [.ref (b_b B + 53), .ref (b_b B + 0)]) (k2 := 56) (c2 := 55) (s2 := 2905) 53 ⟨rfl, rfl, rfl, rfl, rfl⟩ dX10_init_98 ⟨⟨⟨by decide, by decide⟩, zX4_init⟩, lX10_61, rfl, iX4_init, rfl⟩ (n_X4_53 hB hE) rfl rfl (Nat.le_of_ble_eq_true rfl) (by decide) (fun _ _ _ h => h.2.2.2) (fun I8 J9 R9 hq => ?_)
  clear hE; obtain ⟨hI9, rfl, hE, -⟩ := hq
  have n_1_1 : I8 (b_b B + 1) 1 = (0) := by rw [hI9, pp_off _ _ (by omega)]; exact n_1_1
  have n_23 : ∀ q, I8 (b_b B + 23) q = 0 := fun q => by rw [hI9, pp_off _ _ (by omega)]; exact n_23 q
  have n_3_0 : I8 (b_b B + 3) 0 = (0) := by rw [hI9, pp_off _ _ (by omega)]; exact n_3_0
  have n_3_1 : I8 (b_b B + 3) 1 = (-1) := by rw [hI9, pp_off _ _ (by omega)]; exact n_3_1
  have n_6_0 : I8 (b_b B + 6) 0 = (0) := by rw [hI9, pp_off _ _ (by omega)]; exact n_6_0
  have n_6_1 : I8 (b_b B + 6) 1 = (0) := by rw [hI9, pp_off _ _ (by omega)]; exact n_6_1
  have n_6_2 : I8 (b_b B + 6) 2 = (0) := by rw [hI9, pp_off _ _ (by omega)]; exact n_6_2
  have n_6_3 : I8 (b_b B + 6) 3 = (-1) := by rw [hI9, pp_off _ _ (by omega)]; exact n_6_3
  have n_6_4 : I8 (b_b B + 6) 4 = (-1) := by rw [hI9, pp_off _ _ (by omega)]; exact n_6_4
  have n_7 : ∀ q, I8 (b_b B + 7) q = 0 := fun q => by rw [hI9, pp_off _ _ (by omega)]; exact n_7 q
  refine WN_putr (E := (eX.drop 19)) (c := 0) (t := 53) dX10_init_101 fX10_62 rfl rfl rfl rfl (by decide) (kx hB rfl) hE (by decide) (fun R9 hE9 => ?_)
  clear hE; have hE : RI B (eX.drop 18) R9 := hE9; clear hE9
  refine WN_aload_n dX10_init_104 rfl ?_
  refine WN_new (kd := 4) (N := 6) (k2 := 57) (c2 := 56) (s2 := 2911) 55 ⟨rfl, rfl, rfl, rfl, rfl⟩ dX10_init_105 ncX10_59 (kx hB rfl) (by decide) ?_
  refine WN_dup dX10_init_108 rfl ?_
  refine WN_init (y := mX4_init) (zz := (59, 2, 32)) (As := []) (rest := [.ref (b_b B + 56), .ref (b_b B + 0)]) (k2 := 59) (c2 := 58) (s2 := 2943) 56 ⟨rfl, rfl, rfl, rfl, rfl⟩ dX10_init_109 ⟨⟨⟨by decide, by decide⟩, zX4_init⟩, lX10_61, rfl, iX4_init, rfl⟩ (n_X4_56 hB hE) rfl rfl (Nat.le_of_ble_eq_true rfl) (by decide) (fun _ _ _ h => h.2.2.2) (fun I9 J9 R9 hq => ?_)
  clear hE; obtain ⟨hI9, rfl, hE, -⟩ := hq
  have n_1_1 : I9 (b_b B + 1) 1 = (0) := by rw [hI9, pp_off _ _ (by omega)]; exact n_1_1
  have n_23 : ∀ q, I9 (b_b B + 23) q = 0 := fun q => by rw [hI9, pp_off _ _ (by omega)]; exact n_23 q
  have n_3_0 : I9 (b_b B + 3) 0 = (0) := by rw [hI9, pp_off _ _ (by omega)]; exact n_3_0
  have n_3_1 : I9 (b_b B + 3) 1 = (-1) := by rw [hI9, pp_off _ _ (by omega)]; exact n_3_1
  have n_6_0 : I9 (b_b B + 6) 0 = (0) := by rw [hI9, pp_off _ _ (by omega)]; exact n_6_0
  have n_6_1 : I9 (b_b B + 6) 1 = (0) := by rw [hI9, pp_off _ _ (by omega)]; exact n_6_1
  have n_6_2 : I9 (b_b B + 6) 2 = (0) := by rw [hI9, pp_off _ _ (by omega)]; exact n_6_2
  have n_6_3 : I9 (b_b B + 6) 3 = (-1) := by rw [hI9, pp_off _ _ (by omega)]; exact n_6_3
  have n_6_4 : I9 (b_b B + 6) 4 = (-1) := by rw [hI9, pp_off _ _ (by omega)]; exact n_6_4
  have n_7 : ∀ q, I9 (b_b B + 7) q = 0 := fun q => by rw [hI9, pp_off _ _ (by omega)]; exact n_7 q
  refine WN_putr (E := (eX.drop 16)) (c := 0) (t := 56) dX10_init_112 fX10_66 rfl rfl rfl rfl (by decide) (kx hB rfl) hE (by decide) (fun R9 hE9 => ?_)
  clear hE; have hE : RI B (eX.drop 15) R9 := hE9; clear hE9
  refine WN_aload_n dX10_init_115 rfl ?_
  refine WN_iconst (3) dX10_init_116 rfl ?_
  refine WN_anew (N := 3) (k2 := 60) (c2 := 59) (s2 := 2946) 58 ⟨rfl, rfl, rfl, rfl⟩ dX10_init_117 ncA (kx hB rfl) (nx hB rfl) (by decide) (by decide) (by decide) ?_
  refine WN_putr (E := (eX.drop 15)) (c := 0) (t := 59) dX10_init_120 fX10_69 rfl rfl rfl rfl (by decide) (kx hB rfl) hE (by decide) (fun R9 hE9 => ?_)
  clear hE; have hE : RI B (eX.drop 14) R9 := hE9; clear hE9
  refine WN_iconst (0) dX10_init_123 rfl ?_
  refine WN_istore_n (ls' := [(0, _), (1, _)]) dX10_init_124 (by decide) rfl ?_
  refine WN_iload_n dX10_init_125 rfl ?_
  refine WN_iconst (3) dX10_init_126 rfl ?_
  refine WN_icmp_ge 149 dX10_init_127 rfl (fun h => absurd h (by decide)) (fun _ => ?_)
  refine WN_aload_n dX10_init_130 rfl ?_
  refine WN_getr (b := b_b B + 59) dX10_init_131 fX10_69 rfl (gk_is 10 (by decide) (kx hB rfl)) (hE (0, 7, 59) (by decide)) ?_
  refine WN_iload_n dX10_init_134 rfl ?_
  refine WN_new (kd := 4) (N := 6) (k2 := 61) (c2 := 60) (s2 := 2952) 59 ⟨rfl, rfl, rfl, rfl, rfl⟩ dX10_init_135 ncX10_59 (kx hB rfl) (by decide) ?_
  refine WN_dup dX10_init_138 rfl ?_
  refine WN_init (y := mX4_init) (zz := (63, 2, 32)) (As := []) (rest := [.ref (b_b B + 60), .int (0), .ref (b_b B + 59)]) (k2 := 63) (c2 := 62) (s2 := 2984) 60 ⟨rfl, rfl, rfl, rfl, rfl⟩ dX10_init_139 ⟨⟨⟨by decide, by decide⟩, zX4_init⟩, lX10_61, rfl, iX4_init, rfl⟩ (n_X4_60 hB hE) rfl rfl (Nat.le_of_ble_eq_true rfl) (by decide) (fun _ _ _ h => h.2.2.2) (fun I10 J9 R9 hq => ?_)
  clear hE; obtain ⟨hI9, rfl, hE, -⟩ := hq
  have n_1_1 : I10 (b_b B + 1) 1 = (0) := by rw [hI9, pp_off _ _ (by omega)]; exact n_1_1
  have n_23 : ∀ q, I10 (b_b B + 23) q = 0 := fun q => by rw [hI9, pp_off _ _ (by omega)]; exact n_23 q
  have n_3_0 : I10 (b_b B + 3) 0 = (0) := by rw [hI9, pp_off _ _ (by omega)]; exact n_3_0
  have n_3_1 : I10 (b_b B + 3) 1 = (-1) := by rw [hI9, pp_off _ _ (by omega)]; exact n_3_1
  have n_6_0 : I10 (b_b B + 6) 0 = (0) := by rw [hI9, pp_off _ _ (by omega)]; exact n_6_0
  have n_6_1 : I10 (b_b B + 6) 1 = (0) := by rw [hI9, pp_off _ _ (by omega)]; exact n_6_1
  have n_6_2 : I10 (b_b B + 6) 2 = (0) := by rw [hI9, pp_off _ _ (by omega)]; exact n_6_2
  have n_6_3 : I10 (b_b B + 6) 3 = (-1) := by rw [hI9, pp_off _ _ (by omega)]; exact n_6_3
  have n_6_4 : I10 (b_b B + 6) 4 = (-1) := by rw [hI9, pp_off _ _ (by omega)]; exact n_6_4
  have n_7 : ∀ q, I10 (b_b B + 7) q = 0 := fun q => by rw [hI9, pp_off _ _ (by omega)]; exact n_7 q
  refine WN_aast (E := (eX.drop 12)) (q := 0) dX10_init_142 ⟨by decide, by decide⟩ (kx hB rfl) (kx hB rfl) (lyg (gk_n 3 (nx hB rfl)) (by unfold vp_in; decide)) (by decide) hE (by decide) (fun R9 hE9 => ?_)
  clear hE; have hE : RI B (eX.drop 11) R9 := hE9; clear hE9
  refine WN_iinc (ls' := [(0, _), (1, _)]) dX10_init_143 rfl (by decide) rfl ?_
  refine WN_goto 125 dX10_init_146 rfl ?_
  refine WN_iload_n dX10_init_125 rfl ?_
  refine WN_iconst (3) dX10_init_126 rfl ?_
  refine WN_icmp_ge 149 dX10_init_127 rfl (fun h => absurd h (by decide)) (fun _ => ?_)
  refine WN_aload_n dX10_init_130 rfl ?_
  refine WN_getr (b := b_b B + 59) dX10_init_131 fX10_69 rfl (gk_is 10 (by decide) (kx hB rfl)) (hE (0, 7, 59) (by decide)) ?_
  refine WN_iload_n dX10_init_134 rfl ?_
  refine WN_new (kd := 4) (N := 6) (k2 := 64) (c2 := 63) (s2 := 2990) 62 ⟨rfl, rfl, rfl, rfl, rfl⟩ dX10_init_135 ncX10_59 (kx hB rfl) (by decide) ?_
  refine WN_dup dX10_init_138 rfl ?_
  refine WN_init (y := mX4_init) (zz := (66, 2, 32)) (As := []) (rest := [.ref (b_b B + 63), .int ((0 + Int32.ofInt 1)), .ref (b_b B + 59)]) (k2 := 66) (c2 := 65) (s2 := 3022) 63 ⟨rfl, rfl, rfl, rfl, rfl⟩ dX10_init_139 ⟨⟨⟨by decide, by decide⟩, zX4_init⟩, lX10_61, rfl, iX4_init, rfl⟩ (n_X4_63 hB hE) rfl rfl (Nat.le_of_ble_eq_true rfl) (by decide) (fun _ _ _ h => h.2.2.2) (fun I11 J9 R9 hq => ?_)
  clear hE; obtain ⟨hI9, rfl, hE, -⟩ := hq
  have n_1_1 : I11 (b_b B + 1) 1 = (0) := by rw [hI9, pp_off _ _ (by omega)]; exact n_1_1
  have n_23 : ∀ q, I11 (b_b B + 23) q = 0 := fun q => by rw [hI9, pp_off _ _ (by omega)]; exact n_23 q
  have n_3_0 : I11 (b_b B + 3) 0 = (0) := by rw [hI9, pp_off _ _ (by omega)]; exact n_3_0
  have n_3_1 : I11 (b_b B + 3) 1 = (-1) := by rw [hI9, pp_off _ _ (by omega)]; exact n_3_1
  have n_6_0 : I11 (b_b B + 6) 0 = (0) := by rw [hI9, pp_off _ _ (by omega)]; exact n_6_0
  have n_6_1 : I11 (b_b B + 6) 1 = (0) := by rw [hI9, pp_off _ _ (by omega)]; exact n_6_1
  have n_6_2 : I11 (b_b B + 6) 2 = (0) := by rw [hI9, pp_off _ _ (by omega)]; exact n_6_2
  have n_6_3 : I11 (b_b B + 6) 3 = (-1) := by rw [hI9, pp_off _ _ (by omega)]; exact n_6_3
  have n_6_4 : I11 (b_b B + 6) 4 = (-1) := by rw [hI9, pp_off _ _ (by omega)]; exact n_6_4
  have n_7 : ∀ q, I11 (b_b B + 7) q = 0 := fun q => by rw [hI9, pp_off _ _ (by omega)]; exact n_7 q
  refine WN_aast (E := (eX.drop 9)) (q := 1) dX10_init_142 ⟨by decide, by decide⟩ (kx hB rfl) (kx hB rfl) (lyg (gk_n 3 (nx hB rfl)) (by unfold vp_in; decide)) (by decide) hE (by decide) (fun R9 hE9 => ?_)
  clear hE; have hE : RI B (eX.drop 8) R9 := hE9; clear hE9
  refine WN_iinc (ls' := [(0, _), (1, _)]) dX10_init_143 rfl (by decide) rfl ?_
  refine WN_goto 125 dX10_init_146 rfl ?_
  refine WN_iload_n dX10_init_125 rfl ?_
  refine WN_iconst (3) dX10_init_126 rfl ?_
  refine WN_icmp_ge 149 dX10_init_127 rfl (fun h => absurd h (by decide)) (fun _ => ?_)
  refine WN_aload_n dX10_init_130 rfl ?_
  refine WN_getr (b := b_b B + 59) dX10_init_131 fX10_69 rfl (gk_is 10 (by decide) (kx hB rfl)) (hE (0, 7, 59) (by decide)) ?_
  refine WN_iload_n dX10_init_134 rfl ?_
  refine WN_new (kd := 4) (N := 6) (k2 := 67) (c2 := 66) (s2 := 3028) 65 ⟨rfl, rfl, rfl, rfl, rfl⟩ dX10_init_135 ncX10_59 (kx hB rfl) (by decide) ?_
  refine WN_dup dX10_init_138 rfl ?_
  refine WN_init (y := mX4_init) (zz := (69, 2, 32)) (As := []) (rest := [.ref (b_b B + 66), .int (((0 + Int32.ofInt 1) + Int32.ofInt 1)), .ref (b_b B + 59)]) (k2 := 69) (c2 := 68) (s2 := 3060) 66 ⟨rfl, rfl, rfl, rfl, rfl⟩ dX10_init_139 ⟨⟨⟨by decide, by decide⟩, zX4_init⟩, lX10_61, rfl, iX4_init, rfl⟩ (n_X4_66 hB hE) rfl rfl (Nat.le_of_ble_eq_true rfl) (by decide) (fun _ _ _ h => h.2.2.2) (fun I12 J9 R9 hq => ?_)
  clear hE; obtain ⟨hI9, rfl, hE, -⟩ := hq
  have n_1_1 : I12 (b_b B + 1) 1 = (0) := by rw [hI9, pp_off _ _ (by omega)]; exact n_1_1
  have n_23 : ∀ q, I12 (b_b B + 23) q = 0 := fun q => by rw [hI9, pp_off _ _ (by omega)]; exact n_23 q
  have n_3_0 : I12 (b_b B + 3) 0 = (0) := by rw [hI9, pp_off _ _ (by omega)]; exact n_3_0
  have n_3_1 : I12 (b_b B + 3) 1 = (-1) := by rw [hI9, pp_off _ _ (by omega)]; exact n_3_1
  have n_6_0 : I12 (b_b B + 6) 0 = (0) := by rw [hI9, pp_off _ _ (by omega)]; exact n_6_0
  have n_6_1 : I12 (b_b B + 6) 1 = (0) := by rw [hI9, pp_off _ _ (by omega)]; exact n_6_1
  have n_6_2 : I12 (b_b B + 6) 2 = (0) := by rw [hI9, pp_off _ _ (by omega)]; exact n_6_2
  have n_6_3 : I12 (b_b B + 6) 3 = (-1) := by rw [hI9, pp_off _ _ (by omega)]; exact n_6_3
  have n_6_4 : I12 (b_b B + 6) 4 = (-1) := by rw [hI9, pp_off _ _ (by omega)]; exact n_6_4
  have n_7 : ∀ q, I12 (b_b B + 7) q = 0 := fun q => by rw [hI9, pp_off _ _ (by omega)]; exact n_7 q
  refine WN_aast (E := (eX.drop 6)) (q := 2) dX10_init_142 ⟨by decide, by decide⟩ (kx hB rfl) (kx hB rfl) (lyg (gk_n 3 (nx hB rfl)) (by unfold vp_in; decide)) (by decide) hE (by decide) (fun R9 hE9 => ?_)
  clear hE; have hE : RI B (eX.drop 5) R9 := hE9; clear hE9
  refine WN_iinc (ls' := [(0, _), (1, _)]) dX10_init_143 rfl (by decide) rfl ?_
  refine WN_goto 125 dX10_init_146 rfl ?_
  refine WN_iload_n dX10_init_125 rfl ?_
  refine WN_iconst (3) dX10_init_126 rfl ?_
  refine WN_icmp_ge 149 dX10_init_127 rfl (fun _ => ?_) (fun h => absurd (by decide) h)
  refine WN_aload_n dX10_init_149 rfl ?_
  refine WN_new (kd := 8) (N := 4) (k2 := 70) (c2 := 69) (s2 := 3064) 68 ⟨rfl, rfl, rfl, rfl, rfl⟩ dX10_init_150 ncX10_73 (kx hB rfl) (by decide) ?_
  refine WN_dup dX10_init_153 rfl ?_
  refine WN_init (y := mX8_init) (zz := (71, 1, 100)) (As := []) (rest := [.ref (b_b B + 69), .ref (b_b B + 0)]) (k2 := 71) (c2 := 70) (s2 := 3164) 69 ⟨rfl, rfl, rfl, rfl, rfl⟩ dX10_init_154 ⟨⟨⟨by decide, by decide⟩, zX8_init⟩, lX10_75, rfl, iX8_init, rfl⟩ (n_X8_69 hB hE) rfl rfl (Nat.le_of_ble_eq_true rfl) (by decide) (fun _ _ _ h => h.2.2.2) (fun I13 J9 R9 hq => ?_)
  clear hE; obtain ⟨hI9, rfl, hE, -⟩ := hq
  have n_1_1 : I13 (b_b B + 1) 1 = (0) := by rw [hI9, pp_off _ _ (by omega)]; exact n_1_1
  have n_23 : ∀ q, I13 (b_b B + 23) q = 0 := fun q => by rw [hI9, pp_off _ _ (by omega)]; exact n_23 q
  have n_3_0 : I13 (b_b B + 3) 0 = (0) := by rw [hI9, pp_off _ _ (by omega)]; exact n_3_0
  have n_3_1 : I13 (b_b B + 3) 1 = (-1) := by rw [hI9, pp_off _ _ (by omega)]; exact n_3_1
  have n_6_0 : I13 (b_b B + 6) 0 = (0) := by rw [hI9, pp_off _ _ (by omega)]; exact n_6_0
  have n_6_1 : I13 (b_b B + 6) 1 = (0) := by rw [hI9, pp_off _ _ (by omega)]; exact n_6_1
  have n_6_2 : I13 (b_b B + 6) 2 = (0) := by rw [hI9, pp_off _ _ (by omega)]; exact n_6_2
  have n_6_3 : I13 (b_b B + 6) 3 = (-1) := by rw [hI9, pp_off _ _ (by omega)]; exact n_6_3
  have n_6_4 : I13 (b_b B + 6) 4 = (-1) := by rw [hI9, pp_off _ _ (by omega)]; exact n_6_4
  have n_7 : ∀ q, I13 (b_b B + 7) q = 0 := fun q => by rw [hI9, pp_off _ _ (by omega)]; exact n_7 q
  refine WN_putr (E := (eX.drop 4)) (c := 0) (t := 69) dX10_init_157 fX10_76 rfl rfl rfl rfl (by decide) (kx hB rfl) hE (by decide) (fun R9 hE9 => ?_)
  clear hE; have hE : RI B (eX.drop 3) R9 := hE9; clear hE9
  refine WN_aload_n dX10_init_160 rfl ?_
  refine WN_new (kd := 1) (N := 8) (k2 := 72) (c2 := 71) (s2 := 3172) 70 ⟨rfl, rfl, rfl, rfl, rfl⟩ dX10_init_161 ncX10_80 (kx hB rfl) (by decide) ?_
  refine WN_dup dX10_init_164 rfl ?_
  refine WN_init (y := mX1_init) (zz := (74, 2, 16)) (As := []) (rest := [.ref (b_b B + 71), .ref (b_b B + 0)]) (k2 := 74) (c2 := 73) (s2 := 3188) 71 ⟨rfl, rfl, rfl, rfl, rfl⟩ dX10_init_165 ⟨⟨⟨by decide, by decide⟩, zX1_init⟩, lX10_82, rfl, iX1_init, rfl⟩ (n_X1_71 hB hE) rfl rfl (Nat.le_of_ble_eq_true rfl) (by decide) (fun _ _ _ h => h.2.2.2) (fun I14 J9 R9 hq => ?_)
  clear hE; obtain ⟨hI9, rfl, hE, -⟩ := hq
  have n_1_1 : I14 (b_b B + 1) 1 = (0) := by rw [hI9, pp_off _ _ (by omega)]; exact n_1_1
  have n_23 : ∀ q, I14 (b_b B + 23) q = 0 := fun q => by rw [hI9, pp_off _ _ (by omega)]; exact n_23 q
  have n_3_0 : I14 (b_b B + 3) 0 = (0) := by rw [hI9, pp_off _ _ (by omega)]; exact n_3_0
  have n_3_1 : I14 (b_b B + 3) 1 = (-1) := by rw [hI9, pp_off _ _ (by omega)]; exact n_3_1
  have n_6_0 : I14 (b_b B + 6) 0 = (0) := by rw [hI9, pp_off _ _ (by omega)]; exact n_6_0
  have n_6_1 : I14 (b_b B + 6) 1 = (0) := by rw [hI9, pp_off _ _ (by omega)]; exact n_6_1
  have n_6_2 : I14 (b_b B + 6) 2 = (0) := by rw [hI9, pp_off _ _ (by omega)]; exact n_6_2
  have n_6_3 : I14 (b_b B + 6) 3 = (-1) := by rw [hI9, pp_off _ _ (by omega)]; exact n_6_3
  have n_6_4 : I14 (b_b B + 6) 4 = (-1) := by rw [hI9, pp_off _ _ (by omega)]; exact n_6_4
  have n_7 : ∀ q, I14 (b_b B + 7) q = 0 := fun q => by rw [hI9, pp_off _ _ (by omega)]; exact n_7 q
  refine WN_putr (E := (eX.drop 1)) (c := 0) (t := 71) dX10_init_168 fX10_83 rfl rfl rfl rfl (by decide) (kx hB rfl) hE (by decide) (fun R9 hE9 => ?_)
  clear hE; have hE : RI B (eX.drop 0) R9 := hE9; clear hE9
  refine WN_aload_n dX10_init_171 rfl ?_
  have hrf : RfX (gk B 74) R9 := rfx_gk hE
  have hy : LyX (gk B 74) := gk_ly hB 74
  have hs := x_settle_ta (J := (fun _ _ => 0)) hy hrf (RI_ad hE (c := 5) (q := 0) (t := 6) (by decide) (by decide)) (by rw [gk_ad (by decide)]; exact n_6_4) (by rw [gk_ad (by decide)]; exact n_6_1)
  have e0 : ad (gk B 74) P_x = b_b B + 0 := gk_ad (by decide)
  rw [e0] at hs
  refine WN_callret (k := 10) dX10_init_172 dX10_init_175 rfl ⟨⟨⟨by decide, by decide⟩, zX10_settle⟩, lX10_87, by decide, rfl, vX10_settle.1, vX10_settle.2⟩ (gk_is 10 (by decide) (kx hB rfl)) hs rfl (fun hZ r I0 J0 R0 hq => ?_)
  obtain ⟨rfl, ⟨hfx, hR0, hsc, hst⟩, s0, s1, s2, x11, rfl⟩ := hq
  have r : ∀ i, i < 74 → i ∉ [P_market_storeCosts, P_market_storesBehind, P_market_prices, P_market_losses, P_market_behindStamps, P_course, P_course_ways, P_course_facts, P_slot0, P_slot1, P_slot2, P_meeting_rows, P_x] → I0 (ad (gk B 74) i) = I14 (b_b B + i) := fun i hi hn => by rw [hfx i hi hn, gk_ad hi]
  have hl : ∀ q, I14 (ad (gk B 74) P_ta_losses) q = 0 := fun q => by rw [gk_ad (by decide)]; exact n_7 q
  have hzl : Zl (gk B 74) I14 := fun q => by rw [gk_ad (by decide)]; exact n_23 q
  have h9 := hst hl hzl
  refine ⟨rfl, hrf, ⟨RI_ad hE (c := 5) (q := 0) (t := 6) (by decide) (by decide), ?_, ?_, ?_, ?_⟩, ?_, ?_, ?_, ?_, by rw [e0]; exact x11, hR0.1, hR0.2.1, hR0.2.2.1, hR0.2.2.2.1, hsc, s0, s1, s2, RI_ad hE (c := 0) (q := 10) (t := 27) (by decide) (by decide), fun q => ?_, h9.1, h9.2.1⟩
  · rw [r P_ta (by decide) (by decide)]; exact n_6_1
  · rw [r P_ta (by decide) (by decide)]; exact n_6_2
  · rw [r P_ta (by decide) (by decide)]; exact n_6_3
  · rw [r P_ta (by decide) (by decide)]; exact n_6_4
  · rw [r P_tape (by decide) (by decide)]; exact n_1_1
  · rw [r P_reader (by decide) (by decide)]; exact n_3_0
  · rw [r P_reader (by decide) (by decide)]; exact n_3_1
  · rw [r P_ta (by decide) (by decide)]; exact n_6_0
  · rw [r P_ta_losses (by decide) (by decide)]; exact n_7 q
