def eX : List (Nat × Nat × Nat) := [(0, 9, 71), (71, 3, 73), (71, 2, 72), (0, 8, 69), (69, 3, 70), (59, 2, 66), (66, 5, 68), (66, 4, 67), (59, 1, 63), (63, 5, 65), (63, 4, 64), (59, 0, 60), (60, 5, 62), (60, 4, 61), (0, 7, 59), (0, 6, 56), (56, 5, 58), (56, 4, 57), (0, 5, 53), (53, 5, 55), (53, 4, 54), (0, 4, 49), (49, 3, 43), (49, 2, 5), (49, 4, 52), (49, 1, 51), (49, 0, 50), (0, 3, 43), (43, 2, 5), (43, 7, 48), (43, 6, 47), (43, 5, 46), (43, 4, 45), (43, 3, 44), (0, 10, 27), (27, 19, 42), (27, 18, 41), (27, 17, 40), (27, 16, 39), (27, 15, 38), (27, 14, 37), (27, 13, 36), (27, 12, 35), (27, 11, 34), (27, 10, 33), (27, 9, 32), (27, 8, 31), (27, 7, 30), (27, 6, 29), (27, 5, 28), (0, 2, 5), (5, 0, 6), (5, 5, 26), (5, 4, 25), (5, 3, 24), (5, 2, 23), (5, 1, 22), (6, 19, 21), (6, 18, 20), (6, 17, 19), (6, 16, 18), (6, 15, 17), (6, 14, 16), (6, 13, 15), (6, 12, 14), (6, 11, 13), (6, 10, 12), (6, 9, 11), (6, 8, 10), (6, 7, 9), (6, 6, 8), (6, 5, 7), (0, 1, 3), (3, 2, 1), (3, 3, 4), (0, 0, 1), (1, 0, 2)]
set_option maxHeartbeats 4000000 in
set_option maxRecDepth 100000 in
theorem n_X5_1 {B : GB} {I : pI} {J : pJ} {R : pR} (hB : KB B kTX nTX) (hE : RI B (eX.drop 77) R) : SN B mX5_init 2 (3, 1, 900) [.ref (b_b B + 1)] I J R (fun I' J' R' => I' = (pp I (b_b B + 1) 1 (0)) ∧ J' = J ∧ RI B (eX.drop 76) R' ∧ Zk B 3 I' J' R') := by
  refine SN_of ⟨by decide, rfl, rfl⟩ (Nat.le_of_ble_eq_true rfl) ?_
  refine WN_aload_n dX5_init_0 rfl ?_
  refine WN_obji dX5_init_1 lX5_3 (by decide) ?_
  refine WN_aload_n dX5_init_4 rfl ?_
  refine WN_sipush (900) dX5_init_5 rfl ?_
  refine WN_newaQ (N := 900) (k2 := 3) (c2 := 1) (s2 := 900) 1 ⟨rfl, rfl, rfl, rfl⟩ dX5_init_8 nw_byte (kx hB rfl) (nx hB rfl) (by decide) (by decide) (by decide) ?_
  refine WN_putr (E := (eX.drop 77)) (c := 1) (t := 2) dX5_init_10 fX5_9 rfl rfl rfl rfl (by decide) (kx hB rfl) hE (by decide) (fun R9 hE9 => ?_)
  clear hE; have hE : RI B (eX.drop 76) R9 := hE9; clear hE9
  refine WN_aload_n dX5_init_13 rfl ?_
  refine WN_iconst (0) dX5_init_14 rfl ?_
  refine WN_puti dX5_init_15 fX5_15 rfl rfl (gk_is 5 (by decide) (kx hB rfl)) ?_
  exact WN_vret dX5_init_18 rfl rfl (fun hZ => ⟨rfl, rfl, hE, hZ⟩)
set_option maxHeartbeats 4000000 in
set_option maxRecDepth 100000 in
theorem n_X3_3 {B : GB} {I : pI} {J : pJ} {R : pR} (hB : KB B kTX nTX) (hE : RI B (eX.drop 75) R) : SN B mX3_init 4 (5, 1, 5) [.ref (b_b B + 3), .ref (b_b B + 1)] I J R (fun I' J' R' => I' = (pp (pp I (b_b B + 3) 0 (0)) (b_b B + 3) 1 (-1)) ∧ J' = J ∧ RI B (eX.drop 73) R' ∧ Zk B 5 I' J' R') := by
  refine SN_of ⟨by decide, rfl, rfl⟩ (Nat.le_of_ble_eq_true rfl) ?_
  refine WN_aload_n dX3_init_0 rfl ?_
  refine WN_obji dX3_init_1 lX3_3 (by decide) ?_
  refine WN_aload_n dX3_init_4 rfl ?_
  refine WN_iconst (5) dX3_init_5 rfl ?_
  refine WN_newaQ (N := 5) (k2 := 5) (c2 := 1) (s2 := 5) 3 ⟨rfl, rfl, rfl, rfl⟩ dX3_init_6 nw_int (kx hB rfl) (nx hB rfl) (by decide) (by decide) (by decide) ?_
  refine WN_putr (E := (eX.drop 75)) (c := 3) (t := 4) dX3_init_8 fX3_9 rfl rfl rfl rfl (by decide) (kx hB rfl) hE (by decide) (fun R9 hE9 => ?_)
  clear hE; have hE : RI B (eX.drop 74) R9 := hE9; clear hE9
  refine WN_aload_n dX3_init_11 rfl ?_
  refine WN_aload_n dX3_init_12 rfl ?_
  refine WN_putr (E := (eX.drop 74)) (c := 3) (t := 1) dX3_init_13 fX3_15 rfl rfl rfl rfl (by decide) (kx hB rfl) hE (by decide) (fun R9 hE9 => ?_)
  clear hE; have hE : RI B (eX.drop 73) R9 := hE9; clear hE9
  refine WN_aload_n dX3_init_16 rfl ?_
  refine WN_iconst (0) dX3_init_17 rfl ?_
  refine WN_puti dX3_init_18 fX3_19 rfl rfl (gk_is 3 (by decide) (kx hB rfl)) ?_
  refine WN_aload_n dX3_init_21 rfl ?_
  refine WN_iconst (-1) dX3_init_22 rfl ?_
  refine WN_puti dX3_init_23 fX3_23 rfl rfl (gk_is 3 (by decide) (kx hB rfl)) ?_
  exact WN_vret dX3_init_26 rfl rfl (fun hZ => ⟨rfl, rfl, hE, hZ⟩)
set_option maxHeartbeats 4000000 in
set_option maxRecDepth 100000 in
theorem n_forget_6 {B : GB} {I : pI} {J : pJ} {R : pR} (hB : KB B kTX nTX) (hE : RI B (eX.drop 57) R) : SP (gk B 22) mX7_forget [.ref (b_b B + 6)] I J R (pu (fi (fi (fi (fi (fi (fi (fi (fi (fi (pp (pp (pp (pp (pp I (b_b B + 6) 0 (0)) (b_b B + 6) 1 (0)) (b_b B + 6) 2 (0)) (b_b B + 6) 3 (-1)) (b_b B + 6) 4 (-1)) (b_b B + 7) 7 (0)) (b_b B + 11) 4 (0)) (b_b B + 12) 28 (0)) (b_b B + 13) 28 (-1)) (b_b B + 14) 28 (0)) (b_b B + 15) 28 (0)) (b_b B + 18) 21 (5)) (b_b B + 19) 21 (-1)) (b_b B + 21) 48 (0)) J R) := by
  refine SP_of ⟨by decide, rfl⟩ (Nat.le_of_ble_eq_true rfl) ?_
  refine WP_aload_n dX7_forget_0 rfl ?_
  refine WP_iconst (0) dX7_forget_1 rfl ?_
  refine WP_puti dX7_forget_2 fX7_61 rfl rfl (gk_is 7 (by decide) (kx hB rfl)) ?_
  refine WP_aload_n dX7_forget_5 rfl ?_
  refine WP_iconst (0) dX7_forget_6 rfl ?_
  refine WP_puti dX7_forget_7 fX7_65 rfl rfl (gk_is 7 (by decide) (kx hB rfl)) ?_
  refine WP_aload_n dX7_forget_10 rfl ?_
  refine WP_iconst (0) dX7_forget_11 rfl ?_
  refine WP_puti dX7_forget_12 fX7_68 rfl rfl (gk_is 7 (by decide) (kx hB rfl)) ?_
  refine WP_aload_n dX7_forget_15 rfl ?_
  refine WP_iconst (-1) dX7_forget_16 rfl ?_
  refine WP_puti dX7_forget_17 fX7_71 rfl rfl (gk_is 7 (by decide) (kx hB rfl)) ?_
  refine WP_aload_n dX7_forget_20 rfl ?_
  refine WP_iconst (-1) dX7_forget_21 rfl ?_
  refine WP_puti dX7_forget_22 fX7_74 rfl rfl (gk_is 7 (by decide) (kx hB rfl)) ?_
  refine WP_aload_n dX7_forget_25 rfl ?_
  refine WP_getr (b := b_b B + 7) dX7_forget_26 fX7_9 rfl (gk_is 7 (by decide) (kx hB rfl)) (hE (6, 5, 7) (by decide)) ?_
  refine WP_iconst (0) dX7_forget_29 rfl ?_
  refine WP_callS2u dX7_forget_30 ⟨⟨⟨by decide, by decide⟩, zJ7_fill_53178⟩, lX7_77, tJ7_fill_53178⟩ (s_fillg (b_b B + 7) 7 (gk_is 13 (by decide) (kx hB rfl)) (gk_n 7 (nx hB rfl)) (by decide) (0)) (Nat.le_of_ble_eq_true rfl) ?_
  refine WP_aload_n dX7_forget_33 rfl ?_
  refine WP_getr (b := b_b B + 11) dX7_forget_34 fX7_24 rfl (gk_is 7 (by decide) (kx hB rfl)) (hE (6, 9, 11) (by decide)) ?_
  refine WP_iconst (0) dX7_forget_37 rfl ?_
  refine WP_callS2u dX7_forget_38 ⟨⟨⟨by decide, by decide⟩, zJ7_fill_53178⟩, lX7_77, tJ7_fill_53178⟩ (s_fillg (b_b B + 11) 4 (gk_is 13 (by decide) (kx hB rfl)) (gk_n 4 (nx hB rfl)) (by decide) (0)) (Nat.le_of_ble_eq_true rfl) ?_
  refine WP_aload_n dX7_forget_41 rfl ?_
  refine WP_getr (b := b_b B + 12) dX7_forget_42 fX7_27 rfl (gk_is 7 (by decide) (kx hB rfl)) (hE (6, 10, 12) (by decide)) ?_
  refine WP_iconst (0) dX7_forget_45 rfl ?_
  refine WP_callS2u dX7_forget_46 ⟨⟨⟨by decide, by decide⟩, zJ7_fill_53178⟩, lX7_77, tJ7_fill_53178⟩ (s_fillg (b_b B + 12) 28 (gk_is 13 (by decide) (kx hB rfl)) (gk_n 28 (nx hB rfl)) (by decide) (0)) (Nat.le_of_ble_eq_true rfl) ?_
  refine WP_aload_n dX7_forget_49 rfl ?_
  refine WP_getr (b := b_b B + 13) dX7_forget_50 fX7_30 rfl (gk_is 7 (by decide) (kx hB rfl)) (hE (6, 11, 13) (by decide)) ?_
  refine WP_iconst (-1) dX7_forget_53 rfl ?_
  refine WP_callS2u dX7_forget_54 ⟨⟨⟨by decide, by decide⟩, zJ7_fill_53178⟩, lX7_77, tJ7_fill_53178⟩ (s_fillg (b_b B + 13) 28 (gk_is 13 (by decide) (kx hB rfl)) (gk_n 28 (nx hB rfl)) (by decide) (-1)) (Nat.le_of_ble_eq_true rfl) ?_
  refine WP_aload_n dX7_forget_57 rfl ?_
  refine WP_getr (b := b_b B + 14) dX7_forget_58 fX7_33 rfl (gk_is 7 (by decide) (kx hB rfl)) (hE (6, 12, 14) (by decide)) ?_
  refine WP_iconst (0) dX7_forget_61 rfl ?_
  refine WP_callS2u dX7_forget_62 ⟨⟨⟨by decide, by decide⟩, zJ7_fill_53178⟩, lX7_77, tJ7_fill_53178⟩ (s_fillg (b_b B + 14) 28 (gk_is 13 (by decide) (kx hB rfl)) (gk_n 28 (nx hB rfl)) (by decide) (0)) (Nat.le_of_ble_eq_true rfl) ?_
  refine WP_aload_n dX7_forget_65 rfl ?_
  refine WP_getr (b := b_b B + 15) dX7_forget_66 fX7_36 rfl (gk_is 7 (by decide) (kx hB rfl)) (hE (6, 13, 15) (by decide)) ?_
  refine WP_iconst (0) dX7_forget_69 rfl ?_
  refine WP_callS2u dX7_forget_70 ⟨⟨⟨by decide, by decide⟩, zJ7_fill_53178⟩, lX7_77, tJ7_fill_53178⟩ (s_fillg (b_b B + 15) 28 (gk_is 13 (by decide) (kx hB rfl)) (gk_n 28 (nx hB rfl)) (by decide) (0)) (Nat.le_of_ble_eq_true rfl) ?_
  refine WP_aload_n dX7_forget_73 rfl ?_
  refine WP_getr (b := b_b B + 18) dX7_forget_74 fX7_45 rfl (gk_is 7 (by decide) (kx hB rfl)) (hE (6, 16, 18) (by decide)) ?_
  refine WP_iconst (5) dX7_forget_77 rfl ?_
  refine WP_callS2u dX7_forget_78 ⟨⟨⟨by decide, by decide⟩, zJ7_fill_53178⟩, lX7_77, tJ7_fill_53178⟩ (s_fillg (b_b B + 18) 21 (gk_is 13 (by decide) (kx hB rfl)) (gk_n 21 (nx hB rfl)) (by decide) (5)) (Nat.le_of_ble_eq_true rfl) ?_
  refine WP_aload_n dX7_forget_81 rfl ?_
  refine WP_getr (b := b_b B + 19) dX7_forget_82 fX7_48 rfl (gk_is 7 (by decide) (kx hB rfl)) (hE (6, 17, 19) (by decide)) ?_
  refine WP_iconst (-1) dX7_forget_85 rfl ?_
  refine WP_callS2u dX7_forget_86 ⟨⟨⟨by decide, by decide⟩, zJ7_fill_53178⟩, lX7_77, tJ7_fill_53178⟩ (s_fillg (b_b B + 19) 21 (gk_is 13 (by decide) (kx hB rfl)) (gk_n 21 (nx hB rfl)) (by decide) (-1)) (Nat.le_of_ble_eq_true rfl) ?_
  refine WP_aload_n dX7_forget_89 rfl ?_
  refine WP_getr (b := b_b B + 21) dX7_forget_90 fX7_55 rfl (gk_is 7 (by decide) (kx hB rfl)) (hE (6, 19, 21) (by decide)) ?_
  refine WP_iconst (0) dX7_forget_93 rfl ?_
  refine WP_callS2u dX7_forget_94 ⟨⟨⟨by decide, by decide⟩, zJ7_fill_53178⟩, lX7_77, tJ7_fill_53178⟩ (s_fillg (b_b B + 21) 48 (gk_is 13 (by decide) (kx hB rfl)) (gk_n 48 (nx hB rfl)) (by decide) (0)) (Nat.le_of_ble_eq_true rfl) ?_
  exact WP_vret dX7_forget_97 rfl ⟨rfl, rfl, rfl, rfl⟩
set_option maxHeartbeats 4000000 in
set_option maxRecDepth 100000 in
theorem n_X0_5 {B : GB} {I : pI} {J : pJ} {R : pR} (hB : KB B kTX nTX) (hE : RI B (eX.drop 57) R) : SN B mX0_init 22 (27, 5, 467) [.ref (b_b B + 5), .ref (b_b B + 6)] I J R (fun I' J' R' => I' = I ∧ J' = J ∧ RI B (eX.drop 51) R' ∧ Zk B 27 I' J' R') := by
  refine SN_of ⟨by decide, rfl, rfl⟩ (Nat.le_of_ble_eq_true rfl) ?_
  refine WN_aload_n dX0_init_0 rfl ?_
  refine WN_obji dX0_init_1 lX0_3 (by decide) ?_
  refine WN_aload_n dX0_init_4 rfl ?_
  refine WN_bipush (21) dX0_init_5 rfl ?_
  refine WN_newaQ (N := 21) (k2 := 23) (c2 := 1) (s2 := 21) 21 ⟨rfl, rfl, rfl, rfl⟩ dX0_init_7 nw_int (kx hB rfl) (nx hB rfl) (by decide) (by decide) (by decide) ?_
  refine WN_putr (E := (eX.drop 57)) (c := 5) (t := 22) dX0_init_9 fX0_9 rfl rfl rfl rfl (by decide) (kx hB rfl) hE (by decide) (fun R9 hE9 => ?_)
  clear hE; have hE : RI B (eX.drop 56) R9 := hE9; clear hE9
  refine WN_aload_n dX0_init_12 rfl ?_
  refine WN_bipush (7) dX0_init_13 rfl ?_
  refine WN_newaQ (N := 7) (k2 := 24) (c2 := 2) (s2 := 28) 22 ⟨rfl, rfl, rfl, rfl⟩ dX0_init_15 nw_int (kx hB rfl) (nx hB rfl) (by decide) (by decide) (by decide) ?_
  refine WN_putr (E := (eX.drop 56)) (c := 5) (t := 23) dX0_init_17 fX0_15 rfl rfl rfl rfl (by decide) (kx hB rfl) hE (by decide) (fun R9 hE9 => ?_)
  clear hE; have hE : RI B (eX.drop 55) R9 := hE9; clear hE9
  refine WN_aload_n dX0_init_20 rfl ?_
  refine WN_sipush (427) dX0_init_21 rfl ?_
  refine WN_newaQ (N := 427) (k2 := 25) (c2 := 3) (s2 := 455) 23 ⟨rfl, rfl, rfl, rfl⟩ dX0_init_24 nw_int (kx hB rfl) (nx hB rfl) (by decide) (by decide) (by decide) ?_
  refine WN_putr (E := (eX.drop 55)) (c := 5) (t := 24) dX0_init_26 fX0_18 rfl rfl rfl rfl (by decide) (kx hB rfl) hE (by decide) (fun R9 hE9 => ?_)
  clear hE; have hE : RI B (eX.drop 54) R9 := hE9; clear hE9
  refine WN_aload_n dX0_init_29 rfl ?_
  refine WN_bipush (6) dX0_init_30 rfl ?_
  refine WN_newaQ (N := 6) (k2 := 26) (c2 := 4) (s2 := 461) 24 ⟨rfl, rfl, rfl, rfl⟩ dX0_init_32 nw_int (kx hB rfl) (nx hB rfl) (by decide) (by decide) (by decide) ?_
  refine WN_putr (E := (eX.drop 54)) (c := 5) (t := 25) dX0_init_34 fX0_21 rfl rfl rfl rfl (by decide) (kx hB rfl) hE (by decide) (fun R9 hE9 => ?_)
  clear hE; have hE : RI B (eX.drop 53) R9 := hE9; clear hE9
  refine WN_aload_n dX0_init_37 rfl ?_
  refine WN_bipush (6) dX0_init_38 rfl ?_
  refine WN_newaQ (N := 6) (k2 := 27) (c2 := 5) (s2 := 467) 25 ⟨rfl, rfl, rfl, rfl⟩ dX0_init_40 nw_int (kx hB rfl) (nx hB rfl) (by decide) (by decide) (by decide) ?_
  refine WN_putr (E := (eX.drop 53)) (c := 5) (t := 26) dX0_init_42 fX0_24 rfl rfl rfl rfl (by decide) (kx hB rfl) hE (by decide) (fun R9 hE9 => ?_)
  clear hE; have hE : RI B (eX.drop 52) R9 := hE9; clear hE9
  refine WN_aload_n dX0_init_45 rfl ?_
  refine WN_aload_n dX0_init_46 rfl ?_
  refine WN_putr (E := (eX.drop 52)) (c := 5) (t := 6) dX0_init_47 fX0_27 rfl rfl rfl rfl (by decide) (kx hB rfl) hE (by decide) (fun R9 hE9 => ?_)
  clear hE; have hE : RI B (eX.drop 51) R9 := hE9; clear hE9
  exact WN_vret dX0_init_50 rfl rfl (fun hZ => ⟨rfl, rfl, hE, hZ⟩)
set_option maxHeartbeats 4000000 in
set_option maxRecDepth 100000 in
theorem n_forget_27 {B : GB} {I : pI} {J : pJ} {R : pR} (hB : KB B kTX nTX) (hE : RI B (eX.drop 35) R) : SP (gk B 43) mX7_forget [.ref (b_b B + 27)] I J R (pu (fi (fi (fi (fi (fi (fi (fi (fi (fi (pp (pp (pp (pp (pp I (b_b B + 27) 0 (0)) (b_b B + 27) 1 (0)) (b_b B + 27) 2 (0)) (b_b B + 27) 3 (-1)) (b_b B + 27) 4 (-1)) (b_b B + 28) 7 (0)) (b_b B + 32) 4 (0)) (b_b B + 33) 28 (0)) (b_b B + 34) 28 (-1)) (b_b B + 35) 28 (0)) (b_b B + 36) 28 (0)) (b_b B + 39) 21 (5)) (b_b B + 40) 21 (-1)) (b_b B + 42) 48 (0)) J R) := by
  refine SP_of ⟨by decide, rfl⟩ (Nat.le_of_ble_eq_true rfl) ?_
  refine WP_aload_n dX7_forget_0 rfl ?_
  refine WP_iconst (0) dX7_forget_1 rfl ?_
  refine WP_puti dX7_forget_2 fX7_61 rfl rfl (gk_is 7 (by decide) (kx hB rfl)) ?_
  refine WP_aload_n dX7_forget_5 rfl ?_
  refine WP_iconst (0) dX7_forget_6 rfl ?_
  refine WP_puti dX7_forget_7 fX7_65 rfl rfl (gk_is 7 (by decide) (kx hB rfl)) ?_
  refine WP_aload_n dX7_forget_10 rfl ?_
  refine WP_iconst (0) dX7_forget_11 rfl ?_
  refine WP_puti dX7_forget_12 fX7_68 rfl rfl (gk_is 7 (by decide) (kx hB rfl)) ?_
  refine WP_aload_n dX7_forget_15 rfl ?_
  refine WP_iconst (-1) dX7_forget_16 rfl ?_
  refine WP_puti dX7_forget_17 fX7_71 rfl rfl (gk_is 7 (by decide) (kx hB rfl)) ?_
  refine WP_aload_n dX7_forget_20 rfl ?_
  refine WP_iconst (-1) dX7_forget_21 rfl ?_
  refine WP_puti dX7_forget_22 fX7_74 rfl rfl (gk_is 7 (by decide) (kx hB rfl)) ?_
  refine WP_aload_n dX7_forget_25 rfl ?_
  refine WP_getr (b := b_b B + 28) dX7_forget_26 fX7_9 rfl (gk_is 7 (by decide) (kx hB rfl)) (hE (27, 5, 28) (by decide)) ?_
  refine WP_iconst (0) dX7_forget_29 rfl ?_
  refine WP_callS2u dX7_forget_30 ⟨⟨⟨by decide, by decide⟩, zJ7_fill_53178⟩, lX7_77, tJ7_fill_53178⟩ (s_fillg (b_b B + 28) 7 (gk_is 13 (by decide) (kx hB rfl)) (gk_n 7 (nx hB rfl)) (by decide) (0)) (Nat.le_of_ble_eq_true rfl) ?_
  refine WP_aload_n dX7_forget_33 rfl ?_
  refine WP_getr (b := b_b B + 32) dX7_forget_34 fX7_24 rfl (gk_is 7 (by decide) (kx hB rfl)) (hE (27, 9, 32) (by decide)) ?_
  refine WP_iconst (0) dX7_forget_37 rfl ?_
  refine WP_callS2u dX7_forget_38 ⟨⟨⟨by decide, by decide⟩, zJ7_fill_53178⟩, lX7_77, tJ7_fill_53178⟩ (s_fillg (b_b B + 32) 4 (gk_is 13 (by decide) (kx hB rfl)) (gk_n 4 (nx hB rfl)) (by decide) (0)) (Nat.le_of_ble_eq_true rfl) ?_
  refine WP_aload_n dX7_forget_41 rfl ?_
  refine WP_getr (b := b_b B + 33) dX7_forget_42 fX7_27 rfl (gk_is 7 (by decide) (kx hB rfl)) (hE (27, 10, 33) (by decide)) ?_
  refine WP_iconst (0) dX7_forget_45 rfl ?_
  refine WP_callS2u dX7_forget_46 ⟨⟨⟨by decide, by decide⟩, zJ7_fill_53178⟩, lX7_77, tJ7_fill_53178⟩ (s_fillg (b_b B + 33) 28 (gk_is 13 (by decide) (kx hB rfl)) (gk_n 28 (nx hB rfl)) (by decide) (0)) (Nat.le_of_ble_eq_true rfl) ?_
  refine WP_aload_n dX7_forget_49 rfl ?_
  refine WP_getr (b := b_b B + 34) dX7_forget_50 fX7_30 rfl (gk_is 7 (by decide) (kx hB rfl)) (hE (27, 11, 34) (by decide)) ?_
  refine WP_iconst (-1) dX7_forget_53 rfl ?_
  refine WP_callS2u dX7_forget_54 ⟨⟨⟨by decide, by decide⟩, zJ7_fill_53178⟩, lX7_77, tJ7_fill_53178⟩ (s_fillg (b_b B + 34) 28 (gk_is 13 (by decide) (kx hB rfl)) (gk_n 28 (nx hB rfl)) (by decide) (-1)) (Nat.le_of_ble_eq_true rfl) ?_
  refine WP_aload_n dX7_forget_57 rfl ?_
  refine WP_getr (b := b_b B + 35) dX7_forget_58 fX7_33 rfl (gk_is 7 (by decide) (kx hB rfl)) (hE (27, 12, 35) (by decide)) ?_
  refine WP_iconst (0) dX7_forget_61 rfl ?_
  refine WP_callS2u dX7_forget_62 ⟨⟨⟨by decide, by decide⟩, zJ7_fill_53178⟩, lX7_77, tJ7_fill_53178⟩ (s_fillg (b_b B + 35) 28 (gk_is 13 (by decide) (kx hB rfl)) (gk_n 28 (nx hB rfl)) (by decide) (0)) (Nat.le_of_ble_eq_true rfl) ?_
  refine WP_aload_n dX7_forget_65 rfl ?_
  refine WP_getr (b := b_b B + 36) dX7_forget_66 fX7_36 rfl (gk_is 7 (by decide) (kx hB rfl)) (hE (27, 13, 36) (by decide)) ?_
  refine WP_iconst (0) dX7_forget_69 rfl ?_
  refine WP_callS2u dX7_forget_70 ⟨⟨⟨by decide, by decide⟩, zJ7_fill_53178⟩, lX7_77, tJ7_fill_53178⟩ (s_fillg (b_b B + 36) 28 (gk_is 13 (by decide) (kx hB rfl)) (gk_n 28 (nx hB rfl)) (by decide) (0)) (Nat.le_of_ble_eq_true rfl) ?_
  refine WP_aload_n dX7_forget_73 rfl ?_
  refine WP_getr (b := b_b B + 39) dX7_forget_74 fX7_45 rfl (gk_is 7 (by decide) (kx hB rfl)) (hE (27, 16, 39) (by decide)) ?_
  refine WP_iconst (5) dX7_forget_77 rfl ?_
  refine WP_callS2u dX7_forget_78 ⟨⟨⟨by decide, by decide⟩, zJ7_fill_53178⟩, lX7_77, tJ7_fill_53178⟩ (s_fillg (b_b B + 39) 21 (gk_is 13 (by decide) (kx hB rfl)) (gk_n 21 (nx hB rfl)) (by decide) (5)) (Nat.le_of_ble_eq_true rfl) ?_
  refine WP_aload_n dX7_forget_81 rfl ?_
  refine WP_getr (b := b_b B + 40) dX7_forget_82 fX7_48 rfl (gk_is 7 (by decide) (kx hB rfl)) (hE (27, 17, 40) (by decide)) ?_
  refine WP_iconst (-1) dX7_forget_85 rfl ?_
  refine WP_callS2u dX7_forget_86 ⟨⟨⟨by decide, by decide⟩, zJ7_fill_53178⟩, lX7_77, tJ7_fill_53178⟩ (s_fillg (b_b B + 40) 21 (gk_is 13 (by decide) (kx hB rfl)) (gk_n 21 (nx hB rfl)) (by decide) (-1)) (Nat.le_of_ble_eq_true rfl) ?_
  refine WP_aload_n dX7_forget_89 rfl ?_
  refine WP_getr (b := b_b B + 42) dX7_forget_90 fX7_55 rfl (gk_is 7 (by decide) (kx hB rfl)) (hE (27, 19, 42) (by decide)) ?_
  refine WP_iconst (0) dX7_forget_93 rfl ?_
  refine WP_callS2u dX7_forget_94 ⟨⟨⟨by decide, by decide⟩, zJ7_fill_53178⟩, lX7_77, tJ7_fill_53178⟩ (s_fillg (b_b B + 42) 48 (gk_is 13 (by decide) (kx hB rfl)) (gk_n 48 (nx hB rfl)) (by decide) (0)) (Nat.le_of_ble_eq_true rfl) ?_
  exact WP_vret dX7_forget_97 rfl ⟨rfl, rfl, rfl, rfl⟩
set_option maxHeartbeats 4000000 in
set_option maxRecDepth 100000 in
theorem n_X6_44 {B : GB} {I : pI} {J : pJ} {R : pR} (hB : KB B kTX nTX) (hE : RI B (eX.drop 34) R) : SN B mX6_init 45 (45, 0, 0) [.ref (b_b B + 44)] I J R (fun I' J' R' => I' = (pp I (b_b B + 44) 0 (-1)) ∧ J' = J ∧ RI B (eX.drop 34) R' ∧ Zk B 45 I' J' R') := by
  refine SN_of ⟨by decide, rfl, rfl⟩ (Nat.le_of_ble_eq_true rfl) ?_
  refine WN_aload_n dX6_init_0 rfl ?_
  refine WN_obji dX6_init_1 lX6_3 (by decide) ?_
  refine WN_aload_n dX6_init_4 rfl ?_
  refine WN_iconst (-1) dX6_init_5 rfl ?_
  refine WN_puti dX6_init_6 fX6_9 rfl rfl (gk_is 6 (by decide) (kx hB rfl)) ?_
  exact WN_vret dX6_init_9 rfl rfl (fun hZ => ⟨rfl, rfl, hE, hZ⟩)
set_option maxHeartbeats 4000000 in
set_option maxRecDepth 100000 in
theorem n_X2_43 {B : GB} {I : pI} {J : pJ} {R : pR} (hB : KB B kTX nTX) (hE : RI B (eX.drop 34) R) : SN B mX2_init 44 (49, 5, 915) [.ref (b_b B + 43), .ref (b_b B + 5)] I J R (fun I' J' R' => I' = (pp I (b_b B + 44) 0 (-1)) ∧ J' = J ∧ RI B (eX.drop 28) R' ∧ Zk B 49 I' J' R') := by
  refine SN_of ⟨by decide, rfl, rfl⟩ (Nat.le_of_ble_eq_true rfl) ?_
  refine WN_aload_n dX2_init_0 rfl ?_
  refine WN_obji dX2_init_1 lX2_3 (by decide) ?_
  refine WN_aload_n dX2_init_4 rfl ?_
  refine WN_new (kd := 6) (N := 9) (k2 := 45) (c2 := 1) (s2 := 9) 43 ⟨rfl, rfl, rfl, rfl, rfl⟩ dX2_init_5 ncX2_9 (kx hB rfl) (by decide) ?_
  refine WN_dup dX2_init_8 rfl ?_
  refine WN_init (y := mX6_init) (zz := (45, 0, 0)) (As := []) (rest := [.ref (b_b B + 44), .ref (b_b B + 43)]) (k2 := 45) (c2 := 1) (s2 := 9) 44 ⟨rfl, rfl, rfl, rfl, rfl⟩ dX2_init_9 ⟨⟨⟨by decide, by decide⟩, zX6_init⟩, lX2_11, rfl, iX6_init, rfl⟩ (n_X6_44 hB hE) rfl rfl (Nat.le_of_ble_eq_true rfl) (by decide) (fun _ _ _ h => h.2.2.2) (fun I9 J9 R9 hq => ?_)
  clear hE; obtain ⟨hI9, rfl, hE, -⟩ := hq
  subst hI9
  refine WN_putr (E := (eX.drop 34)) (c := 43) (t := 44) dX2_init_12 fX2_12 rfl rfl rfl rfl (by decide) (kx hB rfl) hE (by decide) (fun R9 hE9 => ?_)
  clear hE; have hE : RI B (eX.drop 33) R9 := hE9; clear hE9
  refine WN_aload_n dX2_init_15 rfl ?_
  refine WN_sipush (168) dX2_init_16 rfl ?_
  refine WN_newaQ (N := 168) (k2 := 46) (c2 := 2) (s2 := 177) 44 ⟨rfl, rfl, rfl, rfl⟩ dX2_init_19 nw_long (kx hB rfl) (nx hB rfl) (by decide) (by decide) (by decide) ?_
  refine WN_putr (E := (eX.drop 33)) (c := 43) (t := 45) dX2_init_21 fX2_18 rfl rfl rfl rfl (by decide) (kx hB rfl) hE (by decide) (fun R9 hE9 => ?_)
  clear hE; have hE : RI B (eX.drop 32) R9 := hE9; clear hE9
  refine WN_aload_n dX2_init_24 rfl ?_
  refine WN_bipush (6) dX2_init_25 rfl ?_
  refine WN_newaQ (N := 6) (k2 := 47) (c2 := 3) (s2 := 183) 45 ⟨rfl, rfl, rfl, rfl⟩ dX2_init_27 nw_long (kx hB rfl) (nx hB rfl) (by decide) (by decide) (by decide) ?_
  refine WN_putr (E := (eX.drop 32)) (c := 43) (t := 46) dX2_init_29 fX2_22 rfl rfl rfl rfl (by decide) (kx hB rfl) hE (by decide) (fun R9 hE9 => ?_)
  clear hE; have hE : RI B (eX.drop 31) R9 := hE9; clear hE9
  refine WN_aload_n dX2_init_32 rfl ?_
  refine WN_sipush (366) dX2_init_33 rfl ?_
  refine WN_newaQ (N := 366) (k2 := 48) (c2 := 4) (s2 := 549) 46 ⟨rfl, rfl, rfl, rfl⟩ dX2_init_36 nw_int (kx hB rfl) (nx hB rfl) (by decide) (by decide) (by decide) ?_
  refine WN_putr (E := (eX.drop 31)) (c := 43) (t := 47) dX2_init_38 fX2_25 rfl rfl rfl rfl (by decide) (kx hB rfl) hE (by decide) (fun R9 hE9 => ?_)
  clear hE; have hE : RI B (eX.drop 30) R9 := hE9; clear hE9
  refine WN_aload_n dX2_init_41 rfl ?_
  refine WN_sipush (366) dX2_init_42 rfl ?_
  refine WN_newaQ (N := 366) (k2 := 49) (c2 := 5) (s2 := 915) 47 ⟨rfl, rfl, rfl, rfl⟩ dX2_init_45 nw_int (kx hB rfl) (nx hB rfl) (by decide) (by decide) (by decide) ?_
  refine WN_putr (E := (eX.drop 30)) (c := 43) (t := 48) dX2_init_47 fX2_29 rfl rfl rfl rfl (by decide) (kx hB rfl) hE (by decide) (fun R9 hE9 => ?_)
  clear hE; have hE : RI B (eX.drop 29) R9 := hE9; clear hE9
  refine WN_aload_n dX2_init_50 rfl ?_
  refine WN_aload_n dX2_init_51 rfl ?_
  refine WN_putr (E := (eX.drop 29)) (c := 43) (t := 5) dX2_init_52 fX2_32 rfl rfl rfl rfl (by decide) (kx hB rfl) hE (by decide) (fun R9 hE9 => ?_)
  clear hE; have hE : RI B (eX.drop 28) R9 := hE9; clear hE9
  exact WN_vret dX2_init_55 rfl rfl (fun hZ => ⟨rfl, rfl, hE, hZ⟩)
set_option maxHeartbeats 4000000 in
set_option maxRecDepth 100000 in
theorem n_X6_50 {B : GB} {I : pI} {J : pJ} {R : pR} (hB : KB B kTX nTX) (hE : RI B (eX.drop 27) R) : SN B mX6_init 51 (51, 0, 0) [.ref (b_b B + 50)] I J R (fun I' J' R' => I' = (pp I (b_b B + 50) 0 (-1)) ∧ J' = J ∧ RI B (eX.drop 27) R' ∧ Zk B 51 I' J' R') := by
  refine SN_of ⟨by decide, rfl, rfl⟩ (Nat.le_of_ble_eq_true rfl) ?_
  refine WN_aload_n dX6_init_0 rfl ?_
  refine WN_obji dX6_init_1 lX6_3 (by decide) ?_
  refine WN_aload_n dX6_init_4 rfl ?_
  refine WN_iconst (-1) dX6_init_5 rfl ?_
  refine WN_puti dX6_init_6 fX6_9 rfl rfl (gk_is 6 (by decide) (kx hB rfl)) ?_
  exact WN_vret dX6_init_9 rfl rfl (fun hZ => ⟨rfl, rfl, hE, hZ⟩)
set_option maxHeartbeats 4000000 in
set_option maxRecDepth 100000 in
theorem n_X9_49 {B : GB} {I : pI} {J : pJ} {R : pR} (hB : KB B kTX nTX) (hE : RI B (eX.drop 27) R) : SN B mX9_init 50 (53, 3, 33) [.ref (b_b B + 49), .ref (b_b B + 5), .ref (b_b B + 43)] I J R (fun I' J' R' => I' = (pp I (b_b B + 50) 0 (-1)) ∧ J' = J ∧ RI B (eX.drop 22) R' ∧ Zk B 53 I' J' R') := by
  refine SN_of ⟨by decide, rfl, rfl⟩ (Nat.le_of_ble_eq_true rfl) ?_
  refine WN_aload_n dX9_init_0 rfl ?_
  refine WN_obji dX9_init_1 lX9_3 (by decide) ?_
  refine WN_aload_n dX9_init_4 rfl ?_
  refine WN_new (kd := 6) (N := 9) (k2 := 51) (c2 := 1) (s2 := 9) 49 ⟨rfl, rfl, rfl, rfl, rfl⟩ dX9_init_5 ncX9_9 (kx hB rfl) (by decide) ?_
  refine WN_dup dX9_init_8 rfl ?_
  refine WN_init (y := mX6_init) (zz := (51, 0, 0)) (As := []) (rest := [.ref (b_b B + 50), .ref (b_b B + 49)]) (k2 := 51) (c2 := 1) (s2 := 9) 50 ⟨rfl, rfl, rfl, rfl, rfl⟩ dX9_init_9 ⟨⟨⟨by decide, by decide⟩, zX6_init⟩, lX9_11, rfl, iX6_init, rfl⟩ (n_X6_50 hB hE) rfl rfl (Nat.le_of_ble_eq_true rfl) (by decide) (fun _ _ _ h => h.2.2.2) (fun I9 J9 R9 hq => ?_)
  clear hE; obtain ⟨hI9, rfl, hE, -⟩ := hq
  subst hI9
  refine WN_putr (E := (eX.drop 27)) (c := 49) (t := 50) dX9_init_12 fX9_12 rfl rfl rfl rfl (by decide) (kx hB rfl) hE (by decide) (fun R9 hE9 => ?_)
  clear hE; have hE : RI B (eX.drop 26) R9 := hE9; clear hE9
  refine WN_aload_n dX9_init_15 rfl ?_
  refine WN_bipush (21) dX9_init_16 rfl ?_
  refine WN_newaQ (N := 21) (k2 := 52) (c2 := 2) (s2 := 30) 50 ⟨rfl, rfl, rfl, rfl⟩ dX9_init_18 nw_int (kx hB rfl) (nx hB rfl) (by decide) (by decide) (by decide) ?_
  refine WN_putr (E := (eX.drop 26)) (c := 49) (t := 51) dX9_init_20 fX9_18 rfl rfl rfl rfl (by decide) (kx hB rfl) hE (by decide) (fun R9 hE9 => ?_)
  clear hE; have hE : RI B (eX.drop 25) R9 := hE9; clear hE9
  refine WN_aload_n dX9_init_23 rfl ?_
  refine WN_iconst (3) dX9_init_24 rfl ?_
  refine WN_newaQ (N := 3) (k2 := 53) (c2 := 3) (s2 := 33) 51 ⟨rfl, rfl, rfl, rfl⟩ dX9_init_25 nw_int (kx hB rfl) (nx hB rfl) (by decide) (by decide) (by decide) ?_
  refine WN_putr (E := (eX.drop 25)) (c := 49) (t := 52) dX9_init_27 fX9_22 rfl rfl rfl rfl (by decide) (kx hB rfl) hE (by decide) (fun R9 hE9 => ?_)
  clear hE; have hE : RI B (eX.drop 24) R9 := hE9; clear hE9
  refine WN_aload_n dX9_init_30 rfl ?_
  refine WN_aload_n dX9_init_31 rfl ?_
  refine WN_putr (E := (eX.drop 24)) (c := 49) (t := 5) dX9_init_32 fX9_25 rfl rfl rfl rfl (by decide) (kx hB rfl) hE (by decide) (fun R9 hE9 => ?_)
  clear hE; have hE : RI B (eX.drop 23) R9 := hE9; clear hE9
  refine WN_aload_n dX9_init_35 rfl ?_
  refine WN_aload_n dX9_init_36 rfl ?_
  refine WN_putr (E := (eX.drop 23)) (c := 49) (t := 43) dX9_init_37 fX9_29 rfl rfl rfl rfl (by decide) (kx hB rfl) hE (by decide) (fun R9 hE9 => ?_)
  clear hE; have hE : RI B (eX.drop 22) R9 := hE9; clear hE9
  exact WN_vret dX9_init_40 rfl rfl (fun hZ => ⟨rfl, rfl, hE, hZ⟩)
set_option maxHeartbeats 4000000 in
set_option maxRecDepth 100000 in
theorem n_X4_53 {B : GB} {I : pI} {J : pJ} {R : pR} (hB : KB B kTX nTX) (hE : RI B (eX.drop 21) R) : SN B mX4_init 54 (56, 2, 32) [.ref (b_b B + 53)] I J R (fun I' J' R' => I' = (pp I (b_b B + 53) 0 (-1)) ∧ J' = J ∧ RI B (eX.drop 19) R' ∧ Zk B 56 I' J' R') := by
  refine SN_of ⟨by decide, rfl, rfl⟩ (Nat.le_of_ble_eq_true rfl) ?_
  refine WN_aload_n dX4_init_0 rfl ?_
  refine WN_obji dX4_init_1 lX4_3 (by decide) ?_
  refine WN_aload_n dX4_init_4 rfl ?_
  refine WN_iconst (4) dX4_init_5 rfl ?_
  refine WN_newaQ (N := 4) (k2 := 55) (c2 := 1) (s2 := 4) 53 ⟨rfl, rfl, rfl, rfl⟩ dX4_init_6 nw_int (kx hB rfl) (nx hB rfl) (by decide) (by decide) (by decide) ?_
  refine WN_putr (E := (eX.drop 21)) (c := 53) (t := 54) dX4_init_8 fX4_9 rfl rfl rfl rfl (by decide) (kx hB rfl) hE (by decide) (fun R9 hE9 => ?_)
  clear hE; have hE : RI B (eX.drop 20) R9 := hE9; clear hE9
  refine WN_aload_n dX4_init_11 rfl ?_
  refine WN_bipush (28) dX4_init_12 rfl ?_
  refine WN_newaQ (N := 28) (k2 := 56) (c2 := 2) (s2 := 32) 54 ⟨rfl, rfl, rfl, rfl⟩ dX4_init_14 nw_int (kx hB rfl) (nx hB rfl) (by decide) (by decide) (by decide) ?_
  refine WN_putr (E := (eX.drop 20)) (c := 53) (t := 55) dX4_init_16 fX4_15 rfl rfl rfl rfl (by decide) (kx hB rfl) hE (by decide) (fun R9 hE9 => ?_)
  clear hE; have hE : RI B (eX.drop 19) R9 := hE9; clear hE9
  refine WN_aload_n dX4_init_19 rfl ?_
  refine WN_iconst (-1) dX4_init_20 rfl ?_
  refine WN_puti dX4_init_21 fX4_18 rfl rfl (gk_is 4 (by decide) (kx hB rfl)) ?_
  exact WN_vret dX4_init_24 rfl rfl (fun hZ => ⟨rfl, rfl, hE, hZ⟩)
set_option maxHeartbeats 4000000 in
set_option maxRecDepth 100000 in
theorem n_X4_56 {B : GB} {I : pI} {J : pJ} {R : pR} (hB : KB B kTX nTX) (hE : RI B (eX.drop 18) R) : SN B mX4_init 57 (59, 2, 32) [.ref (b_b B + 56)] I J R (fun I' J' R' => I' = (pp I (b_b B + 56) 0 (-1)) ∧ J' = J ∧ RI B (eX.drop 16) R' ∧ Zk B 59 I' J' R') := by
  refine SN_of ⟨by decide, rfl, rfl⟩ (Nat.le_of_ble_eq_true rfl) ?_
  refine WN_aload_n dX4_init_0 rfl ?_
  refine WN_obji dX4_init_1 lX4_3 (by decide) ?_
  refine WN_aload_n dX4_init_4 rfl ?_
  refine WN_iconst (4) dX4_init_5 rfl ?_
  refine WN_newaQ (N := 4) (k2 := 58) (c2 := 1) (s2 := 4) 56 ⟨rfl, rfl, rfl, rfl⟩ dX4_init_6 nw_int (kx hB rfl) (nx hB rfl) (by decide) (by decide) (by decide) ?_
  refine WN_putr (E := (eX.drop 18)) (c := 56) (t := 57) dX4_init_8 fX4_9 rfl rfl rfl rfl (by decide) (kx hB rfl) hE (by decide) (fun R9 hE9 => ?_)
  clear hE; have hE : RI B (eX.drop 17) R9 := hE9; clear hE9
  refine WN_aload_n dX4_init_11 rfl ?_
  refine WN_bipush (28) dX4_init_12 rfl ?_
  refine WN_newaQ (N := 28) (k2 := 59) (c2 := 2) (s2 := 32) 57 ⟨rfl, rfl, rfl, rfl⟩ dX4_init_14 nw_int (kx hB rfl) (nx hB rfl) (by decide) (by decide) (by decide) ?_
  refine WN_putr (E := (eX.drop 17)) (c := 56) (t := 58) dX4_init_16 fX4_15 rfl rfl rfl rfl (by decide) (kx hB rfl) hE (by decide) (fun R9 hE9 => ?_)
  clear hE; have hE : RI B (eX.drop 16) R9 := hE9; clear hE9
  refine WN_aload_n dX4_init_19 rfl ?_
  refine WN_iconst (-1) dX4_init_20 rfl ?_
  refine WN_puti dX4_init_21 fX4_18 rfl rfl (gk_is 4 (by decide) (kx hB rfl)) ?_
  exact WN_vret dX4_init_24 rfl rfl (fun hZ => ⟨rfl, rfl, hE, hZ⟩)
set_option maxHeartbeats 4000000 in
set_option maxRecDepth 100000 in
theorem n_X4_60 {B : GB} {I : pI} {J : pJ} {R : pR} (hB : KB B kTX nTX) (hE : RI B (eX.drop 14) R) : SN B mX4_init 61 (63, 2, 32) [.ref (b_b B + 60)] I J R (fun I' J' R' => I' = (pp I (b_b B + 60) 0 (-1)) ∧ J' = J ∧ RI B (eX.drop 12) R' ∧ Zk B 63 I' J' R') := by
  refine SN_of ⟨by decide, rfl, rfl⟩ (Nat.le_of_ble_eq_true rfl) ?_
  refine WN_aload_n dX4_init_0 rfl ?_
  refine WN_obji dX4_init_1 lX4_3 (by decide) ?_
  refine WN_aload_n dX4_init_4 rfl ?_
  refine WN_iconst (4) dX4_init_5 rfl ?_
  refine WN_newaQ (N := 4) (k2 := 62) (c2 := 1) (s2 := 4) 60 ⟨rfl, rfl, rfl, rfl⟩ dX4_init_6 nw_int (kx hB rfl) (nx hB rfl) (by decide) (by decide) (by decide) ?_
  refine WN_putr (E := (eX.drop 14)) (c := 60) (t := 61) dX4_init_8 fX4_9 rfl rfl rfl rfl (by decide) (kx hB rfl) hE (by decide) (fun R9 hE9 => ?_)
  clear hE; have hE : RI B (eX.drop 13) R9 := hE9; clear hE9
  refine WN_aload_n dX4_init_11 rfl ?_
  refine WN_bipush (28) dX4_init_12 rfl ?_
  refine WN_newaQ (N := 28) (k2 := 63) (c2 := 2) (s2 := 32) 61 ⟨rfl, rfl, rfl, rfl⟩ dX4_init_14 nw_int (kx hB rfl) (nx hB rfl) (by decide) (by decide) (by decide) ?_
  refine WN_putr (E := (eX.drop 13)) (c := 60) (t := 62) dX4_init_16 fX4_15 rfl rfl rfl rfl (by decide) (kx hB rfl) hE (by decide) (fun R9 hE9 => ?_)
  clear hE; have hE : RI B (eX.drop 12) R9 := hE9; clear hE9
  refine WN_aload_n dX4_init_19 rfl ?_
  refine WN_iconst (-1) dX4_init_20 rfl ?_
  refine WN_puti dX4_init_21 fX4_18 rfl rfl (gk_is 4 (by decide) (kx hB rfl)) ?_
  exact WN_vret dX4_init_24 rfl rfl (fun hZ => ⟨rfl, rfl, hE, hZ⟩)
set_option maxHeartbeats 4000000 in
set_option maxRecDepth 100000 in
theorem n_X4_63 {B : GB} {I : pI} {J : pJ} {R : pR} (hB : KB B kTX nTX) (hE : RI B (eX.drop 11) R) : SN B mX4_init 64 (66, 2, 32) [.ref (b_b B + 63)] I J R (fun I' J' R' => I' = (pp I (b_b B + 63) 0 (-1)) ∧ J' = J ∧ RI B (eX.drop 9) R' ∧ Zk B 66 I' J' R') := by
  refine SN_of ⟨by decide, rfl, rfl⟩ (Nat.le_of_ble_eq_true rfl) ?_
  refine WN_aload_n dX4_init_0 rfl ?_
  refine WN_obji dX4_init_1 lX4_3 (by decide) ?_
  refine WN_aload_n dX4_init_4 rfl ?_
  refine WN_iconst (4) dX4_init_5 rfl ?_
  refine WN_newaQ (N := 4) (k2 := 65) (c2 := 1) (s2 := 4) 63 ⟨rfl, rfl, rfl, rfl⟩ dX4_init_6 nw_int (kx hB rfl) (nx hB rfl) (by decide) (by decide) (by decide) ?_
  refine WN_putr (E := (eX.drop 11)) (c := 63) (t := 64) dX4_init_8 fX4_9 rfl rfl rfl rfl (by decide) (kx hB rfl) hE (by decide) (fun R9 hE9 => ?_)
  clear hE; have hE : RI B (eX.drop 10) R9 := hE9; clear hE9
  refine WN_aload_n dX4_init_11 rfl ?_
  refine WN_bipush (28) dX4_init_12 rfl ?_
  refine WN_newaQ (N := 28) (k2 := 66) (c2 := 2) (s2 := 32) 64 ⟨rfl, rfl, rfl, rfl⟩ dX4_init_14 nw_int (kx hB rfl) (nx hB rfl) (by decide) (by decide) (by decide) ?_
  refine WN_putr (E := (eX.drop 10)) (c := 63) (t := 65) dX4_init_16 fX4_15 rfl rfl rfl rfl (by decide) (kx hB rfl) hE (by decide) (fun R9 hE9 => ?_)
  clear hE; have hE : RI B (eX.drop 9) R9 := hE9; clear hE9
  refine WN_aload_n dX4_init_19 rfl ?_
  refine WN_iconst (-1) dX4_init_20 rfl ?_
  refine WN_puti dX4_init_21 fX4_18 rfl rfl (gk_is 4 (by decide) (kx hB rfl)) ?_
  exact WN_vret dX4_init_24 rfl rfl (fun hZ => ⟨rfl, rfl, hE, hZ⟩)
set_option maxHeartbeats 4000000 in
set_option maxRecDepth 100000 in
theorem n_X4_66 {B : GB} {I : pI} {J : pJ} {R : pR} (hB : KB B kTX nTX) (hE : RI B (eX.drop 8) R) : SN B mX4_init 67 (69, 2, 32) [.ref (b_b B + 66)] I J R (fun I' J' R' => I' = (pp I (b_b B + 66) 0 (-1)) ∧ J' = J ∧ RI B (eX.drop 6) R' ∧ Zk B 69 I' J' R') := by
  refine SN_of ⟨by decide, rfl, rfl⟩ (Nat.le_of_ble_eq_true rfl) ?_
  refine WN_aload_n dX4_init_0 rfl ?_
  refine WN_obji dX4_init_1 lX4_3 (by decide) ?_
  refine WN_aload_n dX4_init_4 rfl ?_
  refine WN_iconst (4) dX4_init_5 rfl ?_
  refine WN_newaQ (N := 4) (k2 := 68) (c2 := 1) (s2 := 4) 66 ⟨rfl, rfl, rfl, rfl⟩ dX4_init_6 nw_int (kx hB rfl) (nx hB rfl) (by decide) (by decide) (by decide) ?_
  refine WN_putr (E := (eX.drop 8)) (c := 66) (t := 67) dX4_init_8 fX4_9 rfl rfl rfl rfl (by decide) (kx hB rfl) hE (by decide) (fun R9 hE9 => ?_)
  clear hE; have hE : RI B (eX.drop 7) R9 := hE9; clear hE9
  refine WN_aload_n dX4_init_11 rfl ?_
  refine WN_bipush (28) dX4_init_12 rfl ?_
  refine WN_newaQ (N := 28) (k2 := 69) (c2 := 2) (s2 := 32) 67 ⟨rfl, rfl, rfl, rfl⟩ dX4_init_14 nw_int (kx hB rfl) (nx hB rfl) (by decide) (by decide) (by decide) ?_
  refine WN_putr (E := (eX.drop 7)) (c := 66) (t := 68) dX4_init_16 fX4_15 rfl rfl rfl rfl (by decide) (kx hB rfl) hE (by decide) (fun R9 hE9 => ?_)
  clear hE; have hE : RI B (eX.drop 6) R9 := hE9; clear hE9
  refine WN_aload_n dX4_init_19 rfl ?_
  refine WN_iconst (-1) dX4_init_20 rfl ?_
  refine WN_puti dX4_init_21 fX4_18 rfl rfl (gk_is 4 (by decide) (kx hB rfl)) ?_
  exact WN_vret dX4_init_24 rfl rfl (fun hZ => ⟨rfl, rfl, hE, hZ⟩)
set_option maxHeartbeats 4000000 in
set_option maxRecDepth 100000 in
theorem n_X8_69 {B : GB} {I : pI} {J : pJ} {R : pR} (hB : KB B kTX nTX) (hE : RI B (eX.drop 5) R) : SN B mX8_init 70 (71, 1, 100) [.ref (b_b B + 69)] I J R (fun I' J' R' => I' = (pp I (b_b B + 69) 2 (0)) ∧ J' = J ∧ RI B (eX.drop 4) R' ∧ Zk B 71 I' J' R') := by
  refine SN_of ⟨by decide, rfl, rfl⟩ (Nat.le_of_ble_eq_true rfl) ?_
  refine WN_aload_n dX8_init_0 rfl ?_
  refine WN_obji dX8_init_1 lX8_3 (by decide) ?_
  refine WN_aload_n dX8_init_4 rfl ?_
  refine WN_bipush (100) dX8_init_5 rfl ?_
  refine WN_newaQ (N := 100) (k2 := 71) (c2 := 1) (s2 := 100) 69 ⟨rfl, rfl, rfl, rfl⟩ dX8_init_7 nw_int (kx hB rfl) (nx hB rfl) (by decide) (by decide) (by decide) ?_
  refine WN_putr (E := (eX.drop 5)) (c := 69) (t := 70) dX8_init_9 fX8_9 rfl rfl rfl rfl (by decide) (kx hB rfl) hE (by decide) (fun R9 hE9 => ?_)
  clear hE; have hE : RI B (eX.drop 4) R9 := hE9; clear hE9
  refine WN_aload_n dX8_init_12 rfl ?_
  refine WN_iconst (0) dX8_init_13 rfl ?_
  refine WN_puti dX8_init_14 fX8_15 rfl rfl (gk_is 8 (by decide) (kx hB rfl)) ?_
  exact WN_vret dX8_init_17 rfl rfl (fun hZ => ⟨rfl, rfl, hE, hZ⟩)
set_option maxHeartbeats 4000000 in
set_option maxRecDepth 100000 in
theorem n_X1_71 {B : GB} {I : pI} {J : pJ} {R : pR} (hB : KB B kTX nTX) (hE : RI B (eX.drop 3) R) : SN B mX1_init 72 (74, 2, 16) [.ref (b_b B + 71)] I J R (fun I' J' R' => I' = (pp I (b_b B + 71) 4 (0)) ∧ J' = J ∧ RI B (eX.drop 1) R' ∧ Zk B 74 I' J' R') := by
  refine SN_of ⟨by decide, rfl, rfl⟩ (Nat.le_of_ble_eq_true rfl) ?_
  refine WN_aload_n dX1_init_0 rfl ?_
  refine WN_obji dX1_init_1 lX1_3 (by decide) ?_
  refine WN_aload_n dX1_init_4 rfl ?_
  refine WN_bipush (8) dX1_init_5 rfl ?_
  refine WN_newaQ (N := 8) (k2 := 73) (c2 := 1) (s2 := 8) 71 ⟨rfl, rfl, rfl, rfl⟩ dX1_init_7 nw_int (kx hB rfl) (nx hB rfl) (by decide) (by decide) (by decide) ?_
  refine WN_putr (E := (eX.drop 3)) (c := 71) (t := 72) dX1_init_9 fX1_9 rfl rfl rfl rfl (by decide) (kx hB rfl) hE (by decide) (fun R9 hE9 => ?_)
  clear hE; have hE : RI B (eX.drop 2) R9 := hE9; clear hE9
  refine WN_aload_n dX1_init_12 rfl ?_
  refine WN_bipush (8) dX1_init_13 rfl ?_
  refine WN_newaQ (N := 8) (k2 := 74) (c2 := 2) (s2 := 16) 72 ⟨rfl, rfl, rfl, rfl⟩ dX1_init_15 nw_int (kx hB rfl) (nx hB rfl) (by decide) (by decide) (by decide) ?_
  refine WN_putr (E := (eX.drop 2)) (c := 71) (t := 73) dX1_init_17 fX1_15 rfl rfl rfl rfl (by decide) (kx hB rfl) hE (by decide) (fun R9 hE9 => ?_)
  clear hE; have hE : RI B (eX.drop 1) R9 := hE9; clear hE9
  refine WN_aload_n dX1_init_20 rfl ?_
  refine WN_iconst (0) dX1_init_21 rfl ?_
  refine WN_puti dX1_init_22 fX1_18 rfl rfl (gk_is 1 (by decide) (kx hB rfl)) ?_
  exact WN_vret dX1_init_25 rfl rfl (fun hZ => ⟨rfl, rfl, hE, hZ⟩)
