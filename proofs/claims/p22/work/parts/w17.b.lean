set_option maxHeartbeats 4000000 in
set_option maxRecDepth 100000 in
theorem n_X7_6b {B : GB} {I : pI} {J : pJ} {R : pR} (hB : KB B kTX nTX) (hE : RI B (eX.drop 72) R) : SN B mX7_init 7 (22, 15, 238) [.ref (b_b B + 6)] I J R (fun I' J' R' => ((∀ a, a < b_b B + 6 ∨ b_b B + 22 ≤ a → I' a = I a) ∧ I' (b_b B + 6) 0 = 0 ∧ I' (b_b B + 6) 1 = 0 ∧ I' (b_b B + 6) 2 = 0 ∧ I' (b_b B + 6) 3 = (-1) ∧ I' (b_b B + 6) 4 = (-1) ∧ (∀ q, I' (b_b B + 7) q = 0) ∧ (BX B I → BX B I')) ∧ J' = J ∧ RI B (eX.drop 57) R' ∧ Zk B 22 I' J' R') := by
  refine SN_of ⟨by decide, rfl, rfl⟩ (Nat.le_of_ble_eq_true rfl) ?_
  refine WN_zk (fun hZ0 => ?_)
  have h0 : ∀ q, I (b_b B + 7) q = 0 := (hZ0 (b_b B + 7) (by omega)).1
  refine WN_aload_n dX7_init_0 rfl ?_
  refine WN_obji dX7_init_1 lX7_3 (by decide) ?_
  refine WN_aload_n dX7_init_4 rfl ?_
  refine WN_bipush (7) dX7_init_5 rfl ?_
  refine WN_newaQ (N := 7) (k2 := 8) (c2 := 1) (s2 := 7) 6 ⟨rfl, rfl, rfl, rfl⟩ dX7_init_7 nw_int (kx hB rfl) (nx hB rfl) (by decide) (by decide) (by decide) ?_
  refine WN_putr (E := (eX.drop 72)) (c := 6) (t := 7) dX7_init_9 fX7_9 rfl rfl rfl rfl (by decide) (kx hB rfl) hE (by decide) (fun R9 hE9 => ?_)
  clear hE; have hE : RI B (eX.drop 71) R9 := hE9; clear hE9
  refine WN_aload_n dX7_init_12 rfl ?_
  refine WN_iconst (4) dX7_init_13 rfl ?_
  refine WN_newaQ (N := 4) (k2 := 9) (c2 := 2) (s2 := 11) 7 ⟨rfl, rfl, rfl, rfl⟩ dX7_init_14 nw_int (kx hB rfl) (nx hB rfl) (by decide) (by decide) (by decide) ?_
  refine WN_putr (E := (eX.drop 71)) (c := 6) (t := 8) dX7_init_16 fX7_15 rfl rfl rfl rfl (by decide) (kx hB rfl) hE (by decide) (fun R9 hE9 => ?_)
  clear hE; have hE : RI B (eX.drop 70) R9 := hE9; clear hE9
  refine WN_aload_n dX7_init_19 rfl ?_
  refine WN_iconst (4) dX7_init_20 rfl ?_
  refine WN_newaQ (N := 4) (k2 := 10) (c2 := 3) (s2 := 15) 8 ⟨rfl, rfl, rfl, rfl⟩ dX7_init_21 nw_int (kx hB rfl) (nx hB rfl) (by decide) (by decide) (by decide) ?_
  refine WN_putr (E := (eX.drop 70)) (c := 6) (t := 9) dX7_init_23 fX7_18 rfl rfl rfl rfl (by decide) (kx hB rfl) hE (by decide) (fun R9 hE9 => ?_)
  clear hE; have hE : RI B (eX.drop 69) R9 := hE9; clear hE9
  refine WN_aload_n dX7_init_26 rfl ?_
  refine WN_iconst (4) dX7_init_27 rfl ?_
  refine WN_newaQ (N := 4) (k2 := 11) (c2 := 4) (s2 := 19) 9 ⟨rfl, rfl, rfl, rfl⟩ dX7_init_28 nw_int (kx hB rfl) (nx hB rfl) (by decide) (by decide) (by decide) ?_
  refine WN_putr (E := (eX.drop 69)) (c := 6) (t := 10) dX7_init_30 fX7_21 rfl rfl rfl rfl (by decide) (kx hB rfl) hE (by decide) (fun R9 hE9 => ?_)
  clear hE; have hE : RI B (eX.drop 68) R9 := hE9; clear hE9
  refine WN_aload_n dX7_init_33 rfl ?_
  refine WN_iconst (4) dX7_init_34 rfl ?_
  refine WN_newaQ (N := 4) (k2 := 12) (c2 := 5) (s2 := 23) 10 ⟨rfl, rfl, rfl, rfl⟩ dX7_init_35 nw_int (kx hB rfl) (nx hB rfl) (by decide) (by decide) (by decide) ?_
  refine WN_putr (E := (eX.drop 68)) (c := 6) (t := 11) dX7_init_37 fX7_24 rfl rfl rfl rfl (by decide) (kx hB rfl) hE (by decide) (fun R9 hE9 => ?_)
  clear hE; have hE : RI B (eX.drop 67) R9 := hE9; clear hE9
  refine WN_aload_n dX7_init_40 rfl ?_
  refine WN_bipush (28) dX7_init_41 rfl ?_
  refine WN_newaQ (N := 28) (k2 := 13) (c2 := 6) (s2 := 51) 11 ⟨rfl, rfl, rfl, rfl⟩ dX7_init_43 nw_int (kx hB rfl) (nx hB rfl) (by decide) (by decide) (by decide) ?_
  refine WN_putr (E := (eX.drop 67)) (c := 6) (t := 12) dX7_init_45 fX7_27 rfl rfl rfl rfl (by decide) (kx hB rfl) hE (by decide) (fun R9 hE9 => ?_)
  clear hE; have hE : RI B (eX.drop 66) R9 := hE9; clear hE9
  refine WN_aload_n dX7_init_48 rfl ?_
  refine WN_bipush (28) dX7_init_49 rfl ?_
  refine WN_newaQ (N := 28) (k2 := 14) (c2 := 7) (s2 := 79) 12 ⟨rfl, rfl, rfl, rfl⟩ dX7_init_51 nw_int (kx hB rfl) (nx hB rfl) (by decide) (by decide) (by decide) ?_
  refine WN_putr (E := (eX.drop 66)) (c := 6) (t := 13) dX7_init_53 fX7_30 rfl rfl rfl rfl (by decide) (kx hB rfl) hE (by decide) (fun R9 hE9 => ?_)
  clear hE; have hE : RI B (eX.drop 65) R9 := hE9; clear hE9
  refine WN_aload_n dX7_init_56 rfl ?_
  refine WN_bipush (28) dX7_init_57 rfl ?_
  refine WN_newaQ (N := 28) (k2 := 15) (c2 := 8) (s2 := 107) 13 ⟨rfl, rfl, rfl, rfl⟩ dX7_init_59 nw_int (kx hB rfl) (nx hB rfl) (by decide) (by decide) (by decide) ?_
  refine WN_putr (E := (eX.drop 65)) (c := 6) (t := 14) dX7_init_61 fX7_33 rfl rfl rfl rfl (by decide) (kx hB rfl) hE (by decide) (fun R9 hE9 => ?_)
  clear hE; have hE : RI B (eX.drop 64) R9 := hE9; clear hE9
  refine WN_aload_n dX7_init_64 rfl ?_
  refine WN_bipush (28) dX7_init_65 rfl ?_
  refine WN_newaQ (N := 28) (k2 := 16) (c2 := 9) (s2 := 135) 14 ⟨rfl, rfl, rfl, rfl⟩ dX7_init_67 nw_int (kx hB rfl) (nx hB rfl) (by decide) (by decide) (by decide) ?_
  refine WN_putr (E := (eX.drop 64)) (c := 6) (t := 15) dX7_init_69 fX7_36 rfl rfl rfl rfl (by decide) (kx hB rfl) hE (by decide) (fun R9 hE9 => ?_)
  clear hE; have hE : RI B (eX.drop 63) R9 := hE9; clear hE9
  refine WN_aload_n dX7_init_72 rfl ?_
  refine WN_iconst (3) dX7_init_73 rfl ?_
  refine WN_newaQ (N := 3) (k2 := 17) (c2 := 10) (s2 := 138) 15 ⟨rfl, rfl, rfl, rfl⟩ dX7_init_74 nw_int (kx hB rfl) (nx hB rfl) (by decide) (by decide) (by decide) ?_
  refine WN_putr (E := (eX.drop 63)) (c := 6) (t := 16) dX7_init_76 fX7_39 rfl rfl rfl rfl (by decide) (kx hB rfl) hE (by decide) (fun R9 hE9 => ?_)
  clear hE; have hE : RI B (eX.drop 62) R9 := hE9; clear hE9
  refine WN_aload_n dX7_init_79 rfl ?_
  refine WN_iconst (3) dX7_init_80 rfl ?_
  refine WN_newaQ (N := 3) (k2 := 18) (c2 := 11) (s2 := 141) 16 ⟨rfl, rfl, rfl, rfl⟩ dX7_init_81 nw_int (kx hB rfl) (nx hB rfl) (by decide) (by decide) (by decide) ?_
  refine WN_putr (E := (eX.drop 62)) (c := 6) (t := 17) dX7_init_83 fX7_42 rfl rfl rfl rfl (by decide) (kx hB rfl) hE (by decide) (fun R9 hE9 => ?_)
  clear hE; have hE : RI B (eX.drop 61) R9 := hE9; clear hE9
  refine WN_aload_n dX7_init_86 rfl ?_
  refine WN_bipush (21) dX7_init_87 rfl ?_
  refine WN_newaQ (N := 21) (k2 := 19) (c2 := 12) (s2 := 162) 17 ⟨rfl, rfl, rfl, rfl⟩ dX7_init_89 nw_int (kx hB rfl) (nx hB rfl) (by decide) (by decide) (by decide) ?_
  refine WN_putr (E := (eX.drop 61)) (c := 6) (t := 18) dX7_init_91 fX7_45 rfl rfl rfl rfl (by decide) (kx hB rfl) hE (by decide) (fun R9 hE9 => ?_)
  clear hE; have hE : RI B (eX.drop 60) R9 := hE9; clear hE9
  refine WN_aload_n dX7_init_94 rfl ?_
  refine WN_bipush (21) dX7_init_95 rfl ?_
  refine WN_newaQ (N := 21) (k2 := 20) (c2 := 13) (s2 := 183) 18 ⟨rfl, rfl, rfl, rfl⟩ dX7_init_97 nw_int (kx hB rfl) (nx hB rfl) (by decide) (by decide) (by decide) ?_
  refine WN_putr (E := (eX.drop 60)) (c := 6) (t := 19) dX7_init_99 fX7_48 rfl rfl rfl rfl (by decide) (kx hB rfl) hE (by decide) (fun R9 hE9 => ?_)
  clear hE; have hE : RI B (eX.drop 59) R9 := hE9; clear hE9
  refine WN_aload_n dX7_init_102 rfl ?_
  refine WN_bipush (7) dX7_init_103 rfl ?_
  refine WN_newaQ (N := 7) (k2 := 21) (c2 := 14) (s2 := 190) 19 ⟨rfl, rfl, rfl, rfl⟩ dX7_init_105 nw_long (kx hB rfl) (nx hB rfl) (by decide) (by decide) (by decide) ?_
  refine WN_putr (E := (eX.drop 59)) (c := 6) (t := 20) dX7_init_107 fX7_51 rfl rfl rfl rfl (by decide) (kx hB rfl) hE (by decide) (fun R9 hE9 => ?_)
  clear hE; have hE : RI B (eX.drop 58) R9 := hE9; clear hE9
  refine WN_aload_n dX7_init_110 rfl ?_
  refine WN_bipush (48) dX7_init_111 rfl ?_
  refine WN_newaQ (N := 48) (k2 := 22) (c2 := 15) (s2 := 238) 20 ⟨rfl, rfl, rfl, rfl⟩ dX7_init_113 nw_int (kx hB rfl) (nx hB rfl) (by decide) (by decide) (by decide) ?_
  refine WN_putr (E := (eX.drop 58)) (c := 6) (t := 21) dX7_init_115 fX7_55 rfl rfl rfl rfl (by decide) (kx hB rfl) hE (by decide) (fun R9 hE9 => ?_)
  clear hE; have hE : RI B (eX.drop 57) R9 := hE9; clear hE9
  refine WN_aload_n dX7_init_118 rfl ?_
  refine WN_callret (k := 7) dX7_init_119 dX7_init_122 rfl ⟨⟨⟨by decide, by decide⟩, zX7_forget⟩, lX7_58, by decide, rfl, vX7_forget.1, vX7_forget.2⟩ (gk_is 7 (by decide) (kx hB rfl)) (n_forget_6 hB hE) rfl (fun hZ r I9 J9 R9 hq => ?_)
  obtain ⟨rfl, rfl, rfl, rfl⟩ := hq
  have hfr : ∀ a, a < b_b B + 6 ∨ b_b B + 22 ≤ a → (fi (fi (fi (fi (fi (fi (fi (fi (fi (pp (pp (pp (pp (pp I (b_b B + 6) 0 (0)) (b_b B + 6) 1 (0)) (b_b B + 6) 2 (0)) (b_b B + 6) 3 (-1)) (b_b B + 6) 4 (-1)) (b_b B + 7) 7 (0)) (b_b B + 11) 4 (0)) (b_b B + 12) 28 (0)) (b_b B + 13) 28 (-1)) (b_b B + 14) 28 (0)) (b_b B + 15) 28 (0)) (b_b B + 18) 21 (5)) (b_b B + 19) 21 (-1)) (b_b B + 21) 48 (0)) a = I a := fun a ha => by
    rw [fi_off (by omega), fi_off (by omega), fi_off (by omega), fi_off (by omega), fi_off (by omega), fi_off (by omega), fi_off (by omega), fi_off (by omega), fi_off (by omega), pp_off _ _ (by omega), pp_off _ _ (by omega), pp_off _ _ (by omega), pp_off _ _ (by omega), pp_off _ _ (by omega)]
  refine ⟨rfl, ⟨hfr, ?_, ?_, ?_, ?_, ?_, fun q => ?_, fun hb => ?_⟩, rfl, hE, fun a ha => ?_⟩
  · rw [fi_off (by omega), fi_off (by omega), fi_off (by omega), fi_off (by omega), fi_off (by omega), fi_off (by omega), fi_off (by omega), fi_off (by omega), fi_off (by omega)]; simp [pp]
  · rw [fi_off (by omega), fi_off (by omega), fi_off (by omega), fi_off (by omega), fi_off (by omega), fi_off (by omega), fi_off (by omega), fi_off (by omega), fi_off (by omega)]; simp [pp]
  · rw [fi_off (by omega), fi_off (by omega), fi_off (by omega), fi_off (by omega), fi_off (by omega), fi_off (by omega), fi_off (by omega), fi_off (by omega), fi_off (by omega)]; simp [pp]
  · rw [fi_off (by omega), fi_off (by omega), fi_off (by omega), fi_off (by omega), fi_off (by omega), fi_off (by omega), fi_off (by omega), fi_off (by omega), fi_off (by omega)]; simp [pp]
  · rw [fi_off (by omega), fi_off (by omega), fi_off (by omega), fi_off (by omega), fi_off (by omega), fi_off (by omega), fi_off (by omega), fi_off (by omega), fi_off (by omega)]; simp [pp]
  · rw [fi_off (by omega), fi_off (by omega), fi_off (by omega), fi_off (by omega), fi_off (by omega), fi_off (by omega), fi_off (by omega), fi_off (by omega)]
    unfold fi
    split
    · rfl
    · repeat rw [pp_off _ _ (by omega)]
      exact h0 q
  · exact (bx_fi (bx_fi (bx_fi (bx_fi (bx_fi (bx_fi (bx_fi (bx_fi (bx_fi (bx_pp (bx_pp (bx_pp (bx_pp (bx_pp hb (by decide) (by decide)) (by decide) (by decide)) (by decide) (by decide)) (by decide) (by decide)) (by decide) (by decide)) (by decide) (by decide)) (by decide) (by decide)) (by decide) (by decide)) (by decide) (by decide)) (by decide) (by decide)) (by decide) (by decide)) (by decide) (by decide)) (by decide) (by decide)) (by decide) (by decide))
  · obtain ⟨h1, h2, h3⟩ := hZ a ha
    refine ⟨fun q => ?_, h2, h3⟩
    rw [hfr a (Or.inr ha)]
    exact h1 q
set_option maxHeartbeats 4000000 in
set_option maxRecDepth 100000 in
theorem n_X7_27b {B : GB} {I : pI} {J : pJ} {R : pR} (hB : KB B kTX nTX) (hE : RI B (eX.drop 50) R) : SN B mX7_init 28 (43, 15, 238) [.ref (b_b B + 27)] I J R (fun I' J' R' => ((∀ a, a < b_b B + 27 ∨ b_b B + 43 ≤ a → I' a = I a) ∧ I' (b_b B + 27) 0 = 0 ∧ I' (b_b B + 27) 1 = 0 ∧ I' (b_b B + 27) 2 = 0 ∧ I' (b_b B + 27) 3 = (-1) ∧ I' (b_b B + 27) 4 = (-1) ∧ (∀ q, I' (b_b B + 28) q = 0) ∧ (BX B I → BX B I')) ∧ J' = J ∧ RI B (eX.drop 35) R' ∧ Zk B 43 I' J' R') := by
  refine SN_of ⟨by decide, rfl, rfl⟩ (Nat.le_of_ble_eq_true rfl) ?_
  refine WN_zk (fun hZ0 => ?_)
  have h0 : ∀ q, I (b_b B + 28) q = 0 := (hZ0 (b_b B + 28) (by omega)).1
  refine WN_aload_n dX7_init_0 rfl ?_
  refine WN_obji dX7_init_1 lX7_3 (by decide) ?_
  refine WN_aload_n dX7_init_4 rfl ?_
  refine WN_bipush (7) dX7_init_5 rfl ?_
  refine WN_newaQ (N := 7) (k2 := 29) (c2 := 1) (s2 := 7) 27 ⟨rfl, rfl, rfl, rfl⟩ dX7_init_7 nw_int (kx hB rfl) (nx hB rfl) (by decide) (by decide) (by decide) ?_
  refine WN_putr (E := (eX.drop 50)) (c := 27) (t := 28) dX7_init_9 fX7_9 rfl rfl rfl rfl (by decide) (kx hB rfl) hE (by decide) (fun R9 hE9 => ?_)
  clear hE; have hE : RI B (eX.drop 49) R9 := hE9; clear hE9
  refine WN_aload_n dX7_init_12 rfl ?_
  refine WN_iconst (4) dX7_init_13 rfl ?_
  refine WN_newaQ (N := 4) (k2 := 30) (c2 := 2) (s2 := 11) 28 ⟨rfl, rfl, rfl, rfl⟩ dX7_init_14 nw_int (kx hB rfl) (nx hB rfl) (by decide) (by decide) (by decide) ?_
  refine WN_putr (E := (eX.drop 49)) (c := 27) (t := 29) dX7_init_16 fX7_15 rfl rfl rfl rfl (by decide) (kx hB rfl) hE (by decide) (fun R9 hE9 => ?_)
  clear hE; have hE : RI B (eX.drop 48) R9 := hE9; clear hE9
  refine WN_aload_n dX7_init_19 rfl ?_
  refine WN_iconst (4) dX7_init_20 rfl ?_
  refine WN_newaQ (N := 4) (k2 := 31) (c2 := 3) (s2 := 15) 29 ⟨rfl, rfl, rfl, rfl⟩ dX7_init_21 nw_int (kx hB rfl) (nx hB rfl) (by decide) (by decide) (by decide) ?_
  refine WN_putr (E := (eX.drop 48)) (c := 27) (t := 30) dX7_init_23 fX7_18 rfl rfl rfl rfl (by decide) (kx hB rfl) hE (by decide) (fun R9 hE9 => ?_)
  clear hE; have hE : RI B (eX.drop 47) R9 := hE9; clear hE9
  refine WN_aload_n dX7_init_26 rfl ?_
  refine WN_iconst (4) dX7_init_27 rfl ?_
  refine WN_newaQ (N := 4) (k2 := 32) (c2 := 4) (s2 := 19) 30 ⟨rfl, rfl, rfl, rfl⟩ dX7_init_28 nw_int (kx hB rfl) (nx hB rfl) (by decide) (by decide) (by decide) ?_
  refine WN_putr (E := (eX.drop 47)) (c := 27) (t := 31) dX7_init_30 fX7_21 rfl rfl rfl rfl (by decide) (kx hB rfl) hE (by decide) (fun R9 hE9 => ?_)
  clear hE; have hE : RI B (eX.drop 46) R9 := hE9; clear hE9
  refine WN_aload_n dX7_init_33 rfl ?_
  refine WN_iconst (4) dX7_init_34 rfl ?_
  refine WN_newaQ (N := 4) (k2 := 33) (c2 := 5) (s2 := 23) 31 ⟨rfl, rfl, rfl, rfl⟩ dX7_init_35 nw_int (kx hB rfl) (nx hB rfl) (by decide) (by decide) (by decide) ?_
  refine WN_putr (E := (eX.drop 46)) (c := 27) (t := 32) dX7_init_37 fX7_24 rfl rfl rfl rfl (by decide) (kx hB rfl) hE (by decide) (fun R9 hE9 => ?_)
  clear hE; have hE : RI B (eX.drop 45) R9 := hE9; clear hE9
  refine WN_aload_n dX7_init_40 rfl ?_
  refine WN_bipush (28) dX7_init_41 rfl ?_
  refine WN_newaQ (N := 28) (k2 := 34) (c2 := 6) (s2 := 51) 32 ⟨rfl, rfl, rfl, rfl⟩ dX7_init_43 nw_int (kx hB rfl) (nx hB rfl) (by decide) (by decide) (by decide) ?_
  refine WN_putr (E := (eX.drop 45)) (c := 27) (t := 33) dX7_init_45 fX7_27 rfl rfl rfl rfl (by decide) (kx hB rfl) hE (by decide) (fun R9 hE9 => ?_)
  clear hE; have hE : RI B (eX.drop 44) R9 := hE9; clear hE9
  refine WN_aload_n dX7_init_48 rfl ?_
  refine WN_bipush (28) dX7_init_49 rfl ?_
  refine WN_newaQ (N := 28) (k2 := 35) (c2 := 7) (s2 := 79) 33 ⟨rfl, rfl, rfl, rfl⟩ dX7_init_51 nw_int (kx hB rfl) (nx hB rfl) (by decide) (by decide) (by decide) ?_
  refine WN_putr (E := (eX.drop 44)) (c := 27) (t := 34) dX7_init_53 fX7_30 rfl rfl rfl rfl (by decide) (kx hB rfl) hE (by decide) (fun R9 hE9 => ?_)
  clear hE; have hE : RI B (eX.drop 43) R9 := hE9; clear hE9
  refine WN_aload_n dX7_init_56 rfl ?_
  refine WN_bipush (28) dX7_init_57 rfl ?_
  refine WN_newaQ (N := 28) (k2 := 36) (c2 := 8) (s2 := 107) 34 ⟨rfl, rfl, rfl, rfl⟩ dX7_init_59 nw_int (kx hB rfl) (nx hB rfl) (by decide) (by decide) (by decide) ?_
  refine WN_putr (E := (eX.drop 43)) (c := 27) (t := 35) dX7_init_61 fX7_33 rfl rfl rfl rfl (by decide) (kx hB rfl) hE (by decide) (fun R9 hE9 => ?_)
  clear hE; have hE : RI B (eX.drop 42) R9 := hE9; clear hE9
  refine WN_aload_n dX7_init_64 rfl ?_
  refine WN_bipush (28) dX7_init_65 rfl ?_
  refine WN_newaQ (N := 28) (k2 := 37) (c2 := 9) (s2 := 135) 35 ⟨rfl, rfl, rfl, rfl⟩ dX7_init_67 nw_int (kx hB rfl) (nx hB rfl) (by decide) (by decide) (by decide) ?_
  refine WN_putr (E := (eX.drop 42)) (c := 27) (t := 36) dX7_init_69 fX7_36 rfl rfl rfl rfl (by decide) (kx hB rfl) hE (by decide) (fun R9 hE9 => ?_)
  clear hE; have hE : RI B (eX.drop 41) R9 := hE9; clear hE9
  refine WN_aload_n dX7_init_72 rfl ?_
  refine WN_iconst (3) dX7_init_73 rfl ?_
  refine WN_newaQ (N := 3) (k2 := 38) (c2 := 10) (s2 := 138) 36 ⟨rfl, rfl, rfl, rfl⟩ dX7_init_74 nw_int (kx hB rfl) (nx hB rfl) (by decide) (by decide) (by decide) ?_
  refine WN_putr (E := (eX.drop 41)) (c := 27) (t := 37) dX7_init_76 fX7_39 rfl rfl rfl rfl (by decide) (kx hB rfl) hE (by decide) (fun R9 hE9 => ?_)
  clear hE; have hE : RI B (eX.drop 40) R9 := hE9; clear hE9
  refine WN_aload_n dX7_init_79 rfl ?_
  refine WN_iconst (3) dX7_init_80 rfl ?_
  refine WN_newaQ (N := 3) (k2 := 39) (c2 := 11) (s2 := 141) 37 ⟨rfl, rfl, rfl, rfl⟩ dX7_init_81 nw_int (kx hB rfl) (nx hB rfl) (by decide) (by decide) (by decide) ?_
  refine WN_putr (E := (eX.drop 40)) (c := 27) (t := 38) dX7_init_83 fX7_42 rfl rfl rfl rfl (by decide) (kx hB rfl) hE (by decide) (fun R9 hE9 => ?_)
  clear hE; have hE : RI B (eX.drop 39) R9 := hE9; clear hE9
  refine WN_aload_n dX7_init_86 rfl ?_
  refine WN_bipush (21) dX7_init_87 rfl ?_
  refine WN_newaQ (N := 21) (k2 := 40) (c2 := 12) (s2 := 162) 38 ⟨rfl, rfl, rfl, rfl⟩ dX7_init_89 nw_int (kx hB rfl) (nx hB rfl) (by decide) (by decide) (by decide) ?_
  refine WN_putr (E := (eX.drop 39)) (c := 27) (t := 39) dX7_init_91 fX7_45 rfl rfl rfl rfl (by decide) (kx hB rfl) hE (by decide) (fun R9 hE9 => ?_)
  clear hE; have hE : RI B (eX.drop 38) R9 := hE9; clear hE9
  refine WN_aload_n dX7_init_94 rfl ?_
  refine WN_bipush (21) dX7_init_95 rfl ?_
  refine WN_newaQ (N := 21) (k2 := 41) (c2 := 13) (s2 := 183) 39 ⟨rfl, rfl, rfl, rfl⟩ dX7_init_97 nw_int (kx hB rfl) (nx hB rfl) (by decide) (by decide) (by decide) ?_
  refine WN_putr (E := (eX.drop 38)) (c := 27) (t := 40) dX7_init_99 fX7_48 rfl rfl rfl rfl (by decide) (kx hB rfl) hE (by decide) (fun R9 hE9 => ?_)
  clear hE; have hE : RI B (eX.drop 37) R9 := hE9; clear hE9
  refine WN_aload_n dX7_init_102 rfl ?_
  refine WN_bipush (7) dX7_init_103 rfl ?_
  refine WN_newaQ (N := 7) (k2 := 42) (c2 := 14) (s2 := 190) 40 ⟨rfl, rfl, rfl, rfl⟩ dX7_init_105 nw_long (kx hB rfl) (nx hB rfl) (by decide) (by decide) (by decide) ?_
  refine WN_putr (E := (eX.drop 37)) (c := 27) (t := 41) dX7_init_107 fX7_51 rfl rfl rfl rfl (by decide) (kx hB rfl) hE (by decide) (fun R9 hE9 => ?_)
  clear hE; have hE : RI B (eX.drop 36) R9 := hE9; clear hE9
  refine WN_aload_n dX7_init_110 rfl ?_
  refine WN_bipush (48) dX7_init_111 rfl ?_
  refine WN_newaQ (N := 48) (k2 := 43) (c2 := 15) (s2 := 238) 41 ⟨rfl, rfl, rfl, rfl⟩ dX7_init_113 nw_int (kx hB rfl) (nx hB rfl) (by decide) (by decide) (by decide) ?_
  refine WN_putr (E := (eX.drop 36)) (c := 27) (t := 42) dX7_init_115 fX7_55 rfl rfl rfl rfl (by decide) (kx hB rfl) hE (by decide) (fun R9 hE9 => ?_)
  clear hE; have hE : RI B (eX.drop 35) R9 := hE9; clear hE9
  refine WN_aload_n dX7_init_118 rfl ?_
  refine WN_callret (k := 7) dX7_init_119 dX7_init_122 rfl ⟨⟨⟨by decide, by decide⟩, zX7_forget⟩, lX7_58, by decide, rfl, vX7_forget.1, vX7_forget.2⟩ (gk_is 7 (by decide) (kx hB rfl)) (n_forget_27 hB hE) rfl (fun hZ r I9 J9 R9 hq => ?_)
  obtain ⟨rfl, rfl, rfl, rfl⟩ := hq
  have hfr : ∀ a, a < b_b B + 27 ∨ b_b B + 43 ≤ a → (fi (fi (fi (fi (fi (fi (fi (fi (fi (pp (pp (pp (pp (pp I (b_b B + 27) 0 (0)) (b_b B + 27) 1 (0)) (b_b B + 27) 2 (0)) (b_b B + 27) 3 (-1)) (b_b B + 27) 4 (-1)) (b_b B + 28) 7 (0)) (b_b B + 32) 4 (0)) (b_b B + 33) 28 (0)) (b_b B + 34) 28 (-1)) (b_b B + 35) 28 (0)) (b_b B + 36) 28 (0)) (b_b B + 39) 21 (5)) (b_b B + 40) 21 (-1)) (b_b B + 42) 48 (0)) a = I a := fun a ha => by
    rw [fi_off (by omega), fi_off (by omega), fi_off (by omega), fi_off (by omega), fi_off (by omega), fi_off (by omega), fi_off (by omega), fi_off (by omega), fi_off (by omega), pp_off _ _ (by omega), pp_off _ _ (by omega), pp_off _ _ (by omega), pp_off _ _ (by omega), pp_off _ _ (by omega)]
  refine ⟨rfl, ⟨hfr, ?_, ?_, ?_, ?_, ?_, fun q => ?_, fun hb => ?_⟩, rfl, hE, fun a ha => ?_⟩
  · rw [fi_off (by omega), fi_off (by omega), fi_off (by omega), fi_off (by omega), fi_off (by omega), fi_off (by omega), fi_off (by omega), fi_off (by omega), fi_off (by omega)]; simp [pp]
  · rw [fi_off (by omega), fi_off (by omega), fi_off (by omega), fi_off (by omega), fi_off (by omega), fi_off (by omega), fi_off (by omega), fi_off (by omega), fi_off (by omega)]; simp [pp]
  · rw [fi_off (by omega), fi_off (by omega), fi_off (by omega), fi_off (by omega), fi_off (by omega), fi_off (by omega), fi_off (by omega), fi_off (by omega), fi_off (by omega)]; simp [pp]
  · rw [fi_off (by omega), fi_off (by omega), fi_off (by omega), fi_off (by omega), fi_off (by omega), fi_off (by omega), fi_off (by omega), fi_off (by omega), fi_off (by omega)]; simp [pp]
  · rw [fi_off (by omega), fi_off (by omega), fi_off (by omega), fi_off (by omega), fi_off (by omega), fi_off (by omega), fi_off (by omega), fi_off (by omega), fi_off (by omega)]; simp [pp]
  · rw [fi_off (by omega), fi_off (by omega), fi_off (by omega), fi_off (by omega), fi_off (by omega), fi_off (by omega), fi_off (by omega), fi_off (by omega)]
    unfold fi
    split
    · rfl
    · repeat rw [pp_off _ _ (by omega)]
      exact h0 q
  · exact (bx_fi (bx_fi (bx_fi (bx_fi (bx_fi (bx_fi (bx_fi (bx_fi (bx_fi (bx_pp (bx_pp (bx_pp (bx_pp (bx_pp hb (by decide) (by decide)) (by decide) (by decide)) (by decide) (by decide)) (by decide) (by decide)) (by decide) (by decide)) (by decide) (by decide)) (by decide) (by decide)) (by decide) (by decide)) (by decide) (by decide)) (by decide) (by decide)) (by decide) (by decide)) (by decide) (by decide)) (by decide) (by decide)) (by decide) (by decide))
  · obtain ⟨h1, h2, h3⟩ := hZ a ha
    refine ⟨fun q => ?_, h2, h3⟩
    rw [hfr a (Or.inr ha)]
    exact h1 q
set_option maxHeartbeats 8000000 in
set_option maxRecDepth 100000 in
theorem n_X10b {B : GB} (hB : KB B kTX nTX) : SN B mX10_init 1 (74, 73, 3188) [.ref (b_b B + 0)] (fun _ _ => 0) (fun _ _ => 0) (fun _ _ => none) (fun I' J' R' => RfX (gk B 74) R' ∧ TS (gk B 74) R' ∧ NL (gk B 74) R' ∧ XI (gk B 74) 0 0 I' ∧ XS0 (gk B 74) I' R') := by
  refine SN_of ⟨by decide, rfl, rfl⟩ (Nat.le_of_ble_eq_true rfl) ?_
  have hE : RI B (eX.drop 77) (fun _ _ => none) := fun e he => absurd he (by rw [show eX.drop 77 = [] from rfl]; exact List.not_mem_nil)
  have hbt : BX B (fun _ _ => 0) := bx_0
  refine WN_aload_n dX10_init_0 rfl ?_
  refine WN_obji dX10_init_1 lX10_3 (by decide) ?_
  refine WN_aload_n dX10_init_4 rfl ?_
  refine WN_new (kd := 5) (N := 7) (k2 := 2) (c2 := 1) (s2 := 7) 0 ⟨rfl, rfl, rfl, rfl, rfl⟩ dX10_init_5 ncX10_9 (kx hB rfl) (by decide) ?_
  refine WN_dup dX10_init_8 rfl ?_
  refine WN_init (y := mX5_init) (zz := (3, 1, 900)) (As := []) (rest := [.ref (b_b B + 1), .ref (b_b B + 0)]) (k2 := 3) (c2 := 2) (s2 := 907) 1 ⟨rfl, rfl, rfl, rfl, rfl⟩ dX10_init_9 ⟨⟨⟨by decide, by decide⟩, zX5_init⟩, lX10_11, rfl, iX5_init, rfl⟩ (n_X5_1 hB hE) rfl rfl (Nat.le_of_ble_eq_true rfl) (by decide) (fun _ _ _ h => h.2.2.2) (fun I1 J9 R9 hq => ?_)
  clear hE; obtain ⟨hI9, rfl, hE, -⟩ := hq
  have n_1_1 : I1 (b_b B + 1) 1 = (0) := by rw [hI9]; simp [pp]
  have hbt : BX B I1 := by rw [hI9]; exact (bx_pp hbt (by decide) (by decide))
  have n_23 : ∀ q, I1 (b_b B + 23) q = 0 := fun q => by rw [hI9, pp_off _ _ (by omega)]
  have n_2 : ∀ q, I1 (b_b B + 2) q = 0 := fun q => by rw [hI9, pp_off _ _ (by omega)]
  refine WN_putr (E := (eX.drop 76)) (c := 0) (t := 1) dX10_init_12 fX10_12 rfl rfl rfl rfl (by decide) (kx hB rfl) hE (by decide) (fun R9 hE9 => ?_)
  clear hE; have hE : RI B (eX.drop 75) R9 := hE9; clear hE9
  refine WN_aload_n dX10_init_15 rfl ?_
  refine WN_new (kd := 3) (N := 4) (k2 := 4) (c2 := 3) (s2 := 911) 2 ⟨rfl, rfl, rfl, rfl, rfl⟩ dX10_init_16 ncX10_16 (kx hB rfl) (by decide) ?_
  refine WN_dup dX10_init_19 rfl ?_
  refine WN_aload_n dX10_init_20 rfl ?_
  refine WN_getr (b := b_b B + 1) dX10_init_21 fX10_12 rfl (gk_is 10 (by decide) (kx hB rfl)) (hE (0, 0, 1) (by decide)) ?_
  refine WN_init (y := mX3_init) (zz := (5, 1, 5)) (As := [.ref (b_b B + 1)]) (rest := [.ref (b_b B + 3), .ref (b_b B + 0)]) (k2 := 5) (c2 := 4) (s2 := 916) 3 ⟨rfl, rfl, rfl, rfl, rfl⟩ dX10_init_24 ⟨⟨⟨by decide, by decide⟩, zX3_init⟩, lX10_18, rfl, iX3_init, rfl⟩ (n_X3_3 hB hE) rfl rfl (Nat.le_of_ble_eq_true rfl) (by decide) (fun _ _ _ h => h.2.2.2) (fun I2 J9 R9 hq => ?_)
  clear hE; obtain ⟨hI9, rfl, hE, -⟩ := hq
  have n_3_0 : I2 (b_b B + 3) 0 = (0) := by rw [hI9]; simp [pp]
  have n_3_1 : I2 (b_b B + 3) 1 = (-1) := by rw [hI9]; simp [pp]
  have hbt : BX B I2 := by rw [hI9]; exact (bx_pp (bx_pp hbt (by decide) (by decide)) (by decide) (by decide))
  have n_1_1 : I2 (b_b B + 1) 1 = (0) := by rw [hI9, pp_off _ _ (by omega), pp_off _ _ (by omega)]; exact n_1_1
  have n_23 : ∀ q, I2 (b_b B + 23) q = 0 := fun q => by rw [hI9, pp_off _ _ (by omega), pp_off _ _ (by omega)]; exact n_23 q
  have n_2 : ∀ q, I2 (b_b B + 2) q = 0 := fun q => by rw [hI9, pp_off _ _ (by omega), pp_off _ _ (by omega)]; exact n_2 q
  refine WN_putr (E := (eX.drop 73)) (c := 0) (t := 3) dX10_init_27 fX10_21 rfl rfl rfl rfl (by decide) (kx hB rfl) hE (by decide) (fun R9 hE9 => ?_)
  clear hE; have hE : RI B (eX.drop 72) R9 := hE9; clear hE9
  refine WN_aload_n dX10_init_30 rfl ?_
  refine WN_new (kd := 0) (N := 6) (k2 := 6) (c2 := 5) (s2 := 922) 4 ⟨rfl, rfl, rfl, rfl, rfl⟩ dX10_init_31 ncX10_25 (kx hB rfl) (by decide) ?_
  refine WN_dup dX10_init_34 rfl ?_
  refine WN_new (kd := 7) (N := 20) (k2 := 7) (c2 := 6) (s2 := 942) 5 ⟨rfl, rfl, rfl, rfl, rfl⟩ dX10_init_35 ncX10_27 (kx hB rfl) (by decide) ?_
  refine WN_dup dX10_init_38 rfl ?_
  refine WN_init (y := mX7_init) (zz := (22, 15, 238)) (As := []) (rest := [.ref (b_b B + 6), .ref (b_b B + 5), .ref (b_b B + 5), .ref (b_b B + 0)]) (k2 := 22) (c2 := 21) (s2 := 1180) 6 ⟨rfl, rfl, rfl, rfl, rfl⟩ dX10_init_39 ⟨⟨⟨by decide, by decide⟩, zX7_init⟩, lX10_29, rfl, iX7_init, rfl⟩ (n_X7_6b hB hE) rfl rfl (Nat.le_of_ble_eq_true rfl) (by decide) (fun _ _ _ h => h.2.2.2) (fun I3 J9 R9 hq => ?_)
  clear hE; obtain ⟨hI9, rfl, hE, -⟩ := hq
  obtain ⟨hfr, n_6_0, n_6_1, n_6_2, n_6_3, n_6_4, n_7, hb9⟩ := hI9
  have hbt : BX B I3 := hb9 hbt
  have n_1_1 : I3 (b_b B + 1) 1 = (0) := by rw [hfr _ (by omega)]; exact n_1_1
  have n_23 : ∀ q, I3 (b_b B + 23) q = 0 := fun q => by rw [hfr _ (by omega)]; exact n_23 q
  have n_2 : ∀ q, I3 (b_b B + 2) q = 0 := fun q => by rw [hfr _ (by omega)]; exact n_2 q
  have n_3_0 : I3 (b_b B + 3) 0 = (0) := by rw [hfr _ (by omega)]; exact n_3_0
  have n_3_1 : I3 (b_b B + 3) 1 = (-1) := by rw [hfr _ (by omega)]; exact n_3_1
  refine WN_init (y := mX0_init) (zz := (27, 5, 467)) (As := [.ref (b_b B + 6)]) (rest := [.ref (b_b B + 5), .ref (b_b B + 0)]) (k2 := 27) (c2 := 26) (s2 := 1647) 21 ⟨rfl, rfl, rfl, rfl, rfl⟩ dX10_init_42 ⟨⟨⟨by decide, by decide⟩, zX0_init⟩, lX10_30, rfl, iX0_init, rfl⟩ (n_X0_5 hB hE) rfl rfl (Nat.le_of_ble_eq_true rfl) (by decide) (fun _ _ _ h => h.2.2.2) (fun I4 J9 R9 hq => ?_)
  clear hE; obtain ⟨hI9, rfl, hE, -⟩ := hq
  have hbt : BX B I4 := by rw [hI9]; exact hbt
  have n_1_1 : I4 (b_b B + 1) 1 = (0) := by rw [hI9]; exact n_1_1
  have n_23 : ∀ q, I4 (b_b B + 23) q = 0 := fun q => by rw [hI9]; exact n_23 q
  have n_2 : ∀ q, I4 (b_b B + 2) q = 0 := fun q => by rw [hI9]; exact n_2 q
  have n_3_0 : I4 (b_b B + 3) 0 = (0) := by rw [hI9]; exact n_3_0
  have n_3_1 : I4 (b_b B + 3) 1 = (-1) := by rw [hI9]; exact n_3_1
  have n_6_0 : I4 (b_b B + 6) 0 = (0) := by rw [hI9]; exact n_6_0
  have n_6_1 : I4 (b_b B + 6) 1 = (0) := by rw [hI9]; exact n_6_1
  have n_6_2 : I4 (b_b B + 6) 2 = (0) := by rw [hI9]; exact n_6_2
  have n_6_3 : I4 (b_b B + 6) 3 = (-1) := by rw [hI9]; exact n_6_3
  have n_6_4 : I4 (b_b B + 6) 4 = (-1) := by rw [hI9]; exact n_6_4
  have n_7 : ∀ q, I4 (b_b B + 7) q = 0 := fun q => by rw [hI9]; exact n_7 q
  refine WN_putr (E := (eX.drop 51)) (c := 0) (t := 5) dX10_init_45 fX10_33 rfl rfl rfl rfl (by decide) (kx hB rfl) hE (by decide) (fun R9 hE9 => ?_)
  clear hE; have hE : RI B (eX.drop 50) R9 := hE9; clear hE9
  refine WN_aload_n dX10_init_48 rfl ?_
  refine WN_new (kd := 7) (N := 20) (k2 := 28) (c2 := 27) (s2 := 1667) 26 ⟨rfl, rfl, rfl, rfl, rfl⟩ dX10_init_49 ncX10_27 (kx hB rfl) (by decide) ?_
  refine WN_dup dX10_init_52 rfl ?_
  refine WN_init (y := mX7_init) (zz := (43, 15, 238)) (As := []) (rest := [.ref (b_b B + 27), .ref (b_b B + 0)]) (k2 := 43) (c2 := 42) (s2 := 1905) 27 ⟨rfl, rfl, rfl, rfl, rfl⟩ dX10_init_53 ⟨⟨⟨by decide, by decide⟩, zX7_init⟩, lX10_29, rfl, iX7_init, rfl⟩ (n_X7_27b hB hE) rfl rfl (Nat.le_of_ble_eq_true rfl) (by decide) (fun _ _ _ h => h.2.2.2) (fun I5 J9 R9 hq => ?_)
  clear hE; obtain ⟨hI9, rfl, hE, -⟩ := hq
  obtain ⟨hfr, n_27_0, n_27_1, n_27_2, n_27_3, n_27_4, n_28, hb9⟩ := hI9
  have hbt : BX B I5 := hb9 hbt
  have n_1_1 : I5 (b_b B + 1) 1 = (0) := by rw [hfr _ (by omega)]; exact n_1_1
  have n_23 : ∀ q, I5 (b_b B + 23) q = 0 := fun q => by rw [hfr _ (by omega)]; exact n_23 q
  have n_2 : ∀ q, I5 (b_b B + 2) q = 0 := fun q => by rw [hfr _ (by omega)]; exact n_2 q
  have n_3_0 : I5 (b_b B + 3) 0 = (0) := by rw [hfr _ (by omega)]; exact n_3_0
  have n_3_1 : I5 (b_b B + 3) 1 = (-1) := by rw [hfr _ (by omega)]; exact n_3_1
  have n_6_0 : I5 (b_b B + 6) 0 = (0) := by rw [hfr _ (by omega)]; exact n_6_0
  have n_6_1 : I5 (b_b B + 6) 1 = (0) := by rw [hfr _ (by omega)]; exact n_6_1
  have n_6_2 : I5 (b_b B + 6) 2 = (0) := by rw [hfr _ (by omega)]; exact n_6_2
  have n_6_3 : I5 (b_b B + 6) 3 = (-1) := by rw [hfr _ (by omega)]; exact n_6_3
  have n_6_4 : I5 (b_b B + 6) 4 = (-1) := by rw [hfr _ (by omega)]; exact n_6_4
  have n_7 : ∀ q, I5 (b_b B + 7) q = 0 := fun q => by rw [hfr _ (by omega)]; exact n_7 q
  refine WN_putr (E := (eX.drop 35)) (c := 0) (t := 27) dX10_init_56 fX10_37 rfl rfl rfl rfl (by decide) (kx hB rfl) hE (by decide) (fun R9 hE9 => ?_)
  clear hE; have hE : RI B (eX.drop 34) R9 := hE9; clear hE9
  refine WN_aload_n dX10_init_59 rfl ?_
  refine WN_new (kd := 2) (N := 9) (k2 := 44) (c2 := 43) (s2 := 1914) 42 ⟨rfl, rfl, rfl, rfl, rfl⟩ dX10_init_60 ncX10_41 (kx hB rfl) (by decide) ?_
  refine WN_dup dX10_init_63 rfl ?_
  refine WN_aload_n dX10_init_64 rfl ?_
  refine WN_getr (b := b_b B + 5) dX10_init_65 fX10_33 rfl (gk_is 10 (by decide) (kx hB rfl)) (hE (0, 2, 5) (by decide)) ?_
  refine WN_init (y := mX2_init) (zz := (49, 5, 915)) (As := [.ref (b_b B + 5)]) (rest := [.ref (b_b B + 43), .ref (b_b B + 0)]) (k2 := 49) (c2 := 48) (s2 := 2829) 43 ⟨rfl, rfl, rfl, rfl, rfl⟩ dX10_init_68 ⟨⟨⟨by decide, by decide⟩, zX2_init⟩, lX10_43, rfl, iX2_init, rfl⟩ (n_X2_43 hB hE) rfl rfl (Nat.le_of_ble_eq_true rfl) (by decide) (fun _ _ _ h => h.2.2.2) (fun I6 J9 R9 hq => ?_)
  clear hE; obtain ⟨hI9, rfl, hE, -⟩ := hq
  have hbt : BX B I6 := by rw [hI9]; exact (bx_pp hbt (by decide) (by decide))
  have n_1_1 : I6 (b_b B + 1) 1 = (0) := by rw [hI9, pp_off _ _ (by omega)]; exact n_1_1
  have n_23 : ∀ q, I6 (b_b B + 23) q = 0 := fun q => by rw [hI9, pp_off _ _ (by omega)]; exact n_23 q
  have n_2 : ∀ q, I6 (b_b B + 2) q = 0 := fun q => by rw [hI9, pp_off _ _ (by omega)]; exact n_2 q
  have n_3_0 : I6 (b_b B + 3) 0 = (0) := by rw [hI9, pp_off _ _ (by omega)]; exact n_3_0
  have n_3_1 : I6 (b_b B + 3) 1 = (-1) := by rw [hI9, pp_off _ _ (by omega)]; exact n_3_1
  have n_6_0 : I6 (b_b B + 6) 0 = (0) := by rw [hI9, pp_off _ _ (by omega)]; exact n_6_0
  have n_6_1 : I6 (b_b B + 6) 1 = (0) := by rw [hI9, pp_off _ _ (by omega)]; exact n_6_1
  have n_6_2 : I6 (b_b B + 6) 2 = (0) := by rw [hI9, pp_off _ _ (by omega)]; exact n_6_2
  have n_6_3 : I6 (b_b B + 6) 3 = (-1) := by rw [hI9, pp_off _ _ (by omega)]; exact n_6_3
  have n_6_4 : I6 (b_b B + 6) 4 = (-1) := by rw [hI9, pp_off _ _ (by omega)]; exact n_6_4
  have n_7 : ∀ q, I6 (b_b B + 7) q = 0 := fun q => by rw [hI9, pp_off _ _ (by omega)]; exact n_7 q
  refine WN_putr (E := (eX.drop 28)) (c := 0) (t := 43) dX10_init_71 fX10_46 rfl rfl rfl rfl (by decide) (kx hB rfl) hE (by decide) (fun R9 hE9 => ?_)
  clear hE; have hE : RI B (eX.drop 27) R9 := hE9; clear hE9
  refine WN_aload_n dX10_init_74 rfl ?_
  refine WN_new (kd := 9) (N := 5) (k2 := 50) (c2 := 49) (s2 := 2834) 48 ⟨rfl, rfl, rfl, rfl, rfl⟩ dX10_init_75 ncX10_50 (kx hB rfl) (by decide) ?_
  refine WN_dup dX10_init_78 rfl ?_
  refine WN_aload_n dX10_init_79 rfl ?_
  refine WN_getr (b := b_b B + 5) dX10_init_80 fX10_33 rfl (gk_is 10 (by decide) (kx hB rfl)) (hE (0, 2, 5) (by decide)) ?_
  refine WN_aload_n dX10_init_83 rfl ?_
  refine WN_getr (b := b_b B + 43) dX10_init_84 fX10_46 rfl (gk_is 10 (by decide) (kx hB rfl)) (hE (0, 3, 43) (by decide)) ?_
  refine WN_init (y := mX9_init) (zz := (53, 3, 33)) (As := [.ref (b_b B + 5), .ref (b_b B + 43)]) (rest := [.ref (b_b B + 49), .ref (b_b B + 0)]) (k2 := 53) (c2 := 52) (s2 := 2867) 49 ⟨rfl, rfl, rfl, rfl, rfl⟩ dX10_init_87 ⟨⟨⟨by decide, by decide⟩, zX9_init⟩, lX10_52, rfl, iX9_init, rfl⟩ (n_X9_49 hB hE) rfl rfl (Nat.le_of_ble_eq_true rfl) (by decide) (fun _ _ _ h => h.2.2.2) (fun I7 J9 R9 hq => ?_)
  clear hE; obtain ⟨hI9, rfl, hE, -⟩ := hq
  have hbt : BX B I7 := by rw [hI9]; exact (bx_pp hbt (by decide) (by decide))
  have n_1_1 : I7 (b_b B + 1) 1 = (0) := by rw [hI9, pp_off _ _ (by omega)]; exact n_1_1
  have n_23 : ∀ q, I7 (b_b B + 23) q = 0 := fun q => by rw [hI9, pp_off _ _ (by omega)]; exact n_23 q
  have n_2 : ∀ q, I7 (b_b B + 2) q = 0 := fun q => by rw [hI9, pp_off _ _ (by omega)]; exact n_2 q
  have n_3_0 : I7 (b_b B + 3) 0 = (0) := by rw [hI9, pp_off _ _ (by omega)]; exact n_3_0
  have n_3_1 : I7 (b_b B + 3) 1 = (-1) := by rw [hI9, pp_off _ _ (by omega)]; exact n_3_1
  have n_6_0 : I7 (b_b B + 6) 0 = (0) := by rw [hI9, pp_off _ _ (by omega)]; exact n_6_0
  have n_6_1 : I7 (b_b B + 6) 1 = (0) := by rw [hI9, pp_off _ _ (by omega)]; exact n_6_1
  have n_6_2 : I7 (b_b B + 6) 2 = (0) := by rw [hI9, pp_off _ _ (by omega)]; exact n_6_2
  have n_6_3 : I7 (b_b B + 6) 3 = (-1) := by rw [hI9, pp_off _ _ (by omega)]; exact n_6_3
  have n_6_4 : I7 (b_b B + 6) 4 = (-1) := by rw [hI9, pp_off _ _ (by omega)]; exact n_6_4
  have n_7 : ∀ q, I7 (b_b B + 7) q = 0 := fun q => by rw [hI9, pp_off _ _ (by omega)]; exact n_7 q
  refine WN_putr (E := (eX.drop 22)) (c := 0) (t := 49) dX10_init_90 fX10_55 rfl rfl rfl rfl (by decide) (kx hB rfl) hE (by decide) (fun R9 hE9 => ?_)
  clear hE; have hE : RI B (eX.drop 21) R9 := hE9; clear hE9
  refine WN_aload_n dX10_init_93 rfl ?_
  refine WN_new (kd := 4) (N := 6) (k2 := 54) (c2 := 53) (s2 := 2873) 52 ⟨rfl, rfl, rfl, rfl, rfl⟩ dX10_init_94 ncX10_59 (kx hB rfl) (by decide) ?_
  refine WN_dup dX10_init_97 rfl ?_
  refine WN_init (y := mX4_init) (zz := (56, 2, 32)) (As := []) (rest := [.ref (b_b B + 53), .ref (b_b B + 0)]) (k2 := 56) (c2 := 55) (s2 := 2905) 53 ⟨rfl, rfl, rfl, rfl, rfl⟩ dX10_init_98 ⟨⟨⟨by decide, by decide⟩, zX4_init⟩, lX10_61, rfl, iX4_init, rfl⟩ (n_X4_53 hB hE) rfl rfl (Nat.le_of_ble_eq_true rfl) (by decide) (fun _ _ _ h => h.2.2.2) (fun I8 J9 R9 hq => ?_)
  clear hE; obtain ⟨hI9, rfl, hE, -⟩ := hq
  have hbt : BX B I8 := by rw [hI9]; exact (bx_pp hbt (by decide) (by decide))
  have n_1_1 : I8 (b_b B + 1) 1 = (0) := by rw [hI9, pp_off _ _ (by omega)]; exact n_1_1
  have n_23 : ∀ q, I8 (b_b B + 23) q = 0 := fun q => by rw [hI9, pp_off _ _ (by omega)]; exact n_23 q
  have n_2 : ∀ q, I8 (b_b B + 2) q = 0 := fun q => by rw [hI9, pp_off _ _ (by omega)]; exact n_2 q
  have n_3_0 : I8 (b_b B + 3) 0 = (0) := by rw [hI9, pp_off _ _ (by omega)]; exact n_3_0
  have n_3_1 : I8 (b_b B + 3) 1 = (-1) := by rw [hI9, pp_off _ _ (by omega)]; exact n_3_1
  have n_6_0 : I8 (b_b B + 6) 0 = (0) := by rw [hI9, pp_off _ _ (by omega)]; exact n_6_0
  have n_6_1 : I8 (b_b B + 6) 1 = (0) := by rw [hI9, pp_off _ _ (by omega)]; exact n_6_1
  have n_6_2 : I8 (b_b B + 6) 2 = (0) := by rw [hI9, pp_off _ _ (by omega)]; exact n_6_2
  have n_6_3 : I8 (b_b B + 6) 3 = (-1) := by rw [hI9, pp_off _ _ (by omega)]; exact n_6_3
  have n_6_4 : I8 (b_b B + 6) 4 = (-1) := by rw [hI9, pp_off _ _ (by omega)]; exact n_6_4
  have n_7 : ∀ q, I8 (b_b B + 7) q = 0 := fun q => by rw [hI9, pp_off _ _ (by omega)]; exact n_7 q
  refine WN_putr (E := (eX.drop 19)) (c := 0) (t := 53) dX10_init_101 fX10_62 rfl rfl rfl rfl (by decide) (kx hB rfl) hE (by decide) (fun R9 hE9 => ?_)
  clear hE; have hE : RI B (eX.drop 18) R9 := hE9; clear hE9
  refine WN_aload_n dX10_init_104 rfl ?_
  refine WN_new (kd := 4) (N := 6) (k2 := 57) (c2 := 56) (s2 := 2911) 55 ⟨rfl, rfl, rfl, rfl, rfl⟩ dX10_init_105 ncX10_59 (kx hB rfl) (by decide) ?_
  refine WN_dup dX10_init_108 rfl ?_
  refine WN_init (y := mX4_init) (zz := (59, 2, 32)) (As := []) (rest := [.ref (b_b B + 56), .ref (b_b B + 0)]) (k2 := 59) (c2 := 58) (s2 := 2943) 56 ⟨rfl, rfl, rfl, rfl, rfl⟩ dX10_init_109 ⟨⟨⟨by decide, by decide⟩, zX4_init⟩, lX10_61, rfl, iX4_init, rfl⟩ (n_X4_56 hB hE) rfl rfl (Nat.le_of_ble_eq_true rfl) (by decide) (fun _ _ _ h => h.2.2.2) (fun I9 J9 R9 hq => ?_)
  clear hE; obtain ⟨hI9, rfl, hE, -⟩ := hq
  have hbt : BX B I9 := by rw [hI9]; exact (bx_pp hbt (by decide) (by decide))
  have n_1_1 : I9 (b_b B + 1) 1 = (0) := by rw [hI9, pp_off _ _ (by omega)]; exact n_1_1
  have n_23 : ∀ q, I9 (b_b B + 23) q = 0 := fun q => by rw [hI9, pp_off _ _ (by omega)]; exact n_23 q
  have n_2 : ∀ q, I9 (b_b B + 2) q = 0 := fun q => by rw [hI9, pp_off _ _ (by omega)]; exact n_2 q
  have n_3_0 : I9 (b_b B + 3) 0 = (0) := by rw [hI9, pp_off _ _ (by omega)]; exact n_3_0
  have n_3_1 : I9 (b_b B + 3) 1 = (-1) := by rw [hI9, pp_off _ _ (by omega)]; exact n_3_1
  have n_6_0 : I9 (b_b B + 6) 0 = (0) := by rw [hI9, pp_off _ _ (by omega)]; exact n_6_0
  have n_6_1 : I9 (b_b B + 6) 1 = (0) := by rw [hI9, pp_off _ _ (by omega)]; exact n_6_1
  have n_6_2 : I9 (b_b B + 6) 2 = (0) := by rw [hI9, pp_off _ _ (by omega)]; exact n_6_2
  have n_6_3 : I9 (b_b B + 6) 3 = (-1) := by rw [hI9, pp_off _ _ (by omega)]; exact n_6_3
  have n_6_4 : I9 (b_b B + 6) 4 = (-1) := by rw [hI9, pp_off _ _ (by omega)]; exact n_6_4
  have n_7 : ∀ q, I9 (b_b B + 7) q = 0 := fun q => by rw [hI9, pp_off _ _ (by omega)]; exact n_7 q
  refine WN_putr (E := (eX.drop 16)) (c := 0) (t := 56) dX10_init_112 fX10_66 rfl rfl rfl rfl (by decide) (kx hB rfl) hE (by decide) (fun R9 hE9 => ?_)
  clear hE; have hE : RI B (eX.drop 15) R9 := hE9; clear hE9
  refine WN_aload_n dX10_init_115 rfl ?_
  refine WN_iconst (3) dX10_init_116 rfl ?_
  refine WN_anew (N := 3) (k2 := 60) (c2 := 59) (s2 := 2946) 58 ⟨rfl, rfl, rfl, rfl⟩ dX10_init_117 ncA (kx hB rfl) (nx hB rfl) (by decide) (by decide) (by decide) ?_
  refine WN_putr (E := (eX.drop 15)) (c := 0) (t := 59) dX10_init_120 fX10_69 rfl rfl rfl rfl (by decide) (kx hB rfl) hE (by decide) (fun R9 hE9 => ?_)
  clear hE; have hE : RI B (eX.drop 14) R9 := hE9; clear hE9
  refine WN_iconst (0) dX10_init_123 rfl ?_
  refine WN_istore_n (ls' := [(0, _), (1, _)]) dX10_init_124 (by decide) rfl ?_
  refine WN_iload_n dX10_init_125 rfl ?_
  refine WN_iconst (3) dX10_init_126 rfl ?_
  refine WN_icmp_ge 149 dX10_init_127 rfl (fun h => absurd h (by decide)) (fun _ => ?_)
  refine WN_aload_n dX10_init_130 rfl ?_
  refine WN_getr (b := b_b B + 59) dX10_init_131 fX10_69 rfl (gk_is 10 (by decide) (kx hB rfl)) (hE (0, 7, 59) (by decide)) ?_
  refine WN_iload_n dX10_init_134 rfl ?_
  refine WN_new (kd := 4) (N := 6) (k2 := 61) (c2 := 60) (s2 := 2952) 59 ⟨rfl, rfl, rfl, rfl, rfl⟩ dX10_init_135 ncX10_59 (kx hB rfl) (by decide) ?_
  refine WN_dup dX10_init_138 rfl ?_
  refine WN_init (y := mX4_init) (zz := (63, 2, 32)) (As := []) (rest := [.ref (b_b B + 60), .int (0), .ref (b_b B + 59)]) (k2 := 63) (c2 := 62) (s2 := 2984) 60 ⟨rfl, rfl, rfl, rfl, rfl⟩ dX10_init_139 ⟨⟨⟨by decide, by decide⟩, zX4_init⟩, lX10_61, rfl, iX4_init, rfl⟩ (n_X4_60 hB hE) rfl rfl (Nat.le_of_ble_eq_true rfl) (by decide) (fun _ _ _ h => h.2.2.2) (fun I10 J9 R9 hq => ?_)
  clear hE; obtain ⟨hI9, rfl, hE, -⟩ := hq
  have hbt : BX B I10 := by rw [hI9]; exact (bx_pp hbt (by decide) (by decide))
  have n_1_1 : I10 (b_b B + 1) 1 = (0) := by rw [hI9, pp_off _ _ (by omega)]; exact n_1_1
  have n_23 : ∀ q, I10 (b_b B + 23) q = 0 := fun q => by rw [hI9, pp_off _ _ (by omega)]; exact n_23 q
  have n_2 : ∀ q, I10 (b_b B + 2) q = 0 := fun q => by rw [hI9, pp_off _ _ (by omega)]; exact n_2 q
  have n_3_0 : I10 (b_b B + 3) 0 = (0) := by rw [hI9, pp_off _ _ (by omega)]; exact n_3_0
  have n_3_1 : I10 (b_b B + 3) 1 = (-1) := by rw [hI9, pp_off _ _ (by omega)]; exact n_3_1
  have n_6_0 : I10 (b_b B + 6) 0 = (0) := by rw [hI9, pp_off _ _ (by omega)]; exact n_6_0
  have n_6_1 : I10 (b_b B + 6) 1 = (0) := by rw [hI9, pp_off _ _ (by omega)]; exact n_6_1
  have n_6_2 : I10 (b_b B + 6) 2 = (0) := by rw [hI9, pp_off _ _ (by omega)]; exact n_6_2
  have n_6_3 : I10 (b_b B + 6) 3 = (-1) := by rw [hI9, pp_off _ _ (by omega)]; exact n_6_3
  have n_6_4 : I10 (b_b B + 6) 4 = (-1) := by rw [hI9, pp_off _ _ (by omega)]; exact n_6_4
  have n_7 : ∀ q, I10 (b_b B + 7) q = 0 := fun q => by rw [hI9, pp_off _ _ (by omega)]; exact n_7 q
  refine WN_aast (E := (eX.drop 12)) (q := 0) dX10_init_142 ⟨by decide, by decide⟩ (kx hB rfl) (kx hB rfl) (lyg (gk_n 3 (nx hB rfl)) (by unfold vp_in; decide)) (by decide) hE (by decide) (fun R9 hE9 => ?_)
  clear hE; have hE : RI B (eX.drop 11) R9 := hE9; clear hE9
  refine WN_iinc (ls' := [(0, _), (1, _)]) dX10_init_143 rfl (by decide) rfl ?_
  refine WN_goto 125 dX10_init_146 rfl ?_
  refine WN_iload_n dX10_init_125 rfl ?_
  refine WN_iconst (3) dX10_init_126 rfl ?_
  refine WN_icmp_ge 149 dX10_init_127 rfl (fun h => absurd h (by decide)) (fun _ => ?_)
  refine WN_aload_n dX10_init_130 rfl ?_
  refine WN_getr (b := b_b B + 59) dX10_init_131 fX10_69 rfl (gk_is 10 (by decide) (kx hB rfl)) (hE (0, 7, 59) (by decide)) ?_
  refine WN_iload_n dX10_init_134 rfl ?_
  refine WN_new (kd := 4) (N := 6) (k2 := 64) (c2 := 63) (s2 := 2990) 62 ⟨rfl, rfl, rfl, rfl, rfl⟩ dX10_init_135 ncX10_59 (kx hB rfl) (by decide) ?_
  refine WN_dup dX10_init_138 rfl ?_
  refine WN_init (y := mX4_init) (zz := (66, 2, 32)) (As := []) (rest := [.ref (b_b B + 63), .int ((0 + Int32.ofInt 1)), .ref (b_b B + 59)]) (k2 := 66) (c2 := 65) (s2 := 3022) 63 ⟨rfl, rfl, rfl, rfl, rfl⟩ dX10_init_139 ⟨⟨⟨by decide, by decide⟩, zX4_init⟩, lX10_61, rfl, iX4_init, rfl⟩ (n_X4_63 hB hE) rfl rfl (Nat.le_of_ble_eq_true rfl) (by decide) (fun _ _ _ h => h.2.2.2) (fun I11 J9 R9 hq => ?_)
  clear hE; obtain ⟨hI9, rfl, hE, -⟩ := hq
  have hbt : BX B I11 := by rw [hI9]; exact (bx_pp hbt (by decide) (by decide))
  have n_1_1 : I11 (b_b B + 1) 1 = (0) := by rw [hI9, pp_off _ _ (by omega)]; exact n_1_1
  have n_23 : ∀ q, I11 (b_b B + 23) q = 0 := fun q => by rw [hI9, pp_off _ _ (by omega)]; exact n_23 q
  have n_2 : ∀ q, I11 (b_b B + 2) q = 0 := fun q => by rw [hI9, pp_off _ _ (by omega)]; exact n_2 q
  have n_3_0 : I11 (b_b B + 3) 0 = (0) := by rw [hI9, pp_off _ _ (by omega)]; exact n_3_0
  have n_3_1 : I11 (b_b B + 3) 1 = (-1) := by rw [hI9, pp_off _ _ (by omega)]; exact n_3_1
  have n_6_0 : I11 (b_b B + 6) 0 = (0) := by rw [hI9, pp_off _ _ (by omega)]; exact n_6_0
  have n_6_1 : I11 (b_b B + 6) 1 = (0) := by rw [hI9, pp_off _ _ (by omega)]; exact n_6_1
  have n_6_2 : I11 (b_b B + 6) 2 = (0) := by rw [hI9, pp_off _ _ (by omega)]; exact n_6_2
  have n_6_3 : I11 (b_b B + 6) 3 = (-1) := by rw [hI9, pp_off _ _ (by omega)]; exact n_6_3
  have n_6_4 : I11 (b_b B + 6) 4 = (-1) := by rw [hI9, pp_off _ _ (by omega)]; exact n_6_4
  have n_7 : ∀ q, I11 (b_b B + 7) q = 0 := fun q => by rw [hI9, pp_off _ _ (by omega)]; exact n_7 q
  refine WN_aast (E := (eX.drop 9)) (q := 1) dX10_init_142 ⟨by decide, by decide⟩ (kx hB rfl) (kx hB rfl) (lyg (gk_n 3 (nx hB rfl)) (by unfold vp_in; decide)) (by decide) hE (by decide) (fun R9 hE9 => ?_)
  clear hE; have hE : RI B (eX.drop 8) R9 := hE9; clear hE9
  refine WN_iinc (ls' := [(0, _), (1, _)]) dX10_init_143 rfl (by decide) rfl ?_
  refine WN_goto 125 dX10_init_146 rfl ?_
  refine WN_iload_n dX10_init_125 rfl ?_
  refine WN_iconst (3) dX10_init_126 rfl ?_
  refine WN_icmp_ge 149 dX10_init_127 rfl (fun h => absurd h (by decide)) (fun _ => ?_)
  refine WN_aload_n dX10_init_130 rfl ?_
  refine WN_getr (b := b_b B + 59) dX10_init_131 fX10_69 rfl (gk_is 10 (by decide) (kx hB rfl)) (hE (0, 7, 59) (by decide)) ?_
  refine WN_iload_n dX10_init_134 rfl ?_
  refine WN_new (kd := 4) (N := 6) (k2 := 67) (c2 := 66) (s2 := 3028) 65 ⟨rfl, rfl, rfl, rfl, rfl⟩ dX10_init_135 ncX10_59 (kx hB rfl) (by decide) ?_
  refine WN_dup dX10_init_138 rfl ?_
  refine WN_init (y := mX4_init) (zz := (69, 2, 32)) (As := []) (rest := [.ref (b_b B + 66), .int (((0 + Int32.ofInt 1) + Int32.ofInt 1)), .ref (b_b B + 59)]) (k2 := 69) (c2 := 68) (s2 := 3060) 66 ⟨rfl, rfl, rfl, rfl, rfl⟩ dX10_init_139 ⟨⟨⟨by decide, by decide⟩, zX4_init⟩, lX10_61, rfl, iX4_init, rfl⟩ (n_X4_66 hB hE) rfl rfl (Nat.le_of_ble_eq_true rfl) (by decide) (fun _ _ _ h => h.2.2.2) (fun I12 J9 R9 hq => ?_)
  clear hE; obtain ⟨hI9, rfl, hE, -⟩ := hq
  have hbt : BX B I12 := by rw [hI9]; exact (bx_pp hbt (by decide) (by decide))
  have n_1_1 : I12 (b_b B + 1) 1 = (0) := by rw [hI9, pp_off _ _ (by omega)]; exact n_1_1
  have n_23 : ∀ q, I12 (b_b B + 23) q = 0 := fun q => by rw [hI9, pp_off _ _ (by omega)]; exact n_23 q
  have n_2 : ∀ q, I12 (b_b B + 2) q = 0 := fun q => by rw [hI9, pp_off _ _ (by omega)]; exact n_2 q
  have n_3_0 : I12 (b_b B + 3) 0 = (0) := by rw [hI9, pp_off _ _ (by omega)]; exact n_3_0
  have n_3_1 : I12 (b_b B + 3) 1 = (-1) := by rw [hI9, pp_off _ _ (by omega)]; exact n_3_1
  have n_6_0 : I12 (b_b B + 6) 0 = (0) := by rw [hI9, pp_off _ _ (by omega)]; exact n_6_0
  have n_6_1 : I12 (b_b B + 6) 1 = (0) := by rw [hI9, pp_off _ _ (by omega)]; exact n_6_1
  have n_6_2 : I12 (b_b B + 6) 2 = (0) := by rw [hI9, pp_off _ _ (by omega)]; exact n_6_2
  have n_6_3 : I12 (b_b B + 6) 3 = (-1) := by rw [hI9, pp_off _ _ (by omega)]; exact n_6_3
  have n_6_4 : I12 (b_b B + 6) 4 = (-1) := by rw [hI9, pp_off _ _ (by omega)]; exact n_6_4
  have n_7 : ∀ q, I12 (b_b B + 7) q = 0 := fun q => by rw [hI9, pp_off _ _ (by omega)]; exact n_7 q
  refine WN_aast (E := (eX.drop 6)) (q := 2) dX10_init_142 ⟨by decide, by decide⟩ (kx hB rfl) (kx hB rfl) (lyg (gk_n 3 (nx hB rfl)) (by unfold vp_in; decide)) (by decide) hE (by decide) (fun R9 hE9 => ?_)
  clear hE; have hE : RI B (eX.drop 5) R9 := hE9; clear hE9
  refine WN_iinc (ls' := [(0, _), (1, _)]) dX10_init_143 rfl (by decide) rfl ?_
  refine WN_goto 125 dX10_init_146 rfl ?_
  refine WN_iload_n dX10_init_125 rfl ?_
  refine WN_iconst (3) dX10_init_126 rfl ?_
  refine WN_icmp_ge 149 dX10_init_127 rfl (fun _ => ?_) (fun h => absurd (by decide) h)
  refine WN_aload_n dX10_init_149 rfl ?_
  refine WN_new (kd := 8) (N := 4) (k2 := 70) (c2 := 69) (s2 := 3064) 68 ⟨rfl, rfl, rfl, rfl, rfl⟩ dX10_init_150 ncX10_73 (kx hB rfl) (by decide) ?_
  refine WN_dup dX10_init_153 rfl ?_
  refine WN_init (y := mX8_init) (zz := (71, 1, 100)) (As := []) (rest := [.ref (b_b B + 69), .ref (b_b B + 0)]) (k2 := 71) (c2 := 70) (s2 := 3164) 69 ⟨rfl, rfl, rfl, rfl, rfl⟩ dX10_init_154 ⟨⟨⟨by decide, by decide⟩, zX8_init⟩, lX10_75, rfl, iX8_init, rfl⟩ (n_X8_69 hB hE) rfl rfl (Nat.le_of_ble_eq_true rfl) (by decide) (fun _ _ _ h => h.2.2.2) (fun I13 J9 R9 hq => ?_)
  clear hE; obtain ⟨hI9, rfl, hE, -⟩ := hq
  have hbt : BX B I13 := by rw [hI9]; exact (bx_pp hbt (by decide) (by decide))
  have n_1_1 : I13 (b_b B + 1) 1 = (0) := by rw [hI9, pp_off _ _ (by omega)]; exact n_1_1
  have n_23 : ∀ q, I13 (b_b B + 23) q = 0 := fun q => by rw [hI9, pp_off _ _ (by omega)]; exact n_23 q
  have n_2 : ∀ q, I13 (b_b B + 2) q = 0 := fun q => by rw [hI9, pp_off _ _ (by omega)]; exact n_2 q
  have n_3_0 : I13 (b_b B + 3) 0 = (0) := by rw [hI9, pp_off _ _ (by omega)]; exact n_3_0
  have n_3_1 : I13 (b_b B + 3) 1 = (-1) := by rw [hI9, pp_off _ _ (by omega)]; exact n_3_1
  have n_6_0 : I13 (b_b B + 6) 0 = (0) := by rw [hI9, pp_off _ _ (by omega)]; exact n_6_0
  have n_6_1 : I13 (b_b B + 6) 1 = (0) := by rw [hI9, pp_off _ _ (by omega)]; exact n_6_1
  have n_6_2 : I13 (b_b B + 6) 2 = (0) := by rw [hI9, pp_off _ _ (by omega)]; exact n_6_2
  have n_6_3 : I13 (b_b B + 6) 3 = (-1) := by rw [hI9, pp_off _ _ (by omega)]; exact n_6_3
  have n_6_4 : I13 (b_b B + 6) 4 = (-1) := by rw [hI9, pp_off _ _ (by omega)]; exact n_6_4
  have n_7 : ∀ q, I13 (b_b B + 7) q = 0 := fun q => by rw [hI9, pp_off _ _ (by omega)]; exact n_7 q
  refine WN_putr (E := (eX.drop 4)) (c := 0) (t := 69) dX10_init_157 fX10_76 rfl rfl rfl rfl (by decide) (kx hB rfl) hE (by decide) (fun R9 hE9 => ?_)
  clear hE; have hE : RI B (eX.drop 3) R9 := hE9; clear hE9
  refine WN_aload_n dX10_init_160 rfl ?_
  refine WN_new (kd := 1) (N := 8) (k2 := 72) (c2 := 71) (s2 := 3172) 70 ⟨rfl, rfl, rfl, rfl, rfl⟩ dX10_init_161 ncX10_80 (kx hB rfl) (by decide) ?_
  refine WN_dup dX10_init_164 rfl ?_
  refine WN_init (y := mX1_init) (zz := (74, 2, 16)) (As := []) (rest := [.ref (b_b B + 71), .ref (b_b B + 0)]) (k2 := 74) (c2 := 73) (s2 := 3188) 71 ⟨rfl, rfl, rfl, rfl, rfl⟩ dX10_init_165 ⟨⟨⟨by decide, by decide⟩, zX1_init⟩, lX10_82, rfl, iX1_init, rfl⟩ (n_X1_71 hB hE) rfl rfl (Nat.le_of_ble_eq_true rfl) (by decide) (fun _ _ _ h => h.2.2.2) (fun I14 J9 R9 hq => ?_)
  clear hE; obtain ⟨hI9, rfl, hE, -⟩ := hq
  have hbt : BX B I14 := by rw [hI9]; exact (bx_pp hbt (by decide) (by decide))
  have n_1_1 : I14 (b_b B + 1) 1 = (0) := by rw [hI9, pp_off _ _ (by omega)]; exact n_1_1
  have n_23 : ∀ q, I14 (b_b B + 23) q = 0 := fun q => by rw [hI9, pp_off _ _ (by omega)]; exact n_23 q
  have n_2 : ∀ q, I14 (b_b B + 2) q = 0 := fun q => by rw [hI9, pp_off _ _ (by omega)]; exact n_2 q
  have n_3_0 : I14 (b_b B + 3) 0 = (0) := by rw [hI9, pp_off _ _ (by omega)]; exact n_3_0
  have n_3_1 : I14 (b_b B + 3) 1 = (-1) := by rw [hI9, pp_off _ _ (by omega)]; exact n_3_1
  have n_6_0 : I14 (b_b B + 6) 0 = (0) := by rw [hI9, pp_off _ _ (by omega)]; exact n_6_0
  have n_6_1 : I14 (b_b B + 6) 1 = (0) := by rw [hI9, pp_off _ _ (by omega)]; exact n_6_1
  have n_6_2 : I14 (b_b B + 6) 2 = (0) := by rw [hI9, pp_off _ _ (by omega)]; exact n_6_2
  have n_6_3 : I14 (b_b B + 6) 3 = (-1) := by rw [hI9, pp_off _ _ (by omega)]; exact n_6_3
  have n_6_4 : I14 (b_b B + 6) 4 = (-1) := by rw [hI9, pp_off _ _ (by omega)]; exact n_6_4
  have n_7 : ∀ q, I14 (b_b B + 7) q = 0 := fun q => by rw [hI9, pp_off _ _ (by omega)]; exact n_7 q
  refine WN_putr (E := (eX.drop 1)) (c := 0) (t := 71) dX10_init_168 fX10_83 rfl rfl rfl rfl (by decide) (kx hB rfl) hE (by decide) (fun R9 hE9 => ?_)
  clear hE; have hE : RI B (eX.drop 0) R9 := hE9; clear hE9
  refine WN_aload_n dX10_init_171 rfl ?_
  have hrf : RfX (gk B 74) R9 := rfx_gk hE
  have hy : LyX (gk B 74) := gk_ly hB 74
  have hT := RI_ad (n := 74) hE (c := 5) (q := 0) (t := 6) (by decide) (by decide)
  have hI : XI (gk B 74) 0 0 I14 := ⟨hbt, by rw [gk_ad (by decide)]; exact n_1_1⟩
  have hs := sx_settle_6 (J := (fun _ _ => 0)) hy hrf hT hI (Int.le_refl 0)
  have q2 : ad (gk B 74) 2 = b_b B + 2 := gk_ad (by decide)
  have q3 : ad (gk B 74) 3 = b_b B + 3 := gk_ad (by decide)
  have q6 : ad (gk B 74) 6 = b_b B + 6 := gk_ad (by decide)
  have q7 : ad (gk B 74) 7 = b_b B + 7 := gk_ad (by decide)
  have s1 : (S0 (fun _ _ => 0)).1 0 1 = 0 := rfl
  have s2 : (S0 (fun _ _ => 0)).1 0 2 = 0 := rfl
  have hW : RTW (gk B 74) 6 (S0 (fun _ _ => 0)) I14 (fun _ _ => 0) := by
    refine ⟨⟨by rw [q6, n_6_0]; rfl, by rw [q6, n_6_1]; rfl, by rw [q6, n_6_2]; rfl, by rw [q6, n_6_3]; rfl, by rw [q6, n_6_4]; rfl⟩, fun q hq => by rw [show ad (gk B 74) (6 + 1) = b_b B + 7 from q7, n_7 q]; rfl, fun e he q hq => ?_, fun e he q hq => ?_, fun q hq => ?_, fun q hq => ?_⟩
    all_goals (exfalso; first | (rw [s1] at hq; omega) | (rw [s2] at hq; omega) | exact absurd hq (Nat.not_lt_zero _))
  have hs := SP_and2 hs (ex_settlea hy hrf hT hW (TBD_0 _) (S0_b _).1)
  rw [show ad (gk B 74) 0 = b_b B + 0 from gk_ad (by decide)] at hs
  refine WN_callret (k := 10) dX10_init_172 dX10_init_175 rfl ⟨⟨⟨by decide, by decide⟩, zX10_settle⟩, lX10_87, by decide, rfl, vX10_settle.1, vX10_settle.2⟩ (gk_is 10 (by decide) (kx hB rfl)) hs rfl (fun hZ r I0 J0 R0 hq => ?_)
  obtain ⟨⟨⟨h1, h2, f1, -⟩, h3⟩, I8, J8, R8, hE8, hA8⟩ := hq
  rw [h2]
  have z2 := f1 2 (by decide) (by decide)
  have z3 := f1 3 (by decide) (by decide)
  have z6 := f1 6 (by decide) (by decide)
  have z7 := f1 7 (by decide) (by decide)
  refine ⟨h3, hrf, Or.inl ⟨hT, RI_ad (n := 74) hE (c := 0) (q := 10) (t := 27) (by decide) (by decide)⟩, Or.inl ⟨RI_ad (n := 74) hE (c := 43) (q := 6) (t := 47) (by decide) (by decide), RI_ad (n := 74) hE (c := 43) (q := 7) (t := 48) (by decide) (by decide)⟩, h1, ?_⟩
  unfold XS0 XS00
  rw [z2, z3, z6, z7]
  simp only [show ad (gk B 74) 2 = b_b B + 2 from gk_ad (by decide), show ad (gk B 74) 3 = b_b B + 3 from gk_ad (by decide), show ad (gk B 74) 6 = b_b B + 6 from gk_ad (by decide), show ad (gk B 74) 7 = b_b B + 7 from gk_ad (by decide)] at hT ⊢
  exact ⟨⟨n_2, n_6_0, n_6_1, n_6_2, n_6_3, n_6_4, n_7, n_3_0, n_3_1, hT⟩, XDS_agr hy hA8 (XDS_new hE8.2.2.2.2), XK_agr hy hA8 (XK_new hE8.2.2.2.2.1)⟩
