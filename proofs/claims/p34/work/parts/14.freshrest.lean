set_option maxHeartbeats 4000000 in
set_option maxRecDepth 100000 in
theorem fr_rate {g : GG} {I : pI} {J : pJ} {R : pR} (hy : Ly g) (hr : Rf g R) (hf : MF g I J) (a : Int32) : SP g mX11_rate [.ref (ad g P_o), .int a] I J R (rq (if 1 ≤ a.toInt ∧ a.toInt ≤ 4 then 0 else -2)) := by
  refine SP_of ⟨by decide, rfl⟩ (Nat.le_of_ble_eq_true rfl) ?_
  have c0 : True := trivial
  obtain ⟨hmc, h_taped, h_fault, h_faultAt, h_clauses, h_turnsTold, h_held, h_now, h_kept⟩ := hf
  have hmc0 := hmc
  obtain ⟨h_sorts, h_things, h_chestSort, h_storedThing, h_rot⟩ := hmc
  refine WP_iload_n dX11_rate_0 rfl ?_
  refine WP_i2l dX11_rate_1 ?_
  refine WP_lconst (1) dX11_rate_2 rfl ?_
  refine WP_ldc2 (4) dX11_rate_3 klX11_452 ?_
  refine WP_callS3p dX11_rate_6 ⟨⟨⟨by decide, by decide⟩, zX11_in⟩, lX11_52, tX11_in⟩ (s_in _ _ _) (Nat.le_of_ble_eq_true rfl) ?_
  refine WP_ifb_ne 15 dX11_rate_9 rfl (fun c9 => ?_) (fun c9 => ?_)
  · refine WP_iconst (0) dX11_rate_15 rfl ?_
    refine WP_istore_n (ls' := [(0, _), (1, _), (2, _)]) dX11_rate_16 (by decide) rfl ?_
    refine WP_iconst (-1) dX11_rate_17 rfl ?_
    refine WP_istore_n (ls' := [(0, _), (1, _), (2, _), (3, _)]) dX11_rate_18 (by decide) rfl ?_
    refine WP_iconst (0) dX11_rate_19 rfl ?_
    refine WP_istore (ls' := [(0, _), (1, _), (2, _), (3, _), (4, _)]) dX11_rate_20 (by decide) rfl ?_
    refine WP_iload dX11_rate_22 rfl ?_
    refine WP_bipush (19) dX11_rate_24 rfl ?_
    refine WP_icmp_ge 59 dX11_rate_26 rfl (fun c26 => absurd c26 (by intro cc; (try simp only [h_taped, h_fault, h_faultAt, h_clauses, h_turnsTold, h_held, h_sorts, h_things, h_chestSort, h_storedThing, h_rot] at cc); (all_goals (try simp only [cmp_lt, cmp_gt] at cc)); (all_goals (try simp only [le32, lt32, eq32, t64, Int32.reduceToInt, Int64.reduceToInt] at cc)); (all_goals (try simp (disch := ((try simp (disch := ((try simp (disch := omega) only [ia, is', im, ja, js, ir, idv, Int32.reduceToInt, Int64.reduceToInt, t64]); omega)) only [ia, is', im, ja, js, ir, idv, Int32.reduceToInt, Int64.reduceToInt, t64]); omega)) only [ia, is', im, ja, js, ir, idv, Int32.reduceToInt, Int64.reduceToInt, t64] at cc)); (all_goals (try simp only [h_taped, h_fault, h_faultAt, h_clauses, h_turnsTold, h_held, h_sorts, h_things, h_chestSort, h_storedThing, h_rot] at cc)); (all_goals (try simp only [not_true_eq_false, eq_self] at cc)); all_goals omega)) (fun c26 => ?_)
    refine WP_aload_n dX11_rate_29 rfl ?_
    refine WP_iload dX11_rate_30 rfl ?_
    refine WP_iload_n dX11_rate_32 rfl ?_
    refine WP_callV2 (k := 11) dX11_rate_33 ⟨⟨⟨by decide, by decide⟩, zX11_worthOf⟩, lX11_502, by decide, rfl, vX11_worthOf.1, vX11_worthOf.2⟩ (ly_is hy _ _ rfl) (s_worthOf hy hr hmc0 _ _ (by simp only [t64, Int64.reduceToInt] at c9; exact c9)) (Nat.le_of_ble_eq_true rfl) ?_
    rintro r I3 J3 R3 ⟨rfl, hm3, eR⟩
    rw [eR]
    simp only [Option.toList, List.cons_append, List.nil_append]
    refine WP_istore (ls' := [(0, _), (1, _), (2, _), (3, _), (4, _), (5, _)]) dX11_rate_36 (by decide) rfl ?_
    refine WP_iload dX11_rate_38 rfl ?_
    refine WP_iload_n dX11_rate_40 rfl ?_
    refine WP_icmp_gt 47 dX11_rate_41 rfl (fun c41 => ?_) (fun c41 => absurd c41 (by decide))
    refine WP_iload dX11_rate_47 rfl ?_
    refine WP_istore_n (ls' := [(0, _), (1, _), (2, _), (3, _), (4, _), (5, _)]) dX11_rate_49 (by decide) rfl ?_
    refine WP_iload dX11_rate_50 rfl ?_
    refine WP_istore_n (ls' := [(0, _), (1, _), (2, _), (3, _), (4, _), (5, _)]) dX11_rate_52 (by decide) rfl ?_
    refine WP_iinc (ls' := [(0, _), (1, _), (2, _), (3, _), (4, _), (5, _)]) dX11_rate_53 rfl (by decide) rfl ?_
    refine WP_goto 22 dX11_rate_56 rfl ?_
    rw [if_pos (by simp only [t64, Int64.reduceToInt] at c9; exact c9)]
    refine WP_sub (ls' := [(0, .ref (ad g P_o)), (1, .int a), (2, .int 0), (3, .int 0), (4, .int (nI 1))]) (fc rfl (fc rfl (fc rfl (fc rfl (fc (congrArg (fun z => some (Value.int z)) (show (0 : Int32) + Int32.ofInt 1 = nI 1 by decide)) fn))))) (l_rate (I := I) (J := J) hy hr a (by simp only [t64, Int64.reduceToInt] at c9; exact c9) 0 rfl 18 1 _ _ (by omega) ?_)
    exact ⟨hm3, by omega⟩
  · refine WP_bipush (-2) dX11_rate_12 rfl ?_
    exact WP_iret dX11_rate_14 rfl (by unfold rq; (try simp only [h_taped, h_fault, h_faultAt, h_clauses, h_turnsTold, h_held, h_sorts, h_things, h_chestSort, h_storedThing, h_rot] at c0 c9 ⊢); (all_goals (try simp only [cmp_lt, cmp_gt] at c0 c9 ⊢)); (all_goals (try simp only [le32, lt32, eq32, t64, vp_in_iff, Int32.reduceToInt, Int64.reduceToInt] at c0 c9)); (all_goals (try simp (disch := ((try simp (disch := ((try simp (disch := omega) only [ia, is', im, ja, js, ir, idv, Int32.reduceToInt, Int64.reduceToInt, t64]); omega)) only [ia, is', im, ja, js, ir, idv, Int32.reduceToInt, Int64.reduceToInt, t64]); omega)) only [ia, is', im, ja, js, ir, idv, Int32.reduceToInt, Int64.reduceToInt, t64] at c0 c9 ⊢)); (all_goals (try simp only [h_taped, h_fault, h_faultAt, h_clauses, h_turnsTold, h_held, h_sorts, h_things, h_chestSort, h_storedThing, h_rot] at c0 c9 ⊢)); (all_goals (first | rfl | (rw [if_pos (by omega)]; done) | (rw [if_neg (by omega)]; done) | (rw [if_neg (by omega), if_pos (by omega)]; done) | (rw [if_neg (by omega), if_neg (by omega)]; done) | (exfalso; omega))))
set_option maxHeartbeats 4000000 in
set_option maxRecDepth 100000 in
theorem s_turn {g : GG} {I : pI} {J : pJ} {R : pR} (hy : Ly g) (hr : Rf g R) (hmc : MC g I)  : SP g mX11_turn [.ref (ad g P_o)] I J R (rm g 0 R) := by
  refine SP_of ⟨by decide, rfl⟩ (Nat.le_of_ble_eq_true rfl) ?_
  have c0 : True := trivial
  have hm1 : MC g (pp I (ad g P_o) 64 1) := MC_p hy hmc 64 _ (by decide)
  refine WP_aload_n dX11_turn_0 rfl ?_
  refine WP_iconst (1) dX11_turn_1 rfl ?_
  refine WP_putz dX11_turn_2 fX11_470 rfl rfl (by decide) (ly_is hy _ _ rfl) ?_
  refine WP_aload_n dX11_turn_5 rfl ?_
  refine WP_bipush (7) dX11_turn_6 rfl ?_
  refine WP_callV1 (k := 11) dX11_turn_8 ⟨⟨⟨by decide, by decide⟩, zX11_runTrial⟩, lX11_497, by decide, rfl, vX11_runTrial.1, vX11_runTrial.2⟩ (ly_is hy _ _ rfl) (s_runTrial hy hr hm1 _ 7 rfl) (Nat.le_of_ble_eq_true rfl) ?_
  rintro r I4 J4 R4 ⟨rfl, hx4, eJ, eR⟩
  rw [eJ, eR]
  simp only [Option.toList, List.cons_append, List.nil_append]
  have hm4 : MC g I4 := MC_fx hm1 hx4 (by decide)
  have hm5 : MC g (pp I4 (ad g P_o) 64 0) := MC_p hy hm4 64 _ (by decide)
  have hm6 := hm5
  obtain ⟨h_sorts, h_things, h_chestSort, h_storedThing, h_rot⟩ := hm5
  refine WP_aload_n dX11_turn_11 rfl ?_
  refine WP_iconst (0) dX11_turn_12 rfl ?_
  refine WP_putz dX11_turn_13 fX11_470 rfl rfl (by decide) (ly_is hy _ _ rfl) ?_
  refine WP_iconst (0) dX11_turn_16 rfl ?_
  refine WP_istore_n (ls' := [(0, _), (1, _)]) dX11_turn_17 (by decide) rfl ?_
  refine WP_iconst (0) dX11_turn_18 rfl ?_
  refine WP_istore_n (ls' := [(0, _), (1, _), (2, _)]) dX11_turn_19 (by decide) rfl ?_
  refine WP_iload_n dX11_turn_20 rfl ?_
  refine WP_bipush (7) dX11_turn_21 rfl ?_
  refine WP_aload_n dX11_turn_23 rfl ?_
  refine WP_geti dX11_turn_24 fX11_332 rfl (ly_is hy _ _ rfl) ?_
  refine WP_imul dX11_turn_27 ?_
  refine WP_icmp_ge 145 dX11_turn_28 rfl (fun c28 => ?_) (fun c28 => absurd c28 (by intro cc; (try simp only [h_sorts, h_things, h_chestSort, h_storedThing, h_rot] at cc); (all_goals (try simp only [cmp_lt, cmp_gt] at cc)); (all_goals (try simp only [le32, lt32, eq32, t64, Int32.reduceToInt, Int64.reduceToInt] at cc)); (all_goals (try simp (disch := ((try simp (disch := ((try simp (disch := omega) only [ia, is', im, ja, js, ir, idv, Int32.reduceToInt, Int64.reduceToInt, t64]); omega)) only [ia, is', im, ja, js, ir, idv, Int32.reduceToInt, Int64.reduceToInt, t64]); omega)) only [ia, is', im, ja, js, ir, idv, Int32.reduceToInt, Int64.reduceToInt, t64] at cc)); (all_goals (try simp only [h_sorts, h_things, h_chestSort, h_storedThing, h_rot] at cc)); (all_goals (try simp only [not_true_eq_false, eq_self] at cc)); all_goals omega))
  refine WP_aload_n dX11_turn_145 rfl ?_
  refine WP_callV0 (k := 11) dX11_turn_146 ⟨⟨⟨by decide, by decide⟩, zX11_forgetWeeks⟩, lX11_350, by decide, rfl, vX11_forgetWeeks.1, vX11_forgetWeeks.2⟩ (ly_is hy _ _ rfl) (s_forgetWeeks hy hr) (Nat.le_of_ble_eq_true rfl) ?_
  rintro r I5 J5 R5 ⟨rfl, hx5, eJ, eR⟩
  rw [eJ, eR]
  simp only [Option.toList, List.cons_append, List.nil_append]
  refine WP_iload_n dX11_turn_149 rfl ?_
  exact WP_zret dX11_turn_150 rfl rfl ⟨rfl, MC_fx hm6 hx5 (by decide), rfl⟩
set_option maxHeartbeats 4000000 in
set_option maxRecDepth 100000 in
theorem fr_rest {g : GG} {I : pI} {J : pJ} {R : pR} (hy : Ly g) (hr : Rf g R) (hf : MF g I J) (a : Int32) : SP g mX11_rest [.ref (ad g P_o), .int a] I J R (rq (if 0 ≤ a.toInt ∧ a.toInt ≤ 1 then 1 else -2)) := by
  refine SP_of ⟨by decide, rfl⟩ (Nat.le_of_ble_eq_true rfl) ?_
  have c0 : True := trivial
  obtain ⟨hmc, h_taped, h_fault, h_faultAt, h_clauses, h_turnsTold, h_held, h_now, h_kept⟩ := hf
  have hmc0 := hmc
  obtain ⟨h_sorts, h_things, h_chestSort, h_storedThing, h_rot⟩ := hmc
  refine WP_iload_n dX11_rest_0 rfl ?_
  refine WP_i2l dX11_rest_1 ?_
  refine WP_lconst (0) dX11_rest_2 rfl ?_
  refine WP_lconst (1) dX11_rest_3 rfl ?_
  refine WP_callS3p dX11_rest_4 ⟨⟨⟨by decide, by decide⟩, zX11_in⟩, lX11_52, tX11_in⟩ (s_in _ _ _) (Nat.le_of_ble_eq_true rfl) ?_
  refine WP_ifb_ne 13 dX11_rest_7 rfl (fun c7 => ?_) (fun c7 => ?_)
  · refine WP_iconst (0) dX11_rest_13 rfl ?_
    refine WP_istore_n (ls' := [(0, _), (1, _), (2, _)]) dX11_rest_14 (by decide) rfl ?_
    refine WP_iload_n dX11_rest_15 rfl ?_
    refine WP_bipush (7) dX11_rest_16 rfl ?_
    refine WP_aload_n dX11_rest_18 rfl ?_
    refine WP_geti dX11_rest_19 fX11_332 rfl (ly_is hy _ _ rfl) ?_
    refine WP_imul dX11_rest_22 ?_
    refine WP_icmp_ge 49 dX11_rest_23 rfl (fun c23 => ?_) (fun c23 => absurd c23 (by intro cc; (try simp only [h_taped, h_fault, h_faultAt, h_clauses, h_turnsTold, h_held, h_sorts, h_things, h_chestSort, h_storedThing, h_rot] at cc); (all_goals (try simp only [cmp_lt, cmp_gt] at cc)); (all_goals (try simp only [le32, lt32, eq32, t64, Int32.reduceToInt, Int64.reduceToInt] at cc)); (all_goals (try simp (disch := ((try simp (disch := ((try simp (disch := omega) only [ia, is', im, ja, js, ir, idv, Int32.reduceToInt, Int64.reduceToInt, t64]); omega)) only [ia, is', im, ja, js, ir, idv, Int32.reduceToInt, Int64.reduceToInt, t64]); omega)) only [ia, is', im, ja, js, ir, idv, Int32.reduceToInt, Int64.reduceToInt, t64] at cc)); (all_goals (try simp only [h_taped, h_fault, h_faultAt, h_clauses, h_turnsTold, h_held, h_sorts, h_things, h_chestSort, h_storedThing, h_rot] at cc)); (all_goals (try simp only [not_true_eq_false, eq_self] at cc)); all_goals omega))
    refine WP_aload_n dX11_rest_49 rfl ?_
    refine WP_callV0 (k := 11) dX11_rest_50 ⟨⟨⟨by decide, by decide⟩, zX11_forgetWeeks⟩, lX11_350, by decide, rfl, vX11_forgetWeeks.1, vX11_forgetWeeks.2⟩ (ly_is hy _ _ rfl) (s_forgetWeeks hy hr) (Nat.le_of_ble_eq_true rfl) ?_
    rintro r I3 J3 R3 ⟨rfl, hx3, eJ, eR⟩
    rw [eJ, eR]
    simp only [Option.toList, List.cons_append, List.nil_append]
    have hm3 : MC g I3 := MC_fx hmc0 hx3 (by decide)
    refine WP_aload_n dX11_rest_53 rfl ?_
    refine WP_iconst (0) dX11_rest_54 rfl ?_
    refine WP_puti dX11_rest_55 fX11_304 rfl rfl (ly_is hy _ _ rfl) ?_
    refine WP_iconst (1) dX11_rest_58 rfl ?_
    refine WP_istore_n (ls' := [(0, _), (1, _), (2, _)]) dX11_rest_59 (by decide) rfl ?_
    refine WP_iload_n dX11_rest_60 rfl ?_
    refine WP_if_eq 91 dX11_rest_61 rfl (fun c61 => absurd c61 (by decide)) (fun c61 => ?_)
    refine WP_aload_n dX11_rest_64 rfl ?_
    refine WP_geti dX11_rest_65 fX11_304 rfl (ly_is hy _ _ rfl) ?_
    refine WP_bipush (60) dX11_rest_68 rfl ?_
    refine WP_icmp_ge 91 dX11_rest_70 rfl (fun c70 => absurd c70 (by rw [pp_self]; decide)) (fun c70 => ?_)
    refine WP_aload_n dX11_rest_73 rfl ?_
    refine WP_callV0 (k := 11) dX11_rest_74 ⟨⟨⟨by decide, by decide⟩, zX11_turn⟩, lX11_505, by decide, rfl, vX11_turn.1, vX11_turn.2⟩ (ly_is hy _ _ rfl) (s_turn hy hr (MC_p hy hm3 68 _ (by decide))) (Nat.le_of_ble_eq_true rfl) ?_
    rintro r I4 J4 R4 ⟨rfl, hm4, eR⟩
    rw [eR]
    simp only [Option.toList, List.cons_append, List.nil_append]
    refine WP_istore_n (ls' := [(0, _), (1, _), (2, _)]) dX11_rest_77 (by decide) rfl ?_
    refine WP_aload_n dX11_rest_78 rfl ?_
    refine WP_dup dX11_rest_79 rfl ?_
    refine WP_geti dX11_rest_80 fX11_304 rfl (ly_is hy _ _ rfl) ?_
    refine WP_iconst (1) dX11_rest_83 rfl ?_
    refine WP_iadd dX11_rest_84 ?_
    refine WP_puti dX11_rest_85 fX11_304 rfl rfl (ly_is hy _ _ rfl) ?_
    refine WP_goto 60 dX11_rest_88 rfl ?_
    refine WP_iload_n dX11_rest_60 rfl ?_
    refine WP_if_eq 91 dX11_rest_61 rfl (fun c61 => ?_) (fun c61 => absurd c61 (by decide))
    refine WP_iload_n dX11_rest_91 rfl ?_
    refine WP_if_eq 99 dX11_rest_92 rfl (fun c92 => ?_) (fun c92 => absurd c92 (by decide))
    refine WP_iconst (1) dX11_rest_99 rfl ?_
    exact WP_iret dX11_rest_100 rfl (by unfold rq; (try simp only [h_taped, h_fault, h_faultAt, h_clauses, h_turnsTold, h_held, h_sorts, h_things, h_chestSort, h_storedThing, h_rot] at c0 c7 c23 c61 c70 c61 c92 ⊢); (all_goals (try simp only [cmp_lt, cmp_gt] at c0 c7 c23 c61 c70 c61 c92 ⊢)); (all_goals (try simp only [le32, lt32, eq32, t64, vp_in_iff, Int32.reduceToInt, Int64.reduceToInt] at c0 c7 c23 c61 c70 c61 c92)); (all_goals (try simp (disch := ((try simp (disch := ((try simp (disch := omega) only [ia, is', im, ja, js, ir, idv, Int32.reduceToInt, Int64.reduceToInt, t64]); omega)) only [ia, is', im, ja, js, ir, idv, Int32.reduceToInt, Int64.reduceToInt, t64]); omega)) only [ia, is', im, ja, js, ir, idv, Int32.reduceToInt, Int64.reduceToInt, t64] at c0 c7 c23 c61 c70 c61 c92 ⊢)); (all_goals (try simp only [h_taped, h_fault, h_faultAt, h_clauses, h_turnsTold, h_held, h_sorts, h_things, h_chestSort, h_storedThing, h_rot] at c0 c7 c23 c61 c70 c61 c92 ⊢)); (all_goals (first | rfl | (rw [if_pos (by omega)]; done) | (rw [if_neg (by omega)]; done) | (rw [if_neg (by omega), if_pos (by omega)]; done) | (rw [if_neg (by omega), if_neg (by omega)]; done) | (exfalso; omega))))
  · refine WP_bipush (-2) dX11_rest_10 rfl ?_
    exact WP_iret dX11_rest_12 rfl (by unfold rq; (try simp only [h_taped, h_fault, h_faultAt, h_clauses, h_turnsTold, h_held, h_sorts, h_things, h_chestSort, h_storedThing, h_rot] at c0 c7 ⊢); (all_goals (try simp only [cmp_lt, cmp_gt] at c0 c7 ⊢)); (all_goals (try simp only [le32, lt32, eq32, t64, vp_in_iff, Int32.reduceToInt, Int64.reduceToInt] at c0 c7)); (all_goals (try simp (disch := ((try simp (disch := ((try simp (disch := omega) only [ia, is', im, ja, js, ir, idv, Int32.reduceToInt, Int64.reduceToInt, t64]); omega)) only [ia, is', im, ja, js, ir, idv, Int32.reduceToInt, Int64.reduceToInt, t64]); omega)) only [ia, is', im, ja, js, ir, idv, Int32.reduceToInt, Int64.reduceToInt, t64] at c0 c7 ⊢)); (all_goals (try simp only [h_taped, h_fault, h_faultAt, h_clauses, h_turnsTold, h_held, h_sorts, h_things, h_chestSort, h_storedThing, h_rot] at c0 c7 ⊢)); (all_goals (first | rfl | (rw [if_pos (by omega)]; done) | (rw [if_neg (by omega)]; done) | (rw [if_neg (by omega), if_pos (by omega)]; done) | (rw [if_neg (by omega), if_neg (by omega)]; done) | (exfalso; omega))))
set_option maxHeartbeats 4000000 in
set_option maxRecDepth 100000 in
theorem s_isMeet {g : GG} {I : pI} {J : pJ} {R : pR} (a b c : Int32) : SP g mX11_isMeet [.int a, .int b, .int c] I J R (pq (.int (if (0 ≤ a.toInt ∧ a.toInt ≤ 100) ∧ (0 ≤ b.toInt ∧ b.toInt ≤ 900) ∧ (0 ≤ c.toInt ∧ c.toInt ≤ 40) then 1 else 0)) I J R) := by
  refine SP_of ⟨by decide, rfl⟩ (Nat.le_of_ble_eq_true rfl) ?_
  have c0 : True := trivial
  refine WP_iload_n dX11_isMeet_0 rfl ?_
  refine WP_i2l dX11_isMeet_1 ?_
  refine WP_lconst (0) dX11_isMeet_2 rfl ?_
  refine WP_ldc2 (100) dX11_isMeet_3 klX11_517 ?_
  refine WP_callS3p dX11_isMeet_6 ⟨⟨⟨by decide, by decide⟩, zX11_in⟩, lX11_52, tX11_in⟩ (s_in _ _ _) (Nat.le_of_ble_eq_true rfl) ?_
  refine WP_ifb_eq 40 dX11_isMeet_9 rfl (fun c9 => ?_) (fun c9 => ?_)
  · refine WP_iconst (0) dX11_isMeet_40 rfl ?_
    exact WP_zret dX11_isMeet_41 rfl rfl ⟨(by simp only [t64, Int64.reduceToInt] at c9; first | (rw [if_pos (by omega)]; done) | (rw [if_neg (by omega)]; done)), rfl, rfl, rfl⟩
  · refine WP_iload_n dX11_isMeet_12 rfl ?_
    refine WP_i2l dX11_isMeet_13 ?_
    refine WP_lconst (0) dX11_isMeet_14 rfl ?_
    refine WP_ldc2 (900) dX11_isMeet_15 klX11_536 ?_
    refine WP_callS3p dX11_isMeet_18 ⟨⟨⟨by decide, by decide⟩, zX11_in⟩, lX11_52, tX11_in⟩ (s_in _ _ _) (Nat.le_of_ble_eq_true rfl) ?_
    refine WP_ifb_eq 40 dX11_isMeet_21 rfl (fun c21 => ?_) (fun c21 => ?_)
    · refine WP_iconst (0) dX11_isMeet_40 rfl ?_
      exact WP_zret dX11_isMeet_41 rfl rfl ⟨(by simp only [t64, Int64.reduceToInt] at c9 c21; first | (rw [if_pos (by omega)]; done) | (rw [if_neg (by omega)]; done)), rfl, rfl, rfl⟩
    · refine WP_iload_n dX11_isMeet_24 rfl ?_
      refine WP_i2l dX11_isMeet_25 ?_
      refine WP_lconst (0) dX11_isMeet_26 rfl ?_
      refine WP_ldc2 (40) dX11_isMeet_27 klX11_538 ?_
      refine WP_callS3p dX11_isMeet_30 ⟨⟨⟨by decide, by decide⟩, zX11_in⟩, lX11_52, tX11_in⟩ (s_in _ _ _) (Nat.le_of_ble_eq_true rfl) ?_
      refine WP_ifb_eq 40 dX11_isMeet_33 rfl (fun c33 => ?_) (fun c33 => ?_)
      · refine WP_iconst (0) dX11_isMeet_40 rfl ?_
        exact WP_zret dX11_isMeet_41 rfl rfl ⟨(by simp only [t64, Int64.reduceToInt] at c9 c21 c33; first | (rw [if_pos (by omega)]; done) | (rw [if_neg (by omega)]; done)), rfl, rfl, rfl⟩
      · refine WP_iconst (1) dX11_isMeet_36 rfl ?_
        refine WP_goto 41 dX11_isMeet_37 rfl ?_
        exact WP_zret dX11_isMeet_41 rfl rfl ⟨(by simp only [t64, Int64.reduceToInt] at c9 c21 c33; first | (rw [if_pos (by omega)]; done) | (rw [if_neg (by omega)]; done)), rfl, rfl, rfl⟩
set_option maxHeartbeats 4000000 in
set_option maxRecDepth 100000 in
theorem fr_rests {g : GG} {I : pI} {J : pJ} {R : pR} (hy : Ly g) (hr : Rf g R) (hf : MF g I J) (a b c : Int32) : SP g mX11_rests [.ref (ad g P_o), .int a, .int b, .int c] I J R (rq (if (0 ≤ a.toInt ∧ a.toInt ≤ 100) ∧ (0 ≤ b.toInt ∧ b.toInt ≤ 900) ∧ (0 ≤ c.toInt ∧ c.toInt ≤ 40) then 1 else -2)) := by
  refine SP_of ⟨by decide, rfl⟩ (Nat.le_of_ble_eq_true rfl) ?_
  have c0 : True := trivial
  obtain ⟨hmc, h_taped, h_fault, h_faultAt, h_clauses, h_turnsTold, h_held, h_now, h_kept⟩ := hf
  have hmc0 := hmc
  obtain ⟨h_sorts, h_things, h_chestSort, h_storedThing, h_rot⟩ := hmc
  refine WP_iload_n dX11_rests_0 rfl ?_
  refine WP_iload_n dX11_rests_1 rfl ?_
  refine WP_iload_n dX11_rests_2 rfl ?_
  refine WP_callS3p dX11_rests_3 ⟨⟨⟨by decide, by decide⟩, zX11_isMeet⟩, lX11_540, tX11_isMeet⟩ (s_isMeet _ _ _) (Nat.le_of_ble_eq_true rfl) ?_
  refine WP_ifb_ne 12 dX11_rests_6 rfl (fun c6 => ?_) (fun c6 => ?_)
  · refine WP_iconst (0) dX11_rests_12 rfl ?_
    refine WP_istore (ls' := [(0, _), (1, _), (2, _), (3, _), (4, _)]) dX11_rests_13 (by decide) rfl ?_
    refine WP_iconst (0) dX11_rests_15 rfl ?_
    refine WP_istore (ls' := [(0, _), (1, _), (2, _), (3, _), (4, _), (5, _)]) dX11_rests_16 (by decide) rfl ?_
    refine WP_iload dX11_rests_18 rfl ?_
    refine WP_iconst (1) dX11_rests_20 rfl ?_
    refine WP_aload_n dX11_rests_21 rfl ?_
    refine WP_geti dX11_rests_22 fX11_329 rfl (ly_is hy _ _ rfl) ?_
    refine WP_ishl dX11_rests_25 ?_
    refine WP_icmp_ge 146 dX11_rests_26 rfl (fun c26 => absurd c26 (by rw [h_sorts]; decide)) (fun c26 => ?_)
    refine WP_iconst (1) dX11_rests_29 rfl ?_
    refine WP_istore (ls' := [(0, _), (1, _), (2, _), (3, _), (4, _), (5, _), (6, _)]) dX11_rests_30 (by decide) rfl ?_
    refine WP_iconst (0) dX11_rests_32 rfl ?_
    refine WP_istore (ls' := [(0, _), (1, _), (2, _), (3, _), (4, _), (5, _), (6, _), (7, _)]) dX11_rests_33 (by decide) rfl ?_
    refine WP_iload dX11_rests_35 rfl ?_
    refine WP_aload_n dX11_rests_37 rfl ?_
    refine WP_geti dX11_rests_38 fX11_329 rfl (ly_is hy _ _ rfl) ?_
    refine WP_icmp_ge 122 dX11_rests_41 rfl (fun c41 => ?_) (fun c41 => absurd c41 (by rw [h_sorts]; decide))
    refine WP_iload dX11_rests_122 rfl ?_
    refine WP_iload dX11_rests_124 rfl ?_
    refine WP_if_eq 136 dX11_rests_126 rfl (fun c126 => absurd c126 (by decide)) (fun c126 => ?_)
    refine WP_iconst (1) dX11_rests_129 rfl ?_
    refine WP_iload dX11_rests_130 rfl ?_
    refine WP_ishl dX11_rests_132 ?_
    refine WP_goto 137 dX11_rests_133 rfl ?_
    refine WP_ior dX11_rests_137 ?_
    refine WP_istore (ls' := [(0, _), (1, _), (2, _), (3, _), (4, _), (5, _), (6, _), (7, _)]) dX11_rests_138 (by decide) rfl ?_
    refine WP_iinc (ls' := [(0, _), (1, _), (2, _), (3, _), (4, _), (5, _), (6, _), (7, _)]) dX11_rests_140 rfl (by decide) rfl ?_
    refine WP_goto 18 dX11_rests_143 rfl ?_
    refine WP_iload dX11_rests_18 rfl ?_
    refine WP_iconst (1) dX11_rests_20 rfl ?_
    refine WP_aload_n dX11_rests_21 rfl ?_
    refine WP_geti dX11_rests_22 fX11_329 rfl (ly_is hy _ _ rfl) ?_
    refine WP_ishl dX11_rests_25 ?_
    refine WP_icmp_ge 146 dX11_rests_26 rfl (fun c26 => ?_) (fun c26 => absurd c26 (by rw [h_sorts]; decide))
    refine WP_iload dX11_rests_146 rfl ?_
    exact WP_iret dX11_rests_148 rfl (by unfold rq; rw [if_pos c6]; rfl)
  · refine WP_bipush (-2) dX11_rests_9 rfl ?_
    exact WP_iret dX11_rests_11 rfl (by unfold rq; rw [if_neg c6])
