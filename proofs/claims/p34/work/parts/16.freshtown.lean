set_option maxHeartbeats 4000000 in
set_option maxRecDepth 100000 in
theorem s_putFour {g : GG} {I : pI} {J : pJ} {R : pR} (hy : Ly g) (hr : Rf g R) (v : Int32) (ht : 0 ≤ (I (ad g P_o) 1).toInt ∧ (I (ad g P_o) 1).toInt ≤ 896) : SP g mX11_putFour [.ref (ad g P_o), .int v] I J R (fun r I' J' R' => r = none ∧ (I' (ad g P_o) 1).toInt = (I (ad g P_o) 1).toInt + 4 ∧ fx g [P_o, P_o_tape] I I' ∧ J' = J ∧ R' = R) := by
  refine SP_of ⟨by decide, rfl⟩ (Nat.le_of_ble_eq_true rfl) ?_
  have c0 : True := trivial
  have e1 : (1 : Int32).toInt = 1 := rfl
  have a1 : (I (ad g P_o) 1 + 1).toInt = (I (ad g P_o) 1).toInt + 1 := by rw [ia (by rw [e1]; omega) (by rw [e1]; omega), e1]
  have a2 : (I (ad g P_o) 1 + 1 + 1).toInt = (I (ad g P_o) 1).toInt + 2 := by rw [ia (by rw [a1, e1]; omega) (by rw [a1, e1]; omega), a1, e1]; omega
  have a3 : (I (ad g P_o) 1 + 1 + 1 + 1).toInt = (I (ad g P_o) 1).toInt + 3 := by rw [ia (by rw [a2, e1]; omega) (by rw [a2, e1]; omega), a2, e1]; omega
  have a4 : (I (ad g P_o) 1 + 1 + 1 + 1 + 1).toInt = (I (ad g P_o) 1).toInt + 4 := by rw [ia (by rw [a3, e1]; omega) (by rw [a3, e1]; omega), a3, e1]; omega
  refine WP_bipush (24) dX11_putFour_0 rfl ?_
  refine WP_istore_n (ls' := [(0, _), (1, _), (2, _)]) dX11_putFour_2 (by decide) rfl ?_
  refine WP_iload_n dX11_putFour_3 rfl ?_
  refine WP_if_lt 36 dX11_putFour_4 rfl (fun c4 => absurd c4 (by decide)) (fun c4 => ?_)
  refine WP_aload_n dX11_putFour_7 rfl ?_
  refine WP_getr dX11_putFour_8 fX11_16 rfl (ly_is hy _ _ rfl) (rf hr 0 0 1 (by decide)) ?_
  refine WP_aload_n dX11_putFour_11 rfl ?_
  refine WP_geti dX11_putFour_12 fX11_75 rfl (ly_is hy _ _ rfl) ?_
  try rw [pp_off _ _ (ly_ne hy (show P_o ≠ P_o_tape by decide) (by decide) (by decide))]
  try rw [pp_self]
  refine WP_iload_n dX11_putFour_15 rfl ?_
  refine WP_iload_n dX11_putFour_16 rfl ?_
  refine WP_ishr dX11_putFour_17 ?_
  refine WP_i2b dX11_putFour_18 ?_
  refine WP_bast dX11_putFour_19 (ly_is hy _ _ rfl) (ly_in hy _ _ rfl (by rw [vp_in_iff]; (try simp only [a1, a2, a3, a4]); constructor <;> omega)) ?_
  refine WP_aload_n dX11_putFour_20 rfl ?_
  refine WP_dup dX11_putFour_21 rfl ?_
  refine WP_geti dX11_putFour_22 fX11_75 rfl (ly_is hy _ _ rfl) ?_
  try rw [pp_off _ _ (ly_ne hy (show P_o ≠ P_o_tape by decide) (by decide) (by decide))]
  try rw [pp_self]
  refine WP_iconst (1) dX11_putFour_25 rfl ?_
  refine WP_iadd dX11_putFour_26 ?_
  refine WP_puti dX11_putFour_27 fX11_75 rfl rfl (ly_is hy _ _ rfl) ?_
  refine WP_iinc (ls' := [(0, _), (1, _), (2, _)]) dX11_putFour_30 rfl (by decide) rfl ?_
  refine WP_goto 3 dX11_putFour_33 rfl ?_
  refine WP_iload_n dX11_putFour_3 rfl ?_
  refine WP_if_lt 36 dX11_putFour_4 rfl (fun c4 => absurd c4 (by decide)) (fun c4 => ?_)
  refine WP_aload_n dX11_putFour_7 rfl ?_
  refine WP_getr dX11_putFour_8 fX11_16 rfl (ly_is hy _ _ rfl) (rf hr 0 0 1 (by decide)) ?_
  refine WP_aload_n dX11_putFour_11 rfl ?_
  refine WP_geti dX11_putFour_12 fX11_75 rfl (ly_is hy _ _ rfl) ?_
  try rw [pp_off _ _ (ly_ne hy (show P_o ≠ P_o_tape by decide) (by decide) (by decide))]
  try rw [pp_self]
  refine WP_iload_n dX11_putFour_15 rfl ?_
  refine WP_iload_n dX11_putFour_16 rfl ?_
  refine WP_ishr dX11_putFour_17 ?_
  refine WP_i2b dX11_putFour_18 ?_
  refine WP_bast dX11_putFour_19 (ly_is hy _ _ rfl) (ly_in hy _ _ rfl (by rw [vp_in_iff]; (try simp only [a1, a2, a3, a4]); constructor <;> omega)) ?_
  refine WP_aload_n dX11_putFour_20 rfl ?_
  refine WP_dup dX11_putFour_21 rfl ?_
  refine WP_geti dX11_putFour_22 fX11_75 rfl (ly_is hy _ _ rfl) ?_
  try rw [pp_off _ _ (ly_ne hy (show P_o ≠ P_o_tape by decide) (by decide) (by decide))]
  try rw [pp_self]
  refine WP_iconst (1) dX11_putFour_25 rfl ?_
  refine WP_iadd dX11_putFour_26 ?_
  refine WP_puti dX11_putFour_27 fX11_75 rfl rfl (ly_is hy _ _ rfl) ?_
  refine WP_iinc (ls' := [(0, _), (1, _), (2, _)]) dX11_putFour_30 rfl (by decide) rfl ?_
  refine WP_goto 3 dX11_putFour_33 rfl ?_
  refine WP_iload_n dX11_putFour_3 rfl ?_
  refine WP_if_lt 36 dX11_putFour_4 rfl (fun c4 => absurd c4 (by decide)) (fun c4 => ?_)
  refine WP_aload_n dX11_putFour_7 rfl ?_
  refine WP_getr dX11_putFour_8 fX11_16 rfl (ly_is hy _ _ rfl) (rf hr 0 0 1 (by decide)) ?_
  refine WP_aload_n dX11_putFour_11 rfl ?_
  refine WP_geti dX11_putFour_12 fX11_75 rfl (ly_is hy _ _ rfl) ?_
  try rw [pp_off _ _ (ly_ne hy (show P_o ≠ P_o_tape by decide) (by decide) (by decide))]
  try rw [pp_self]
  refine WP_iload_n dX11_putFour_15 rfl ?_
  refine WP_iload_n dX11_putFour_16 rfl ?_
  refine WP_ishr dX11_putFour_17 ?_
  refine WP_i2b dX11_putFour_18 ?_
  refine WP_bast dX11_putFour_19 (ly_is hy _ _ rfl) (ly_in hy _ _ rfl (by rw [vp_in_iff]; (try simp only [a1, a2, a3, a4]); constructor <;> omega)) ?_
  refine WP_aload_n dX11_putFour_20 rfl ?_
  refine WP_dup dX11_putFour_21 rfl ?_
  refine WP_geti dX11_putFour_22 fX11_75 rfl (ly_is hy _ _ rfl) ?_
  try rw [pp_off _ _ (ly_ne hy (show P_o ≠ P_o_tape by decide) (by decide) (by decide))]
  try rw [pp_self]
  refine WP_iconst (1) dX11_putFour_25 rfl ?_
  refine WP_iadd dX11_putFour_26 ?_
  refine WP_puti dX11_putFour_27 fX11_75 rfl rfl (ly_is hy _ _ rfl) ?_
  refine WP_iinc (ls' := [(0, _), (1, _), (2, _)]) dX11_putFour_30 rfl (by decide) rfl ?_
  refine WP_goto 3 dX11_putFour_33 rfl ?_
  refine WP_iload_n dX11_putFour_3 rfl ?_
  refine WP_if_lt 36 dX11_putFour_4 rfl (fun c4 => absurd c4 (by decide)) (fun c4 => ?_)
  refine WP_aload_n dX11_putFour_7 rfl ?_
  refine WP_getr dX11_putFour_8 fX11_16 rfl (ly_is hy _ _ rfl) (rf hr 0 0 1 (by decide)) ?_
  refine WP_aload_n dX11_putFour_11 rfl ?_
  refine WP_geti dX11_putFour_12 fX11_75 rfl (ly_is hy _ _ rfl) ?_
  try rw [pp_off _ _ (ly_ne hy (show P_o ≠ P_o_tape by decide) (by decide) (by decide))]
  try rw [pp_self]
  refine WP_iload_n dX11_putFour_15 rfl ?_
  refine WP_iload_n dX11_putFour_16 rfl ?_
  refine WP_ishr dX11_putFour_17 ?_
  refine WP_i2b dX11_putFour_18 ?_
  refine WP_bast dX11_putFour_19 (ly_is hy _ _ rfl) (ly_in hy _ _ rfl (by rw [vp_in_iff]; (try simp only [a1, a2, a3, a4]); constructor <;> omega)) ?_
  refine WP_aload_n dX11_putFour_20 rfl ?_
  refine WP_dup dX11_putFour_21 rfl ?_
  refine WP_geti dX11_putFour_22 fX11_75 rfl (ly_is hy _ _ rfl) ?_
  try rw [pp_off _ _ (ly_ne hy (show P_o ≠ P_o_tape by decide) (by decide) (by decide))]
  try rw [pp_self]
  refine WP_iconst (1) dX11_putFour_25 rfl ?_
  refine WP_iadd dX11_putFour_26 ?_
  refine WP_puti dX11_putFour_27 fX11_75 rfl rfl (ly_is hy _ _ rfl) ?_
  refine WP_iinc (ls' := [(0, _), (1, _), (2, _)]) dX11_putFour_30 rfl (by decide) rfl ?_
  refine WP_goto 3 dX11_putFour_33 rfl ?_
  refine WP_iload_n dX11_putFour_3 rfl ?_
  refine WP_if_lt 36 dX11_putFour_4 rfl (fun c4 => ?_) (fun c4 => absurd c4 (by decide))
  exact WP_vret dX11_putFour_36 rfl ⟨rfl, (by rw [pp_self]; exact a4), fx_pp hy (fx_pp hy (fx_pp hy (fx_pp hy (fx_pp hy (fx_pp hy (fx_pp hy (fx_pp hy fx_rf (by decide) (by decide)) (by decide) (by decide)) (by decide) (by decide)) (by decide) (by decide)) (by decide) (by decide)) (by decide) (by decide)) (by decide) (by decide)) (by decide) (by decide), rfl, rfl⟩
set_option maxHeartbeats 4000000 in
set_option maxRecDepth 100000 in
theorem fr_feed {g : GG} {I : pI} {J : pJ} {R : pR} (hy : Ly g) (hr : Rf g R) (hf : MF g I J) (a b c e f : Int32) : SP g mX11_feed [.ref (ad g P_o), .int a, .int b, .int c, .int e, .int f] I J R (rq 20) := by
  refine SP_of ⟨by decide, rfl⟩ (Nat.le_of_ble_eq_true rfl) ?_
  have c0 : True := trivial
  obtain ⟨hmc, h_taped, h_fault, h_faultAt, h_clauses, h_turnsTold, h_held, h_now, h_kept⟩ := hf
  have hmc0 := hmc
  obtain ⟨h_sorts, h_things, h_chestSort, h_storedThing, h_rot⟩ := hmc
  have ht2 : (I (ad g P_o) 1).toInt = 0 := by rw [h_taped]; rfl
  refine WP_aload_n dX11_feed_0 rfl ?_
  refine WP_geti dX11_feed_1 fX11_75 rfl (ly_is hy _ _ rfl) ?_
  refine WP_bipush (20) dX11_feed_4 rfl ?_
  refine WP_iadd dX11_feed_6 ?_
  refine WP_sipush (900) dX11_feed_7 rfl ?_
  refine WP_icmp_le 16 dX11_feed_10 rfl (fun c10 => ?_) (fun c10 => absurd c10 (by rw [h_taped]; decide))
  refine WP_aload_n dX11_feed_16 rfl ?_
  refine WP_iload_n dX11_feed_17 rfl ?_
  refine WP_callV1 (k := 11) dX11_feed_18 ⟨⟨⟨by decide, by decide⟩, zX11_putFour⟩, lX11_319, by decide, rfl, vX11_putFour.1, vX11_putFour.2⟩ (ly_is hy _ _ rfl) (s_putFour hy hr _ (by omega)) (Nat.le_of_ble_eq_true rfl) ?_
  rintro r I3 J3 R3 ⟨rfl, ht3, hx3, eJ, eR⟩
  rw [eJ, eR]
  simp only [Option.toList, List.cons_append, List.nil_append]
  refine WP_aload_n dX11_feed_21 rfl ?_
  refine WP_iload_n dX11_feed_22 rfl ?_
  refine WP_callV1 (k := 11) dX11_feed_23 ⟨⟨⟨by decide, by decide⟩, zX11_putFour⟩, lX11_319, by decide, rfl, vX11_putFour.1, vX11_putFour.2⟩ (ly_is hy _ _ rfl) (s_putFour hy hr _ (by omega)) (Nat.le_of_ble_eq_true rfl) ?_
  rintro r I4 J4 R4 ⟨rfl, ht4, hx4, eJ, eR⟩
  rw [eJ, eR]
  simp only [Option.toList, List.cons_append, List.nil_append]
  refine WP_aload_n dX11_feed_26 rfl ?_
  refine WP_iload_n dX11_feed_27 rfl ?_
  refine WP_callV1 (k := 11) dX11_feed_28 ⟨⟨⟨by decide, by decide⟩, zX11_putFour⟩, lX11_319, by decide, rfl, vX11_putFour.1, vX11_putFour.2⟩ (ly_is hy _ _ rfl) (s_putFour hy hr _ (by omega)) (Nat.le_of_ble_eq_true rfl) ?_
  rintro r I5 J5 R5 ⟨rfl, ht5, hx5, eJ, eR⟩
  rw [eJ, eR]
  simp only [Option.toList, List.cons_append, List.nil_append]
  refine WP_aload_n dX11_feed_31 rfl ?_
  refine WP_iload dX11_feed_32 rfl ?_
  refine WP_callV1 (k := 11) dX11_feed_34 ⟨⟨⟨by decide, by decide⟩, zX11_putFour⟩, lX11_319, by decide, rfl, vX11_putFour.1, vX11_putFour.2⟩ (ly_is hy _ _ rfl) (s_putFour hy hr _ (by omega)) (Nat.le_of_ble_eq_true rfl) ?_
  rintro r I6 J6 R6 ⟨rfl, ht6, hx6, eJ, eR⟩
  rw [eJ, eR]
  simp only [Option.toList, List.cons_append, List.nil_append]
  refine WP_aload_n dX11_feed_37 rfl ?_
  refine WP_iload dX11_feed_38 rfl ?_
  refine WP_callV1 (k := 11) dX11_feed_40 ⟨⟨⟨by decide, by decide⟩, zX11_putFour⟩, lX11_319, by decide, rfl, vX11_putFour.1, vX11_putFour.2⟩ (ly_is hy _ _ rfl) (s_putFour hy hr _ (by omega)) (Nat.le_of_ble_eq_true rfl) ?_
  rintro r I7 J7 R7 ⟨rfl, ht7, hx7, eJ, eR⟩
  rw [eJ, eR]
  simp only [Option.toList, List.cons_append, List.nil_append]
  refine WP_aload_n dX11_feed_43 rfl ?_
  refine WP_geti dX11_feed_44 fX11_75 rfl (ly_is hy _ _ rfl) ?_
  exact WP_iret dX11_feed_47 rfl (congrArg (fun z => some (Value.int z)) ((eq32 _ _).mpr (by rw [ht7]; have e20 : (20 : Int32).toInt = 20 := rfl; omega)))
set_option maxHeartbeats 4000000 in
set_option maxRecDepth 100000 in
theorem l_copy {g : GG} {I : pI} {J : pJ} {R : pR} (hy : Ly g) (hr : Rf g R) (t f n : Nat) (htk : kT[t]? = some 13) (htn : nT[t]? = some n) (hfk : kT[f]? = some 13) (hfn : nT[f]? = some n) (htl : t < 49 ∧ n < 1000)  : ∀ (m k : Nat) (I2 : pI), k + m = n → fx g [t] I I2 → WP g mX11_copy 2 [(0, .ref (ad g t)), (1, .ref (ad g f)), (2, .int (nI k))] [] I2 J R (fq g [t] I J R) := by
  intro m
  induction m with
  | zero =>
    intro k I2 hk hv
    have hnn : (nI n).toInt = (n : Int) := nI_toInt (by omega)
    have hkt : (nI k).toInt = (k : Int) := nI_toInt (by omega)
    have c0 : True := trivial
    refine WP_iload_n dX11_copy_2 rfl ?_
    refine WP_aload_n dX11_copy_3 rfl ?_
    refine WP_alen dX11_copy_4 (ly_is hy _ _ htk) (by decide) ?_
    rw [ly_n hy _ _ htn]
    refine WP_icmp_ge 20 dX11_copy_5 rfl (fun c5 => ?_) (fun c5 => absurd c5 (by intro cc; (try simp only [hkt, hnn, hkt] at cc); (all_goals (try simp only [cmp_lt, cmp_gt] at cc)); (all_goals (try simp only [le32, lt32, eq32, t64, Int32.reduceToInt, Int64.reduceToInt] at cc)); (all_goals (try simp (disch := ((try simp (disch := ((try simp (disch := omega) only [ia, is', im, ja, js, ir, idv, Int32.reduceToInt, Int64.reduceToInt, t64]); omega)) only [ia, is', im, ja, js, ir, idv, Int32.reduceToInt, Int64.reduceToInt, t64]); omega)) only [ia, is', im, ja, js, ir, idv, Int32.reduceToInt, Int64.reduceToInt, t64] at cc)); (all_goals (try simp only [hkt, hnn, hkt] at cc)); (all_goals (try simp only [not_true_eq_false, eq_self] at cc)); all_goals omega))
    exact WP_vret dX11_copy_20 rfl ⟨rfl, hv, rfl, rfl⟩
  | succ m ih =>
    intro k I2 hk hv
    have hnn : (nI n).toInt = (n : Int) := nI_toInt (by omega)
    have hkt : (nI k).toInt = (k : Int) := nI_toInt (by omega)
    have c0 : True := trivial
    refine WP_iload_n dX11_copy_2 rfl ?_
    refine WP_aload_n dX11_copy_3 rfl ?_
    refine WP_alen dX11_copy_4 (ly_is hy _ _ htk) (by decide) ?_
    rw [ly_n hy _ _ htn]
    refine WP_icmp_ge 20 dX11_copy_5 rfl (fun c5 => absurd c5 (by intro cc; (try simp only [hkt, hnn, hkt] at cc); (all_goals (try simp only [cmp_lt, cmp_gt] at cc)); (all_goals (try simp only [le32, lt32, eq32, t64, Int32.reduceToInt, Int64.reduceToInt] at cc)); (all_goals (try simp (disch := ((try simp (disch := ((try simp (disch := omega) only [ia, is', im, ja, js, ir, idv, Int32.reduceToInt, Int64.reduceToInt, t64]); omega)) only [ia, is', im, ja, js, ir, idv, Int32.reduceToInt, Int64.reduceToInt, t64]); omega)) only [ia, is', im, ja, js, ir, idv, Int32.reduceToInt, Int64.reduceToInt, t64] at cc)); (all_goals (try simp only [hkt, hnn, hkt] at cc)); (all_goals (try simp only [not_true_eq_false, eq_self] at cc)); all_goals omega)) (fun c5 => ?_)
    refine WP_aload_n dX11_copy_8 rfl ?_
    refine WP_iload_n dX11_copy_9 rfl ?_
    refine WP_aload_n dX11_copy_10 rfl ?_
    refine WP_iload_n dX11_copy_11 rfl ?_
    refine WP_iald dX11_copy_12 (ly_is hy _ _ hfk) (ly_in hy _ n hfn (by (try simp only [hkt, hnn, hkt] at c0 c5 ⊢); (all_goals (try simp only [cmp_lt, cmp_gt] at c0 c5 ⊢)); (all_goals (try simp only [le32, lt32, eq32, t64, vp_in_iff, Int32.reduceToInt, Int64.reduceToInt] at c0 c5 ⊢)); (all_goals (try simp (disch := ((try simp (disch := ((try simp (disch := omega) only [ia, is', im, ja, js, ir, idv, Int32.reduceToInt, Int64.reduceToInt, t64]); omega)) only [ia, is', im, ja, js, ir, idv, Int32.reduceToInt, Int64.reduceToInt, t64]); omega)) only [ia, is', im, ja, js, ir, idv, Int32.reduceToInt, Int64.reduceToInt, t64] at c0 c5 ⊢)); (all_goals (try simp only [hkt, hnn, hkt] at c0 c5 ⊢)); all_goals (first | (constructor <;> omega) | (exfalso; omega)))) ?_
    refine WP_iast dX11_copy_13 (ly_is hy _ _ htk) (ly_in hy _ n htn (by (try simp only [hkt, hnn, hkt] at c0 c5 ⊢); (all_goals (try simp only [cmp_lt, cmp_gt] at c0 c5 ⊢)); (all_goals (try simp only [le32, lt32, eq32, t64, vp_in_iff, Int32.reduceToInt, Int64.reduceToInt] at c0 c5 ⊢)); (all_goals (try simp (disch := ((try simp (disch := ((try simp (disch := omega) only [ia, is', im, ja, js, ir, idv, Int32.reduceToInt, Int64.reduceToInt, t64]); omega)) only [ia, is', im, ja, js, ir, idv, Int32.reduceToInt, Int64.reduceToInt, t64]); omega)) only [ia, is', im, ja, js, ir, idv, Int32.reduceToInt, Int64.reduceToInt, t64] at c0 c5 ⊢)); (all_goals (try simp only [hkt, hnn, hkt] at c0 c5 ⊢)); all_goals (first | (constructor <;> omega) | (exfalso; omega)))) ?_
    refine WP_iinc (ls' := [(0, _), (1, _), (2, _)]) dX11_copy_14 rfl (by decide) rfl ?_
    refine WP_goto 2 dX11_copy_17 rfl ?_
    refine WP_sub (ls' := [(0, .ref (ad g t)), (1, .ref (ad g f)), (2, .int (nI (k + 1)))]) (fc rfl (fc rfl (fc (by rw [← nI_1]; rfl) fn))) (ih (k + 1) _ (by omega) ?_)
    exact fx_pp hy hv htl.1 (by simp)
set_option maxHeartbeats 4000000 in
set_option maxRecDepth 100000 in
theorem s_copy {g : GG} {I : pI} {J : pJ} {R : pR} (hy : Ly g) (hr : Rf g R) (t f n : Nat) (htk : kT[t]? = some 13) (htn : nT[t]? = some n) (hfk : kT[f]? = some 13) (hfn : nT[f]? = some n) (htl : t < 49 ∧ n < 1000)  : SP g mX11_copy [.ref (ad g t), .ref (ad g f)] I J R (fq g [t] I J R) := by
  refine SP_of ⟨by decide, rfl⟩ (Nat.le_of_ble_eq_true rfl) ?_
  have c0 : True := trivial
  refine WP_iconst (0) dX11_copy_0 rfl ?_
  refine WP_istore_n (ls' := [(0, _), (1, _), (2, _)]) dX11_copy_1 (by decide) rfl ?_
  refine WP_sub (ls' := [(0, .ref (ad g t)), (1, .ref (ad g f)), (2, .int (nI 0))]) (fc rfl (fc rfl (fc rfl fn))) (l_copy (I := I) (J := J) hy hr t f n htk htn hfk hfn htl n 0 _ (by omega) ?_)
  exact fx_rf
def RT0 (g : GG) (I : pI) : Prop := I (ad g P_o) 15 = 0 ∧ I (ad g P_o) 16 = 0 ∧ I (ad g P_o) 17 = (-1) ∧ I (ad g P_o) 18 = (-1) ∧ I (ad g P_o) 19 = 0 ∧ I (ad g P_o) 5 = 0
theorem RT0_fx {g : GG} {S : List Nat} {I I' : pI} (h : RT0 g I) (hx : fx g S I I') (hS : P_o ∉ S) : RT0 g I' := by
  unfold RT0
  rw [hx P_o (by decide) hS]
  exact h
def T3 (g : GG) (I : pI) : Prop := I (ad g P_o) 10 = 0 ∧ I (ad g P_o) 11 = 0 ∧ I (ad g P_o) 12 = 0
theorem T3_fx {g : GG} {S : List Nat} {I I' : pI} (h : T3 g I) (hx : fx g S I I') (hS : P_o ∉ S) : T3 g I' := by
  unfold T3
  rw [hx P_o (by decide) hS]
  exact h
set_option maxHeartbeats 4000000 in
set_option maxRecDepth 100000 in
theorem l_rtown {g : GG} {I : pI} {J : pJ} {R : pR} (hy : Ly g) (hr : Rf g R)  : ∀ (m k : Nat) (I2 : pI), k + m = 7 → RT0 g I2 → WP g mX11_readTown 32 [(0, .ref (ad g P_o)), (1, .int (nI k))] [] I2 J R (fun r I' J' R' => r = some (.int 1) ∧ RT0 g I' ∧ J' = J ∧ R' = R) := by
  intro m
  induction m with
  | zero =>
    intro k I2 hk hv
    have hkt : (nI k).toInt = (k : Int) := nI_toInt (by omega)
    have c0 : True := trivial
    refine WP_iload_n dX11_readTown_32 rfl ?_
    refine WP_bipush (7) dX11_readTown_33 rfl ?_
    refine WP_icmp_ge 51 dX11_readTown_35 rfl (fun c35 => ?_) (fun c35 => absurd c35 (by intro cc; (try simp only [hkt, hkt] at cc); (all_goals (try simp only [cmp_lt, cmp_gt] at cc)); (all_goals (try simp only [le32, lt32, eq32, t64, Int32.reduceToInt, Int64.reduceToInt] at cc)); (all_goals (try simp (disch := ((try simp (disch := ((try simp (disch := omega) only [ia, is', im, ja, js, ir, idv, Int32.reduceToInt, Int64.reduceToInt, t64]); omega)) only [ia, is', im, ja, js, ir, idv, Int32.reduceToInt, Int64.reduceToInt, t64]); omega)) only [ia, is', im, ja, js, ir, idv, Int32.reduceToInt, Int64.reduceToInt, t64] at cc)); (all_goals (try simp only [hkt, hkt] at cc)); (all_goals (try simp only [not_true_eq_false, eq_self] at cc)); all_goals omega))
    refine WP_aload_n dX11_readTown_51 rfl ?_
    refine WP_geti dX11_readTown_52 fX11_27 rfl (ly_is hy _ _ rfl) ?_
    refine WP_if_eq 87 dX11_readTown_55 rfl (fun c55 => ?_) (fun c55 => absurd c55 (by rw [hv.2.2.2.2.2]; decide))
    refine WP_iconst (1) dX11_readTown_87 rfl ?_
    exact WP_zret dX11_readTown_88 rfl rfl ⟨rfl, hv, rfl, rfl⟩
  | succ m ih =>
    intro k I2 hk hv
    have hkt : (nI k).toInt = (k : Int) := nI_toInt (by omega)
    have c0 : True := trivial
    refine WP_iload_n dX11_readTown_32 rfl ?_
    refine WP_bipush (7) dX11_readTown_33 rfl ?_
    refine WP_icmp_ge 51 dX11_readTown_35 rfl (fun c35 => absurd c35 (by intro cc; (try simp only [hkt, hkt] at cc); (all_goals (try simp only [cmp_lt, cmp_gt] at cc)); (all_goals (try simp only [le32, lt32, eq32, t64, Int32.reduceToInt, Int64.reduceToInt] at cc)); (all_goals (try simp (disch := ((try simp (disch := ((try simp (disch := omega) only [ia, is', im, ja, js, ir, idv, Int32.reduceToInt, Int64.reduceToInt, t64]); omega)) only [ia, is', im, ja, js, ir, idv, Int32.reduceToInt, Int64.reduceToInt, t64]); omega)) only [ia, is', im, ja, js, ir, idv, Int32.reduceToInt, Int64.reduceToInt, t64] at cc)); (all_goals (try simp only [hkt, hkt] at cc)); (all_goals (try simp only [not_true_eq_false, eq_self] at cc)); all_goals omega)) (fun c35 => ?_)
    refine WP_aload_n dX11_readTown_38 rfl ?_
    refine WP_getr dX11_readTown_39 fX11_84 rfl (ly_is hy _ _ rfl) (rf hr 0 25 7 (by decide)) ?_
    refine WP_iload_n dX11_readTown_42 rfl ?_
    refine WP_iconst (0) dX11_readTown_43 rfl ?_
    refine WP_iast dX11_readTown_44 (ly_is hy _ _ rfl) (ly_in hy _ _ rfl (by (try simp only [hkt, hkt] at c0 c35 ⊢); (all_goals (try simp only [cmp_lt, cmp_gt] at c0 c35 ⊢)); (all_goals (try simp only [le32, lt32, eq32, t64, vp_in_iff, Int32.reduceToInt, Int64.reduceToInt] at c0 c35 ⊢)); (all_goals (try simp (disch := ((try simp (disch := ((try simp (disch := omega) only [ia, is', im, ja, js, ir, idv, Int32.reduceToInt, Int64.reduceToInt, t64]); omega)) only [ia, is', im, ja, js, ir, idv, Int32.reduceToInt, Int64.reduceToInt, t64]); omega)) only [ia, is', im, ja, js, ir, idv, Int32.reduceToInt, Int64.reduceToInt, t64] at c0 c35 ⊢)); (all_goals (try simp only [hkt, hkt] at c0 c35 ⊢)); all_goals (first | (constructor <;> omega) | (exfalso; omega)))) ?_
    refine WP_iinc (ls' := [(0, _), (1, _)]) dX11_readTown_45 rfl (by decide) rfl ?_
    refine WP_goto 32 dX11_readTown_48 rfl ?_
    refine WP_sub (ls' := [(0, .ref (ad g P_o)), (1, .int (nI (k + 1)))]) (fc rfl (fc (by rw [← nI_1]; rfl) fn)) (ih (k + 1) _ (by omega) ?_)
    exact RT0_fx hv (fx_pp hy (S := [P_o_readRot]) fx_rf (i := P_o_readRot) (by decide) (by decide)) (by decide)
set_option maxHeartbeats 4000000 in
set_option maxRecDepth 100000 in
theorem s_readTown0 {g : GG} {I : pI} {J : pJ} {R : pR} (hy : Ly g) (hr : Rf g R) (hh : I (ad g P_o) 5 = 0) : SP g mX11_readTown [.ref (ad g P_o)] I J R (fun r I' J' R' => r = some (.int 1) ∧ RT0 g I' ∧ J' = J ∧ R' = R) := by
  refine SP_of ⟨by decide, rfl⟩ (Nat.le_of_ble_eq_true rfl) ?_
  have c0 : True := trivial
  refine WP_aload_n dX11_readTown_0 rfl ?_
  refine WP_iconst (0) dX11_readTown_1 rfl ?_
  refine WP_puti dX11_readTown_2 fX11_88 rfl rfl (ly_is hy _ _ rfl) ?_
  refine WP_aload_n dX11_readTown_5 rfl ?_
  refine WP_iconst (0) dX11_readTown_6 rfl ?_
  refine WP_puti dX11_readTown_7 fX11_126 rfl rfl (ly_is hy _ _ rfl) ?_
  refine WP_aload_n dX11_readTown_10 rfl ?_
  refine WP_iconst (-1) dX11_readTown_11 rfl ?_
  refine WP_puti dX11_readTown_12 fX11_158 rfl rfl (ly_is hy _ _ rfl) ?_
  refine WP_aload_n dX11_readTown_15 rfl ?_
  refine WP_iconst (-1) dX11_readTown_16 rfl ?_
  refine WP_puti dX11_readTown_17 fX11_161 rfl rfl (ly_is hy _ _ rfl) ?_
  refine WP_aload_n dX11_readTown_20 rfl ?_
  refine WP_iconst (0) dX11_readTown_21 rfl ?_
  refine WP_puti dX11_readTown_22 fX11_78 rfl rfl (ly_is hy _ _ rfl) ?_
  refine WP_aload_n dX11_readTown_25 rfl ?_
  refine WP_iconst (0) dX11_readTown_26 rfl ?_
  refine WP_puti dX11_readTown_27 fX11_207 rfl rfl (ly_is hy _ _ rfl) ?_
  refine WP_iconst (0) dX11_readTown_30 rfl ?_
  refine WP_istore_n (ls' := [(0, _), (1, _)]) dX11_readTown_31 (by decide) rfl ?_
  refine WP_sub (ls' := [(0, .ref (ad g P_o)), (1, .int (nI 0))]) (fc rfl (fc rfl fn)) (l_rtown (I := I) (J := J) hy hr 7 0 _ (by omega) ?_)
  exact ⟨(by rw [pp_ne _ _ (Or.inr (by decide)), pp_ne _ _ (Or.inr (by decide)), pp_ne _ _ (Or.inr (by decide)), pp_ne _ _ (Or.inr (by decide)), pp_ne _ _ (Or.inr (by decide)), pp_self]), (by rw [pp_ne _ _ (Or.inr (by decide)), pp_ne _ _ (Or.inr (by decide)), pp_ne _ _ (Or.inr (by decide)), pp_ne _ _ (Or.inr (by decide)), pp_self]), (by rw [pp_ne _ _ (Or.inr (by decide)), pp_ne _ _ (Or.inr (by decide)), pp_ne _ _ (Or.inr (by decide)), pp_self]), (by rw [pp_ne _ _ (Or.inr (by decide)), pp_ne _ _ (Or.inr (by decide)), pp_self]), (by rw [pp_self]), (by rw [pp_ne _ _ (Or.inr (by decide)), pp_ne _ _ (Or.inr (by decide)), pp_ne _ _ (Or.inr (by decide)), pp_ne _ _ (Or.inr (by decide)), pp_ne _ _ (Or.inr (by decide)), pp_ne _ _ (Or.inr (by decide))]; exact hh)⟩
set_option maxHeartbeats 4000000 in
set_option maxRecDepth 100000 in
theorem l_tw5 {g : GG} {I : pI} {J : pJ} {R : pR} (hy : Ly g) (hr : Rf g R)  : ∀ (m k : Nat) (I2 : pI), k + m = 3 → T3 g I2 → WP g mX11_town 342 [(0, .ref (ad g P_o)), (1, .int (nI k))] [] I2 J R (rq 0) := by
  intro m
  induction m with
  | zero =>
    intro k I2 hk hv
    have hkt : (nI k).toInt = (k : Int) := nI_toInt (by omega)
    have c0 : True := trivial
    refine WP_iload_n dX11_town_342 rfl ?_
    refine WP_iconst (3) dX11_town_343 rfl ?_
    refine WP_icmp_ge 360 dX11_town_344 rfl (fun c344 => ?_) (fun c344 => absurd c344 (by intro cc; (try simp only [hkt, hkt] at cc); (all_goals (try simp only [cmp_lt, cmp_gt] at cc)); (all_goals (try simp only [le32, lt32, eq32, t64, Int32.reduceToInt, Int64.reduceToInt] at cc)); (all_goals (try simp (disch := ((try simp (disch := ((try simp (disch := omega) only [ia, is', im, ja, js, ir, idv, Int32.reduceToInt, Int64.reduceToInt, t64]); omega)) only [ia, is', im, ja, js, ir, idv, Int32.reduceToInt, Int64.reduceToInt, t64]); omega)) only [ia, is', im, ja, js, ir, idv, Int32.reduceToInt, Int64.reduceToInt, t64] at cc)); (all_goals (try simp only [hkt, hkt] at cc)); (all_goals (try simp only [not_true_eq_false, eq_self] at cc)); all_goals omega))
    refine WP_aload_n dX11_town_360 rfl ?_
    refine WP_iconst (-1) dX11_town_361 rfl ?_
    refine WP_puti dX11_town_362 fX11_304 rfl rfl (ly_is hy _ _ rfl) ?_
    refine WP_aload_n dX11_town_365 rfl ?_
    refine WP_geti dX11_town_366 fX11_335 rfl (ly_is hy _ _ rfl) ?_
    exact WP_iret dX11_town_369 rfl (by unfold rq; rw [pp_ne _ _ (Or.inr (by decide)), hv.2.2])
  | succ m ih =>
    intro k I2 hk hv
    have hkt : (nI k).toInt = (k : Int) := nI_toInt (by omega)
    have c0 : True := trivial
    refine WP_iload_n dX11_town_342 rfl ?_
    refine WP_iconst (3) dX11_town_343 rfl ?_
    refine WP_icmp_ge 360 dX11_town_344 rfl (fun c344 => absurd c344 (by intro cc; (try simp only [hkt, hkt] at cc); (all_goals (try simp only [cmp_lt, cmp_gt] at cc)); (all_goals (try simp only [le32, lt32, eq32, t64, Int32.reduceToInt, Int64.reduceToInt] at cc)); (all_goals (try simp (disch := ((try simp (disch := ((try simp (disch := omega) only [ia, is', im, ja, js, ir, idv, Int32.reduceToInt, Int64.reduceToInt, t64]); omega)) only [ia, is', im, ja, js, ir, idv, Int32.reduceToInt, Int64.reduceToInt, t64]); omega)) only [ia, is', im, ja, js, ir, idv, Int32.reduceToInt, Int64.reduceToInt, t64] at cc)); (all_goals (try simp only [hkt, hkt] at cc)); (all_goals (try simp only [not_true_eq_false, eq_self] at cc)); all_goals omega)) (fun c344 => ?_)
    refine WP_aload_n dX11_town_347 rfl ?_
    refine WP_getr dX11_town_348 fX11_301 rfl (ly_is hy _ _ rfl) (rf hr 0 67 44 (by decide)) ?_
    refine WP_iload_n dX11_town_351 rfl ?_
    refine WP_iconst (0) dX11_town_352 rfl ?_
    refine WP_zast dX11_town_353 (ly_is hy _ _ rfl) (ly_in hy _ _ rfl (by (try simp only [hkt, hkt] at c0 c344 ⊢); (all_goals (try simp only [cmp_lt, cmp_gt] at c0 c344 ⊢)); (all_goals (try simp only [le32, lt32, eq32, t64, vp_in_iff, Int32.reduceToInt, Int64.reduceToInt] at c0 c344 ⊢)); (all_goals (try simp (disch := ((try simp (disch := ((try simp (disch := omega) only [ia, is', im, ja, js, ir, idv, Int32.reduceToInt, Int64.reduceToInt, t64]); omega)) only [ia, is', im, ja, js, ir, idv, Int32.reduceToInt, Int64.reduceToInt, t64]); omega)) only [ia, is', im, ja, js, ir, idv, Int32.reduceToInt, Int64.reduceToInt, t64] at c0 c344 ⊢)); (all_goals (try simp only [hkt, hkt] at c0 c344 ⊢)); all_goals (first | (constructor <;> omega) | (exfalso; omega)))) ?_
    refine WP_iinc (ls' := [(0, _), (1, _)]) dX11_town_354 rfl (by decide) rfl ?_
    refine WP_goto 342 dX11_town_357 rfl ?_
    refine WP_sub (ls' := [(0, .ref (ad g P_o)), (1, .int (nI (k + 1)))]) (fc rfl (fc (by rw [← nI_1]; rfl) fn)) (ih (k + 1) _ (by omega) ?_)
    exact T3_fx hv (fx_pp hy (S := [P_o_isKept]) fx_rf (i := P_o_isKept) (by decide) (by decide)) (by decide)
set_option maxHeartbeats 4000000 in
set_option maxRecDepth 100000 in
theorem l_tw4 {g : GG} {I : pI} {J : pJ} {R : pR} (hy : Ly g) (hr : Rf g R)  : ∀ (m k : Nat) (I2 : pI), k + m = 4 → T3 g I2 → WP g mX11_town 288 [(0, .ref (ad g P_o)), (1, .int (nI k))] [] I2 J R (rq 0) := by
  intro m
  induction m with
  | zero =>
    intro k I2 hk hv
    have hkt : (nI k).toInt = (k : Int) := nI_toInt (by omega)
    have c0 : True := trivial
    refine WP_iload_n dX11_town_288 rfl ?_
    refine WP_iconst (4) dX11_town_289 rfl ?_
    refine WP_icmp_ge 323 dX11_town_290 rfl (fun c290 => ?_) (fun c290 => absurd c290 (by intro cc; (try simp only [hkt, hkt] at cc); (all_goals (try simp only [cmp_lt, cmp_gt] at cc)); (all_goals (try simp only [le32, lt32, eq32, t64, Int32.reduceToInt, Int64.reduceToInt] at cc)); (all_goals (try simp (disch := ((try simp (disch := ((try simp (disch := omega) only [ia, is', im, ja, js, ir, idv, Int32.reduceToInt, Int64.reduceToInt, t64]); omega)) only [ia, is', im, ja, js, ir, idv, Int32.reduceToInt, Int64.reduceToInt, t64]); omega)) only [ia, is', im, ja, js, ir, idv, Int32.reduceToInt, Int64.reduceToInt, t64] at cc)); (all_goals (try simp only [hkt, hkt] at cc)); (all_goals (try simp only [not_true_eq_false, eq_self] at cc)); all_goals omega))
    refine WP_aload_n dX11_town_323 rfl ?_
    refine WP_aload_n dX11_town_324 rfl ?_
    refine WP_getr dX11_town_325 fX11_283 rfl (ly_is hy _ _ rfl) (rf hr 0 59 38 (by decide)) ?_
    refine WP_callV1 (k := 11) dX11_town_328 ⟨⟨⟨by decide, by decide⟩, zX11_begin⟩, lX11_342, by decide, rfl, vX11_begin.1, vX11_begin.2⟩ (ly_is hy _ _ rfl) (s_begin hy hr hv.1 P_o_now rfl rfl (by decide)) (Nat.le_of_ble_eq_true rfl) ?_
    rintro r I3 J3 R3 ⟨rfl, hx3, eJ, eR⟩
    rw [eJ, eR]
    simp only [Option.toList, List.cons_append, List.nil_append]
    replace hv := T3_fx hv hx3 (by decide)
    refine WP_aload_n dX11_town_331 rfl ?_
    refine WP_lconst (0) dX11_town_332 rfl ?_
    refine WP_putl dX11_town_333 fX11_346 rfl rfl (ly_is hy _ _ rfl) ?_
    refine WP_aload_n dX11_town_336 rfl ?_
    refine WP_callV0 (k := 11) dX11_town_337 ⟨⟨⟨by decide, by decide⟩, zX11_forgetWeeks⟩, lX11_350, by decide, rfl, vX11_forgetWeeks.1, vX11_forgetWeeks.2⟩ (ly_is hy _ _ rfl) (s_forgetWeeks hy hr) (Nat.le_of_ble_eq_true rfl) ?_
    rintro r I4 J4 R4 ⟨rfl, hx4, eJ, eR⟩
    rw [eJ, eR]
    simp only [Option.toList, List.cons_append, List.nil_append]
    replace hv := T3_fx hv hx4 (by decide)
    refine WP_iconst (0) dX11_town_340 rfl ?_
    refine WP_istore_n (ls' := [(0, _), (1, _)]) dX11_town_341 (by decide) rfl ?_
    refine WP_sub (ls' := [(0, .ref (ad g P_o)), (1, .int (nI 0))]) (fc rfl (fc rfl fn)) (l_tw5 (I := I) hy hr 3 0 _ (by omega) ?_)
    exact hv
  | succ m ih =>
    intro k I2 hk hv
    have hkt : (nI k).toInt = (k : Int) := nI_toInt (by omega)
    have c0 : True := trivial
    refine WP_iload_n dX11_town_288 rfl ?_
    refine WP_iconst (4) dX11_town_289 rfl ?_
    refine WP_icmp_ge 323 dX11_town_290 rfl (fun c290 => absurd c290 (by intro cc; (try simp only [hkt, hkt] at cc); (all_goals (try simp only [cmp_lt, cmp_gt] at cc)); (all_goals (try simp only [le32, lt32, eq32, t64, Int32.reduceToInt, Int64.reduceToInt] at cc)); (all_goals (try simp (disch := ((try simp (disch := ((try simp (disch := omega) only [ia, is', im, ja, js, ir, idv, Int32.reduceToInt, Int64.reduceToInt, t64]); omega)) only [ia, is', im, ja, js, ir, idv, Int32.reduceToInt, Int64.reduceToInt, t64]); omega)) only [ia, is', im, ja, js, ir, idv, Int32.reduceToInt, Int64.reduceToInt, t64] at cc)); (all_goals (try simp only [hkt, hkt] at cc)); (all_goals (try simp only [not_true_eq_false, eq_self] at cc)); all_goals omega)) (fun c290 => ?_)
    refine WP_aload_n dX11_town_293 rfl ?_
    refine WP_getr dX11_town_294 fX11_283 rfl (ly_is hy _ _ rfl) (rf hr 0 59 38 (by decide)) ?_
    refine WP_bipush (28) dX11_town_297 rfl ?_
    refine WP_iload_n dX11_town_299 rfl ?_
    refine WP_iadd dX11_town_300 ?_
    refine WP_iconst (1) dX11_town_301 rfl ?_
    refine WP_iast dX11_town_302 (ly_is hy _ _ rfl) (ly_in hy _ _ rfl (by (try simp only [hkt, hkt] at c0 c290 ⊢); (all_goals (try simp only [cmp_lt, cmp_gt] at c0 c290 ⊢)); (all_goals (try simp only [le32, lt32, eq32, t64, vp_in_iff, Int32.reduceToInt, Int64.reduceToInt] at c0 c290 ⊢)); (all_goals (try simp (disch := ((try simp (disch := ((try simp (disch := omega) only [ia, is', im, ja, js, ir, idv, Int32.reduceToInt, Int64.reduceToInt, t64]); omega)) only [ia, is', im, ja, js, ir, idv, Int32.reduceToInt, Int64.reduceToInt, t64]); omega)) only [ia, is', im, ja, js, ir, idv, Int32.reduceToInt, Int64.reduceToInt, t64] at c0 c290 ⊢)); (all_goals (try simp only [hkt, hkt] at c0 c290 ⊢)); all_goals (first | (constructor <;> omega) | (exfalso; omega)))) ?_
    refine WP_aload_n dX11_town_303 rfl ?_
    refine WP_getr dX11_town_304 fX11_310 rfl (ly_is hy _ _ rfl) (rf hr 0 71 46 (by decide)) ?_
    refine WP_iload_n dX11_town_307 rfl ?_
    refine WP_iconst (0) dX11_town_308 rfl ?_
    refine WP_iast dX11_town_309 (ly_is hy _ _ rfl) (ly_in hy _ _ rfl (by (try simp only [hkt, hkt] at c0 c290 ⊢); (all_goals (try simp only [cmp_lt, cmp_gt] at c0 c290 ⊢)); (all_goals (try simp only [le32, lt32, eq32, t64, vp_in_iff, Int32.reduceToInt, Int64.reduceToInt] at c0 c290 ⊢)); (all_goals (try simp (disch := ((try simp (disch := ((try simp (disch := omega) only [ia, is', im, ja, js, ir, idv, Int32.reduceToInt, Int64.reduceToInt, t64]); omega)) only [ia, is', im, ja, js, ir, idv, Int32.reduceToInt, Int64.reduceToInt, t64]); omega)) only [ia, is', im, ja, js, ir, idv, Int32.reduceToInt, Int64.reduceToInt, t64] at c0 c290 ⊢)); (all_goals (try simp only [hkt, hkt] at c0 c290 ⊢)); all_goals (first | (constructor <;> omega) | (exfalso; omega)))) ?_
    refine WP_aload_n dX11_town_310 rfl ?_
    refine WP_getr dX11_town_311 fX11_313 rfl (ly_is hy _ _ rfl) (rf hr 0 72 47 (by decide)) ?_
    refine WP_iload_n dX11_town_314 rfl ?_
    refine WP_iconst (0) dX11_town_315 rfl ?_
    refine WP_iast dX11_town_316 (ly_is hy _ _ rfl) (ly_in hy _ _ rfl (by (try simp only [hkt, hkt] at c0 c290 ⊢); (all_goals (try simp only [cmp_lt, cmp_gt] at c0 c290 ⊢)); (all_goals (try simp only [le32, lt32, eq32, t64, vp_in_iff, Int32.reduceToInt, Int64.reduceToInt] at c0 c290 ⊢)); (all_goals (try simp (disch := ((try simp (disch := ((try simp (disch := omega) only [ia, is', im, ja, js, ir, idv, Int32.reduceToInt, Int64.reduceToInt, t64]); omega)) only [ia, is', im, ja, js, ir, idv, Int32.reduceToInt, Int64.reduceToInt, t64]); omega)) only [ia, is', im, ja, js, ir, idv, Int32.reduceToInt, Int64.reduceToInt, t64] at c0 c290 ⊢)); (all_goals (try simp only [hkt, hkt] at c0 c290 ⊢)); all_goals (first | (constructor <;> omega) | (exfalso; omega)))) ?_
    refine WP_iinc (ls' := [(0, _), (1, _)]) dX11_town_317 rfl (by decide) rfl ?_
    refine WP_goto 288 dX11_town_320 rfl ?_
    refine WP_sub (ls' := [(0, .ref (ad g P_o)), (1, .int (nI (k + 1)))]) (fc rfl (fc (by rw [← nI_1]; rfl) fn)) (ih (k + 1) _ (by omega) ?_)
    exact T3_fx hv (fx_pp hy (fx_pp hy (fx_pp hy (S := [P_o_now, P_o_worthTo, P_o_costTo]) fx_rf (i := P_o_now) (by decide) (by decide)) (i := P_o_worthTo) (by decide) (by decide)) (i := P_o_costTo) (by decide) (by decide)) (by decide)
set_option maxHeartbeats 4000000 in
set_option maxRecDepth 100000 in
theorem l_tw2 {g : GG} {I : pI} {J : pJ} {R : pR} (hy : Ly g) (hr : Rf g R) (hv : T3 g I) : WP g mX11_town 76 [(0, .ref (ad g P_o))] [] I J R (rq 0) := by
  refine WP_iconst (0) dX11_town_76 rfl ?_
  refine WP_istore_n (ls' := [(0, _), (1, _)]) dX11_town_77 (by decide) rfl ?_
  refine WP_iload_n dX11_town_78 rfl ?_
  refine WP_aload_n dX11_town_79 rfl ?_
  refine WP_geti dX11_town_80 fX11_329 rfl (ly_is hy _ _ rfl) ?_
  refine WP_icmp_ge 104 dX11_town_83 rfl (fun c83 => ?_) (fun c83 => absurd c83 (by rw [hv.1]; decide))
  refine WP_iconst (0) dX11_town_104 rfl ?_
  refine WP_istore_n (ls' := [(0, _), (1, _)]) dX11_town_105 (by decide) rfl ?_
  refine WP_iload_n dX11_town_106 rfl ?_
  refine WP_aload_n dX11_town_107 rfl ?_
  refine WP_geti dX11_town_108 fX11_332 rfl (ly_is hy _ _ rfl) ?_
  refine WP_icmp_ge 132 dX11_town_111 rfl (fun c111 => ?_) (fun c111 => absurd c111 (by rw [hv.2.1]; decide))
  refine WP_aload_n dX11_town_132 rfl ?_
  refine WP_getr dX11_town_133 fX11_233 rfl (ly_is hy _ _ rfl) (rf hr 0 24 6 (by decide)) ?_
  refine WP_aload_n dX11_town_136 rfl ?_
  refine WP_getr dX11_town_137 fX11_84 rfl (ly_is hy _ _ rfl) (rf hr 0 25 7 (by decide)) ?_
  refine WP_callS2 dX11_town_140 ⟨⟨⟨by decide, by decide⟩, zX11_copy⟩, lX11_338, tX11_copy⟩ (s_copy hy hr P_o_rot P_o_readRot 7 rfl rfl rfl rfl (by decide)) (Nat.le_of_ble_eq_true rfl) ?_
  rintro r I3 J3 R3 ⟨rfl, hx3, eJ, eR⟩
  rw [eJ, eR]
  simp only [Option.toList, List.cons_append, List.nil_append]
  replace hv := T3_fx hv hx3 (by decide)
  refine WP_aload_n dX11_town_143 rfl ?_
  refine WP_getr dX11_town_144 fX11_235 rfl (ly_is hy _ _ rfl) (rf hr 0 26 8 (by decide)) ?_
  refine WP_aload_n dX11_town_147 rfl ?_
  refine WP_getr dX11_town_148 fX11_99 rfl (ly_is hy _ _ rfl) (rf hr 0 32 14 (by decide)) ?_
  refine WP_callS2 dX11_town_151 ⟨⟨⟨by decide, by decide⟩, zX11_copy⟩, lX11_338, tX11_copy⟩ (s_copy hy hr P_o_people P_o_readPeople 4 rfl rfl rfl rfl (by decide)) (Nat.le_of_ble_eq_true rfl) ?_
  rintro r I4 J4 R4 ⟨rfl, hx4, eJ, eR⟩
  rw [eJ, eR]
  simp only [Option.toList, List.cons_append, List.nil_append]
  replace hv := T3_fx hv hx4 (by decide)
  refine WP_aload_n dX11_town_154 rfl ?_
  refine WP_getr dX11_town_155 fX11_238 rfl (ly_is hy _ _ rfl) (rf hr 0 27 9 (by decide)) ?_
  refine WP_aload_n dX11_town_158 rfl ?_
  refine WP_getr dX11_town_159 fX11_102 rfl (ly_is hy _ _ rfl) (rf hr 0 33 15 (by decide)) ?_
  refine WP_callS2 dX11_town_162 ⟨⟨⟨by decide, by decide⟩, zX11_copy⟩, lX11_338, tX11_copy⟩ (s_copy hy hr P_o_patience P_o_readPatience 4 rfl rfl rfl rfl (by decide)) (Nat.le_of_ble_eq_true rfl) ?_
  rintro r I5 J5 R5 ⟨rfl, hx5, eJ, eR⟩
  rw [eJ, eR]
  simp only [Option.toList, List.cons_append, List.nil_append]
  replace hv := T3_fx hv hx5 (by decide)
  refine WP_aload_n dX11_town_165 rfl ?_
  refine WP_getr dX11_town_166 fX11_241 rfl (ly_is hy _ _ rfl) (rf hr 0 28 10 (by decide)) ?_
  refine WP_aload_n dX11_town_169 rfl ?_
  refine WP_getr dX11_town_170 fX11_105 rfl (ly_is hy _ _ rfl) (rf hr 0 34 16 (by decide)) ?_
  refine WP_callS2 dX11_town_173 ⟨⟨⟨by decide, by decide⟩, zX11_copy⟩, lX11_338, tX11_copy⟩ (s_copy hy hr P_o_first P_o_readFirst 4 rfl rfl rfl rfl (by decide)) (Nat.le_of_ble_eq_true rfl) ?_
  rintro r I6 J6 R6 ⟨rfl, hx6, eJ, eR⟩
  rw [eJ, eR]
  simp only [Option.toList, List.cons_append, List.nil_append]
  replace hv := T3_fx hv hx6 (by decide)
  refine WP_aload_n dX11_town_176 rfl ?_
  refine WP_getr dX11_town_177 fX11_244 rfl (ly_is hy _ _ rfl) (rf hr 0 29 11 (by decide)) ?_
  refine WP_aload_n dX11_town_180 rfl ?_
  refine WP_getr dX11_town_181 fX11_108 rfl (ly_is hy _ _ rfl) (rf hr 0 35 17 (by decide)) ?_
  refine WP_callS2 dX11_town_184 ⟨⟨⟨by decide, by decide⟩, zX11_copy⟩, lX11_338, tX11_copy⟩ (s_copy hy hr P_o_ill P_o_readIll 4 rfl rfl rfl rfl (by decide)) (Nat.le_of_ble_eq_true rfl) ?_
  rintro r I7 J7 R7 ⟨rfl, hx7, eJ, eR⟩
  rw [eJ, eR]
  simp only [Option.toList, List.cons_append, List.nil_append]
  replace hv := T3_fx hv hx7 (by decide)
  refine WP_aload_n dX11_town_187 rfl ?_
  refine WP_getr dX11_town_188 fX11_246 rfl (ly_is hy _ _ rfl) (rf hr 0 30 12 (by decide)) ?_
  refine WP_aload_n dX11_town_191 rfl ?_
  refine WP_getr dX11_town_192 fX11_132 rfl (ly_is hy _ _ rfl) (rf hr 0 36 18 (by decide)) ?_
  refine WP_callS2 dX11_town_195 ⟨⟨⟨by decide, by decide⟩, zX11_copy⟩, lX11_338, tX11_copy⟩ (s_copy hy hr P_o_spoils P_o_readSpoils 3 rfl rfl rfl rfl (by decide)) (Nat.le_of_ble_eq_true rfl) ?_
  rintro r I8 J8 R8 ⟨rfl, hx8, eJ, eR⟩
  rw [eJ, eR]
  simp only [Option.toList, List.cons_append, List.nil_append]
  replace hv := T3_fx hv hx8 (by decide)
  refine WP_aload_n dX11_town_198 rfl ?_
  refine WP_getr dX11_town_199 fX11_249 rfl (ly_is hy _ _ rfl) (rf hr 0 31 13 (by decide)) ?_
  refine WP_aload_n dX11_town_202 rfl ?_
  refine WP_getr dX11_town_203 fX11_135 rfl (ly_is hy _ _ rfl) (rf hr 0 37 19 (by decide)) ?_
  refine WP_callS2 dX11_town_206 ⟨⟨⟨by decide, by decide⟩, zX11_copy⟩, lX11_338, tX11_copy⟩ (s_copy hy hr P_o_costs P_o_readCosts 3 rfl rfl rfl rfl (by decide)) (Nat.le_of_ble_eq_true rfl) ?_
  rintro r I9 J9 R9 ⟨rfl, hx9, eJ, eR⟩
  rw [eJ, eR]
  simp only [Option.toList, List.cons_append, List.nil_append]
  replace hv := T3_fx hv hx9 (by decide)
  refine WP_aload_n dX11_town_209 rfl ?_
  refine WP_getr dX11_town_210 fX11_252 rfl (ly_is hy _ _ rfl) (rf hr 0 38 20 (by decide)) ?_
  refine WP_aload_n dX11_town_213 rfl ?_
  refine WP_getr dX11_town_214 fX11_114 rfl (ly_is hy _ _ rfl) (rf hr 0 45 27 (by decide)) ?_
  refine WP_callS2 dX11_town_217 ⟨⟨⟨by decide, by decide⟩, zX11_copy⟩, lX11_338, tX11_copy⟩ (s_copy hy hr P_o_earn P_o_readEarn 28 rfl rfl rfl rfl (by decide)) (Nat.le_of_ble_eq_true rfl) ?_
  rintro r I10 J10 R10 ⟨rfl, hx10, eJ, eR⟩
  rw [eJ, eR]
  simp only [Option.toList, List.cons_append, List.nil_append]
  replace hv := T3_fx hv hx10 (by decide)
  refine WP_aload_n dX11_town_220 rfl ?_
  refine WP_getr dX11_town_221 fX11_254 rfl (ly_is hy _ _ rfl) (rf hr 0 39 21 (by decide)) ?_
  refine WP_aload_n dX11_town_224 rfl ?_
  refine WP_getr dX11_town_225 fX11_141 rfl (ly_is hy _ _ rfl) (rf hr 0 46 28 (by decide)) ?_
  refine WP_callS2 dX11_town_228 ⟨⟨⟨by decide, by decide⟩, zX11_copy⟩, lX11_338, tX11_copy⟩ (s_copy hy hr P_o_toldPrice P_o_readPrice 21 rfl rfl rfl rfl (by decide)) (Nat.le_of_ble_eq_true rfl) ?_
  rintro r I11 J11 R11 ⟨rfl, hx11, eJ, eR⟩
  rw [eJ, eR]
  simp only [Option.toList, List.cons_append, List.nil_append]
  replace hv := T3_fx hv hx11 (by decide)
  refine WP_aload_n dX11_town_231 rfl ?_
  refine WP_getr dX11_town_232 fX11_257 rfl (ly_is hy _ _ rfl) (rf hr 0 40 22 (by decide)) ?_
  refine WP_aload_n dX11_town_235 rfl ?_
  refine WP_getr dX11_town_236 fX11_141 rfl (ly_is hy _ _ rfl) (rf hr 0 46 28 (by decide)) ?_
  refine WP_callS2 dX11_town_239 ⟨⟨⟨by decide, by decide⟩, zX11_copy⟩, lX11_338, tX11_copy⟩ (s_copy hy hr P_o_price P_o_readPrice 21 rfl rfl rfl rfl (by decide)) (Nat.le_of_ble_eq_true rfl) ?_
  rintro r I12 J12 R12 ⟨rfl, hx12, eJ, eR⟩
  rw [eJ, eR]
  simp only [Option.toList, List.cons_append, List.nil_append]
  replace hv := T3_fx hv hx12 (by decide)
  refine WP_aload_n dX11_town_242 rfl ?_
  refine WP_getr dX11_town_243 fX11_259 rfl (ly_is hy _ _ rfl) (rf hr 0 41 23 (by decide)) ?_
  refine WP_aload_n dX11_town_246 rfl ?_
  refine WP_getr dX11_town_247 fX11_144 rfl (ly_is hy _ _ rfl) (rf hr 0 47 29 (by decide)) ?_
  refine WP_callS2 dX11_town_250 ⟨⟨⟨by decide, by decide⟩, zX11_copy⟩, lX11_338, tX11_copy⟩ (s_copy hy hr P_o_make P_o_readMake 21 rfl rfl rfl rfl (by decide)) (Nat.le_of_ble_eq_true rfl) ?_
  rintro r I13 J13 R13 ⟨rfl, hx13, eJ, eR⟩
  rw [eJ, eR]
  simp only [Option.toList, List.cons_append, List.nil_append]
  replace hv := T3_fx hv hx13 (by decide)
  refine WP_aload_n dX11_town_253 rfl ?_
  refine WP_getr dX11_town_254 fX11_261 rfl (ly_is hy _ _ rfl) (rf hr 0 42 24 (by decide)) ?_
  refine WP_aload_n dX11_town_257 rfl ?_
  refine WP_getr dX11_town_258 fX11_117 rfl (ly_is hy _ _ rfl) (rf hr 0 48 30 (by decide)) ?_
  refine WP_callS2 dX11_town_261 ⟨⟨⟨by decide, by decide⟩, zX11_copy⟩, lX11_338, tX11_copy⟩ (s_copy hy hr P_o_wantThing P_o_readThing 28 rfl rfl rfl rfl (by decide)) (Nat.le_of_ble_eq_true rfl) ?_
  rintro r I14 J14 R14 ⟨rfl, hx14, eJ, eR⟩
  rw [eJ, eR]
  simp only [Option.toList, List.cons_append, List.nil_append]
  replace hv := T3_fx hv hx14 (by decide)
  refine WP_aload_n dX11_town_264 rfl ?_
  refine WP_getr dX11_town_265 fX11_264 rfl (ly_is hy _ _ rfl) (rf hr 0 43 25 (by decide)) ?_
  refine WP_aload_n dX11_town_268 rfl ?_
  refine WP_getr dX11_town_269 fX11_120 rfl (ly_is hy _ _ rfl) (rf hr 0 49 31 (by decide)) ?_
  refine WP_callS2 dX11_town_272 ⟨⟨⟨by decide, by decide⟩, zX11_copy⟩, lX11_338, tX11_copy⟩ (s_copy hy hr P_o_wantUnits P_o_readUnits 28 rfl rfl rfl rfl (by decide)) (Nat.le_of_ble_eq_true rfl) ?_
  rintro r I15 J15 R15 ⟨rfl, hx15, eJ, eR⟩
  rw [eJ, eR]
  simp only [Option.toList, List.cons_append, List.nil_append]
  replace hv := T3_fx hv hx15 (by decide)
  refine WP_aload_n dX11_town_275 rfl ?_
  refine WP_getr dX11_town_276 fX11_267 rfl (ly_is hy _ _ rfl) (rf hr 0 44 26 (by decide)) ?_
  refine WP_aload_n dX11_town_279 rfl ?_
  refine WP_getr dX11_town_280 fX11_123 rfl (ly_is hy _ _ rfl) (rf hr 0 50 32 (by decide)) ?_
  refine WP_callS2 dX11_town_283 ⟨⟨⟨by decide, by decide⟩, zX11_copy⟩, lX11_338, tX11_copy⟩ (s_copy hy hr P_o_wantWorth P_o_readWorth 28 rfl rfl rfl rfl (by decide)) (Nat.le_of_ble_eq_true rfl) ?_
  rintro r I16 J16 R16 ⟨rfl, hx16, eJ, eR⟩
  rw [eJ, eR]
  simp only [Option.toList, List.cons_append, List.nil_append]
  replace hv := T3_fx hv hx16 (by decide)
  refine WP_iconst (0) dX11_town_286 rfl ?_
  refine WP_istore_n (ls' := [(0, _), (1, _)]) dX11_town_287 (by decide) rfl ?_
  refine WP_sub (ls' := [(0, .ref (ad g P_o)), (1, .int (nI 0))]) (fc rfl (fc rfl fn)) (l_tw4 (I := I) hy hr 4 0 _ (by omega) ?_)
  exact hv
set_option maxHeartbeats 4000000 in
set_option maxRecDepth 100000 in
theorem fr_town {g : GG} {I : pI} {J : pJ} {R : pR} (hy : Ly g) (hr : Rf g R) (hf : MF g I J)  : SP g mX11_town [.ref (ad g P_o)] I J R (rq 0) := by
  refine SP_of ⟨by decide, rfl⟩ (Nat.le_of_ble_eq_true rfl) ?_
  have c0 : True := trivial
  obtain ⟨hmc, h_taped, h_fault, h_faultAt, h_clauses, h_turnsTold, h_held, h_now, h_kept⟩ := hf
  have hmc0 := hmc
  obtain ⟨h_sorts, h_things, h_chestSort, h_storedThing, h_rot⟩ := hmc
  refine WP_aload_n dX11_town_0 rfl ?_
  refine WP_callV0u (k := 11) dX11_town_1 ⟨⟨⟨by decide, by decide⟩, zX11_open⟩, lX11_323, by decide, rfl, vX11_open.1, vX11_open.2⟩ (ly_is hy _ _ rfl) (s_open0 hy hr h_taped) (Nat.le_of_ble_eq_true rfl) ?_
  refine WP_aload_n dX11_town_4 rfl ?_
  refine WP_callV0 (k := 11) dX11_town_5 ⟨⟨⟨by decide, by decide⟩, zX11_readTown⟩, lX11_326, by decide, rfl, vX11_readTown.1, vX11_readTown.2⟩ (ly_is hy _ _ rfl) (s_readTown0 hy hr opn_hand) (Nat.le_of_ble_eq_true rfl) ?_
  rintro r I3 J3 R3 ⟨rfl, hv, eJ, eR⟩
  rw [eJ, eR]
  simp only [Option.toList, List.cons_append, List.nil_append]
  refine WP_if_ne 13 dX11_town_8 rfl (fun c8 => ?_) (fun c8 => absurd c8 (by decide))
  refine WP_aload_n dX11_town_13 rfl ?_
  refine WP_aload_n dX11_town_14 rfl ?_
  refine WP_geti dX11_town_15 fX11_88 rfl (ly_is hy _ _ rfl) ?_
  refine WP_puti dX11_town_18 fX11_329 rfl rfl (ly_is hy _ _ rfl) ?_
  refine WP_aload_n dX11_town_21 rfl ?_
  refine WP_aload_n dX11_town_22 rfl ?_
  refine WP_geti dX11_town_23 fX11_126 rfl (ly_is hy _ _ rfl) ?_
  refine WP_puti dX11_town_26 fX11_332 rfl rfl (ly_is hy _ _ rfl) ?_
  refine WP_aload_n dX11_town_29 rfl ?_
  refine WP_aload_n dX11_town_30 rfl ?_
  refine WP_geti dX11_town_31 fX11_158 rfl (ly_is hy _ _ rfl) ?_
  refine WP_puti dX11_town_34 fX11_221 rfl rfl (ly_is hy _ _ rfl) ?_
  refine WP_aload_n dX11_town_37 rfl ?_
  refine WP_aload_n dX11_town_38 rfl ?_
  refine WP_geti dX11_town_39 fX11_161 rfl (ly_is hy _ _ rfl) ?_
  refine WP_iconst (-1) dX11_town_42 rfl ?_
  refine WP_icmp_eq 53 dX11_town_43 rfl (fun c43 => ?_) (fun c43 => absurd c43 (by rw [pp_ne _ _ (Or.inr (by decide)), pp_ne _ _ (Or.inr (by decide)), pp_ne _ _ (Or.inr (by decide)), hv.2.2.2.1]; decide))
  refine WP_aload_n dX11_town_53 rfl ?_
  refine WP_geti dX11_town_54 fX11_332 rfl (ly_is hy _ _ rfl) ?_
  refine WP_if_le 64 dX11_town_57 rfl (fun c57 => ?_) (fun c57 => absurd c57 (by rw [pp_ne _ _ (Or.inr (by decide)), pp_self, pp_ne _ _ (Or.inr (by decide)), hv.2.1]; decide))
  refine WP_iconst (-1) dX11_town_64 rfl ?_
  refine WP_puti dX11_town_65 fX11_224 rfl rfl (ly_is hy _ _ rfl) ?_
  refine WP_aload_n dX11_town_68 rfl ?_
  refine WP_aload_n dX11_town_69 rfl ?_
  refine WP_geti dX11_town_70 fX11_207 rfl (ly_is hy _ _ rfl) ?_
  refine WP_puti dX11_town_73 fX11_335 rfl rfl (ly_is hy _ _ rfl) ?_
  refine l_tw2 hy hr ?_
  refine ⟨(by rw [pp_ne _ _ (Or.inr (by decide)), pp_ne _ _ (Or.inr (by decide)), pp_ne _ _ (Or.inr (by decide)), pp_ne _ _ (Or.inr (by decide)), pp_self]; exact hv.1), (by rw [pp_ne _ _ (Or.inr (by decide)), pp_ne _ _ (Or.inr (by decide)), pp_ne _ _ (Or.inr (by decide)), pp_self, pp_ne _ _ (Or.inr (by decide))]; exact hv.2.1), (by rw [pp_self, pp_ne _ _ (Or.inr (by decide)), pp_ne _ _ (Or.inr (by decide)), pp_ne _ _ (Or.inr (by decide)), pp_ne _ _ (Or.inr (by decide))]; exact hv.2.2.2.2.1)⟩
