theorem n3 : (nI 3).toInt = 3 := rfl
theorem n4 : (nI 4).toInt = 4 := rfl
theorem n7 : (nI 7).toInt = 7 := rfl
theorem n21 : (nI 21).toInt = 21 := rfl
theorem n28 : (nI 28).toInt = 28 := rfl
theorem n35 : (nI 35).toInt = 35 := rfl
set_option maxHeartbeats 4000000 in
set_option maxRecDepth 100000 in
theorem l_rt3 {g : GG} {I : pI} {J : pJ} {R : pR} (hy : Ly g) (hr : Rf g R) (hmc : MC g I) (a : Int32) (N : Nat) (hN : (N : Int) = a.toInt) : ∀ (m k : Nat) (I2 : pI), k + m = N → fx g [P_o_trial, P_o_bought] I I2 → WP g mX11_runTrial 60 [(0, .ref (ad g P_o)), (1, .int a), (2, .int (nI k))] [] I2 J R (fq g [P_o_trial, P_o_bought] I J R) := by
  intro m
  induction m with
  | zero =>
    intro k I2 hk hv
    have har := rng a
    have hm2 : MC g I2 := MC_fx hmc hv (by decide)
    have hkt : (nI k).toInt = (k : Int) := nI_toInt (by omega)
    have c0 : True := trivial
    refine WP_iload_n dX11_runTrial_60 rfl ?_
    refine WP_iload_n dX11_runTrial_61 rfl ?_
    refine WP_icmp_ge 80 dX11_runTrial_62 rfl (fun c62 => ?_) (fun c62 => absurd c62 (by intro cc; (try simp only [hkt, hkt] at cc); (all_goals (try simp only [cmp_lt, cmp_gt] at cc)); (all_goals (try simp only [le32, lt32, eq32, t64, Int32.reduceToInt, Int64.reduceToInt] at cc)); (all_goals (try simp (disch := ((try simp (disch := ((try simp (disch := omega) only [ia, is', im, ja, js, ir, idv, Int32.reduceToInt, Int64.reduceToInt, t64]); omega)) only [ia, is', im, ja, js, ir, idv, Int32.reduceToInt, Int64.reduceToInt, t64]); omega)) only [ia, is', im, ja, js, ir, idv, Int32.reduceToInt, Int64.reduceToInt, t64] at cc)); (all_goals (try simp only [hkt, hkt] at cc)); (all_goals (try simp only [not_true_eq_false, eq_self] at cc)); all_goals omega))
    exact WP_vret dX11_runTrial_80 rfl ⟨rfl, hv, rfl, rfl⟩
  | succ m ih =>
    intro k I2 hk hv
    have har := rng a
    have hm2 : MC g I2 := MC_fx hmc hv (by decide)
    have hkt : (nI k).toInt = (k : Int) := nI_toInt (by omega)
    have c0 : True := trivial
    refine WP_iload_n dX11_runTrial_60 rfl ?_
    refine WP_iload_n dX11_runTrial_61 rfl ?_
    refine WP_icmp_ge 80 dX11_runTrial_62 rfl (fun c62 => absurd c62 (by intro cc; (try simp only [hkt, hkt] at cc); (all_goals (try simp only [cmp_lt, cmp_gt] at cc)); (all_goals (try simp only [le32, lt32, eq32, t64, Int32.reduceToInt, Int64.reduceToInt] at cc)); (all_goals (try simp (disch := ((try simp (disch := ((try simp (disch := omega) only [ia, is', im, ja, js, ir, idv, Int32.reduceToInt, Int64.reduceToInt, t64]); omega)) only [ia, is', im, ja, js, ir, idv, Int32.reduceToInt, Int64.reduceToInt, t64]); omega)) only [ia, is', im, ja, js, ir, idv, Int32.reduceToInt, Int64.reduceToInt, t64] at cc)); (all_goals (try simp only [hkt, hkt] at cc)); (all_goals (try simp only [not_true_eq_false, eq_self] at cc)); all_goals omega)) (fun c62 => ?_)
    refine WP_aload_n dX11_runTrial_65 rfl ?_
    refine WP_aload_n dX11_runTrial_66 rfl ?_
    refine WP_getr dX11_runTrial_67 fX11_286 rfl (ly_is hy _ _ rfl) (rf hr 0 60 39 (by decide)) ?_
    refine WP_callV1d (k := 11) dX11_runTrial_70 ⟨⟨⟨by decide, by decide⟩, zX11_dayOf⟩, lX11_484, by decide, rfl, vX11_dayOf.1, vX11_dayOf.2⟩ (ly_is hy _ _ rfl) (s_dayOf hy hr hm2 P_o_trial rfl rfl (by decide)) (Nat.le_of_ble_eq_true rfl) ?_
    refine WP_pop2l dX11_runTrial_73 rfl ?_
    refine WP_iinc (ls' := [(0, _), (1, _), (2, _)]) dX11_runTrial_74 rfl (by decide) rfl ?_
    refine WP_goto 60 dX11_runTrial_77 rfl ?_
    refine WP_sub (ls' := [(0, .ref (ad g P_o)), (1, .int a), (2, .int (nI (k + 1)))]) (fc rfl (fc rfl (fc (by rw [← nI_1]; rfl) fn))) (ih (k + 1) _ (by omega) ?_)
    exact fx_pp hy hv (by decide) (by decide)
set_option maxHeartbeats 4000000 in
set_option maxRecDepth 100000 in
theorem l_rt2 {g : GG} {I : pI} {J : pJ} {R : pR} (hy : Ly g) (hr : Rf g R) (hmc : MC g I) (a : Int32) (N : Nat) (hN : (N : Int) = a.toInt) : ∀ (m k : Nat) (I2 : pI), k + m = 21 → fx g [P_o_trial, P_o_bought] I I2 → WP g mX11_runTrial 36 [(0, .ref (ad g P_o)), (1, .int a), (2, .int (nI k))] [] I2 J R (fq g [P_o_trial, P_o_bought] I J R) := by
  intro m
  induction m with
  | zero =>
    intro k I2 hk hv
    have hm2 : MC g I2 := MC_fx hmc hv (by decide)
    have hkt : (nI k).toInt = (k : Int) := nI_toInt (by omega)
    have c0 : True := trivial
    refine WP_iload_n dX11_runTrial_36 rfl ?_
    refine WP_aload_n dX11_runTrial_37 rfl ?_
    refine WP_getr dX11_runTrial_38 fX11_292 rfl (ly_is hy _ _ rfl) (rf hr 0 63 41 (by decide)) ?_
    refine WP_alen dX11_runTrial_41 (ly_is hy _ _ rfl) (by decide) ?_
    rw [ly_n hy _ _ rfl]
    refine WP_icmp_ge 58 dX11_runTrial_42 rfl (fun c42 => ?_) (fun c42 => absurd c42 (by intro cc; (try simp only [hkt, n21, hkt] at cc); (all_goals (try simp only [cmp_lt, cmp_gt] at cc)); (all_goals (try simp only [le32, lt32, eq32, t64, Int32.reduceToInt, Int64.reduceToInt] at cc)); (all_goals (try simp (disch := ((try simp (disch := ((try simp (disch := omega) only [ia, is', im, ja, js, ir, idv, Int32.reduceToInt, Int64.reduceToInt, t64]); omega)) only [ia, is', im, ja, js, ir, idv, Int32.reduceToInt, Int64.reduceToInt, t64]); omega)) only [ia, is', im, ja, js, ir, idv, Int32.reduceToInt, Int64.reduceToInt, t64] at cc)); (all_goals (try simp only [hkt, n21, hkt] at cc)); (all_goals (try simp only [not_true_eq_false, eq_self] at cc)); all_goals omega))
    refine WP_iconst (0) dX11_runTrial_58 rfl ?_
    refine WP_istore_n (ls' := [(0, _), (1, _), (2, _)]) dX11_runTrial_59 (by decide) rfl ?_
    have har := rng a
    refine WP_sub (ls' := [(0, .ref (ad g P_o)), (1, .int a), (2, .int (nI 0))]) (fc rfl (fc rfl (fc rfl fn))) (l_rt3 (I := I) (J := J) hy hr hmc a N hN N 0 _ (by omega) ?_)
    exact hv
  | succ m ih =>
    intro k I2 hk hv
    have hm2 : MC g I2 := MC_fx hmc hv (by decide)
    have hkt : (nI k).toInt = (k : Int) := nI_toInt (by omega)
    have c0 : True := trivial
    refine WP_iload_n dX11_runTrial_36 rfl ?_
    refine WP_aload_n dX11_runTrial_37 rfl ?_
    refine WP_getr dX11_runTrial_38 fX11_292 rfl (ly_is hy _ _ rfl) (rf hr 0 63 41 (by decide)) ?_
    refine WP_alen dX11_runTrial_41 (ly_is hy _ _ rfl) (by decide) ?_
    rw [ly_n hy _ _ rfl]
    refine WP_icmp_ge 58 dX11_runTrial_42 rfl (fun c42 => absurd c42 (by intro cc; (try simp only [hkt, n21, hkt] at cc); (all_goals (try simp only [cmp_lt, cmp_gt] at cc)); (all_goals (try simp only [le32, lt32, eq32, t64, Int32.reduceToInt, Int64.reduceToInt] at cc)); (all_goals (try simp (disch := ((try simp (disch := ((try simp (disch := omega) only [ia, is', im, ja, js, ir, idv, Int32.reduceToInt, Int64.reduceToInt, t64]); omega)) only [ia, is', im, ja, js, ir, idv, Int32.reduceToInt, Int64.reduceToInt, t64]); omega)) only [ia, is', im, ja, js, ir, idv, Int32.reduceToInt, Int64.reduceToInt, t64] at cc)); (all_goals (try simp only [hkt, n21, hkt] at cc)); (all_goals (try simp only [not_true_eq_false, eq_self] at cc)); all_goals omega)) (fun c42 => ?_)
    refine WP_aload_n dX11_runTrial_45 rfl ?_
    refine WP_getr dX11_runTrial_46 fX11_292 rfl (ly_is hy _ _ rfl) (rf hr 0 63 41 (by decide)) ?_
    refine WP_iload_n dX11_runTrial_49 rfl ?_
    refine WP_iconst (0) dX11_runTrial_50 rfl ?_
    refine WP_iast dX11_runTrial_51 (ly_is hy _ _ rfl) (ly_in hy _ _ rfl (by (try simp only [hkt, n21, hkt] at c0 c42 ⊢); (all_goals (try simp only [cmp_lt, cmp_gt] at c0 c42 ⊢)); (all_goals (try simp only [le32, lt32, eq32, t64, vp_in_iff, Int32.reduceToInt, Int64.reduceToInt] at c0 c42 ⊢)); (all_goals (try simp (disch := ((try simp (disch := ((try simp (disch := omega) only [ia, is', im, ja, js, ir, idv, Int32.reduceToInt, Int64.reduceToInt, t64]); omega)) only [ia, is', im, ja, js, ir, idv, Int32.reduceToInt, Int64.reduceToInt, t64]); omega)) only [ia, is', im, ja, js, ir, idv, Int32.reduceToInt, Int64.reduceToInt, t64] at c0 c42 ⊢)); (all_goals (try simp only [hkt, n21, hkt] at c0 c42 ⊢)); all_goals (first | (constructor <;> omega) | (exfalso; omega)))) ?_
    refine WP_iinc (ls' := [(0, _), (1, _), (2, _)]) dX11_runTrial_52 rfl (by decide) rfl ?_
    refine WP_goto 36 dX11_runTrial_55 rfl ?_
    refine WP_sub (ls' := [(0, .ref (ad g P_o)), (1, .int a), (2, .int (nI (k + 1)))]) (fc rfl (fc rfl (fc (by rw [← nI_1]; rfl) fn))) (ih (k + 1) _ (by omega) ?_)
    exact fx_pp hy hv (by decide) (by decide)
set_option maxHeartbeats 4000000 in
set_option maxRecDepth 100000 in
theorem l_rt1 {g : GG} {I : pI} {J : pJ} {R : pR} (hy : Ly g) (hr : Rf g R) (hmc : MC g I) (a : Int32) (N : Nat) (hN : (N : Int) = a.toInt) : ∀ (m k : Nat) (I2 : pI), k + m = 35 → fx g [P_o_trial, P_o_bought] I I2 → WP g mX11_runTrial 2 [(0, .ref (ad g P_o)), (1, .int a), (2, .int (nI k))] [] I2 J R (fq g [P_o_trial, P_o_bought] I J R) := by
  intro m
  induction m with
  | zero =>
    intro k I2 hk hv
    have hm2 : MC g I2 := MC_fx hmc hv (by decide)
    have hkt : (nI k).toInt = (k : Int) := nI_toInt (by omega)
    have c0 : True := trivial
    refine WP_iload_n dX11_runTrial_2 rfl ?_
    refine WP_bipush (35) dX11_runTrial_3 rfl ?_
    refine WP_icmp_ge 26 dX11_runTrial_5 rfl (fun c5 => ?_) (fun c5 => absurd c5 (by intro cc; (try simp only [hkt, hkt] at cc); (all_goals (try simp only [cmp_lt, cmp_gt] at cc)); (all_goals (try simp only [le32, lt32, eq32, t64, Int32.reduceToInt, Int64.reduceToInt] at cc)); (all_goals (try simp (disch := ((try simp (disch := ((try simp (disch := omega) only [ia, is', im, ja, js, ir, idv, Int32.reduceToInt, Int64.reduceToInt, t64]); omega)) only [ia, is', im, ja, js, ir, idv, Int32.reduceToInt, Int64.reduceToInt, t64]); omega)) only [ia, is', im, ja, js, ir, idv, Int32.reduceToInt, Int64.reduceToInt, t64] at cc)); (all_goals (try simp only [hkt, hkt] at cc)); (all_goals (try simp only [not_true_eq_false, eq_self] at cc)); all_goals omega))
    refine WP_aload_n dX11_runTrial_26 rfl ?_
    refine WP_aload_n dX11_runTrial_27 rfl ?_
    refine WP_getr dX11_runTrial_28 fX11_286 rfl (ly_is hy _ _ rfl) (rf hr 0 60 39 (by decide)) ?_
    refine WP_callV1 (k := 11) dX11_runTrial_31 ⟨⟨⟨by decide, by decide⟩, zX11_begin⟩, lX11_342, by decide, rfl, vX11_begin.1, vX11_begin.2⟩ (ly_is hy _ _ rfl) (s_begin hy hr hm2.1 P_o_trial rfl rfl (by decide)) (Nat.le_of_ble_eq_true rfl) ?_
    rintro r I3 J3 R3 ⟨rfl, hx3, eJ, eR⟩
    rw [eJ, eR]
    simp only [Option.toList, List.cons_append, List.nil_append]
    refine WP_iconst (0) dX11_runTrial_34 rfl ?_
    refine WP_istore_n (ls' := [(0, _), (1, _), (2, _)]) dX11_runTrial_35 (by decide) rfl ?_
    refine WP_sub (ls' := [(0, .ref (ad g P_o)), (1, .int a), (2, .int (nI 0))]) (fc rfl (fc rfl (fc rfl fn))) (l_rt2 (I := I) (J := J) hy hr hmc a N hN 21 0 _ (by omega) ?_)
    exact fx_tr hv (fx_mono hx3 (by decide))
  | succ m ih =>
    intro k I2 hk hv
    have hm2 : MC g I2 := MC_fx hmc hv (by decide)
    have hkt : (nI k).toInt = (k : Int) := nI_toInt (by omega)
    have c0 : True := trivial
    refine WP_iload_n dX11_runTrial_2 rfl ?_
    refine WP_bipush (35) dX11_runTrial_3 rfl ?_
    refine WP_icmp_ge 26 dX11_runTrial_5 rfl (fun c5 => absurd c5 (by intro cc; (try simp only [hkt, hkt] at cc); (all_goals (try simp only [cmp_lt, cmp_gt] at cc)); (all_goals (try simp only [le32, lt32, eq32, t64, Int32.reduceToInt, Int64.reduceToInt] at cc)); (all_goals (try simp (disch := ((try simp (disch := ((try simp (disch := omega) only [ia, is', im, ja, js, ir, idv, Int32.reduceToInt, Int64.reduceToInt, t64]); omega)) only [ia, is', im, ja, js, ir, idv, Int32.reduceToInt, Int64.reduceToInt, t64]); omega)) only [ia, is', im, ja, js, ir, idv, Int32.reduceToInt, Int64.reduceToInt, t64] at cc)); (all_goals (try simp only [hkt, hkt] at cc)); (all_goals (try simp only [not_true_eq_false, eq_self] at cc)); all_goals omega)) (fun c5 => ?_)
    refine WP_aload_n dX11_runTrial_8 rfl ?_
    refine WP_getr dX11_runTrial_9 fX11_286 rfl (ly_is hy _ _ rfl) (rf hr 0 60 39 (by decide)) ?_
    refine WP_iload_n dX11_runTrial_12 rfl ?_
    refine WP_aload_n dX11_runTrial_13 rfl ?_
    refine WP_getr dX11_runTrial_14 fX11_283 rfl (ly_is hy _ _ rfl) (rf hr 0 59 38 (by decide)) ?_
    refine WP_iload_n dX11_runTrial_17 rfl ?_
    refine WP_iald dX11_runTrial_18 (ly_is hy _ _ rfl) (ly_in hy _ _ rfl (by (try simp only [hkt, hkt] at c0 c5 ⊢); (all_goals (try simp only [cmp_lt, cmp_gt] at c0 c5 ⊢)); (all_goals (try simp only [le32, lt32, eq32, t64, vp_in_iff, Int32.reduceToInt, Int64.reduceToInt] at c0 c5 ⊢)); (all_goals (try simp (disch := ((try simp (disch := ((try simp (disch := omega) only [ia, is', im, ja, js, ir, idv, Int32.reduceToInt, Int64.reduceToInt, t64]); omega)) only [ia, is', im, ja, js, ir, idv, Int32.reduceToInt, Int64.reduceToInt, t64]); omega)) only [ia, is', im, ja, js, ir, idv, Int32.reduceToInt, Int64.reduceToInt, t64] at c0 c5 ⊢)); (all_goals (try simp only [hkt, hkt] at c0 c5 ⊢)); all_goals (first | (constructor <;> omega) | (exfalso; omega)))) ?_
    refine WP_iast dX11_runTrial_19 (ly_is hy _ _ rfl) (ly_in hy _ _ rfl (by (try simp only [hkt, hkt] at c0 c5 ⊢); (all_goals (try simp only [cmp_lt, cmp_gt] at c0 c5 ⊢)); (all_goals (try simp only [le32, lt32, eq32, t64, vp_in_iff, Int32.reduceToInt, Int64.reduceToInt] at c0 c5 ⊢)); (all_goals (try simp (disch := ((try simp (disch := ((try simp (disch := omega) only [ia, is', im, ja, js, ir, idv, Int32.reduceToInt, Int64.reduceToInt, t64]); omega)) only [ia, is', im, ja, js, ir, idv, Int32.reduceToInt, Int64.reduceToInt, t64]); omega)) only [ia, is', im, ja, js, ir, idv, Int32.reduceToInt, Int64.reduceToInt, t64] at c0 c5 ⊢)); (all_goals (try simp only [hkt, hkt] at c0 c5 ⊢)); all_goals (first | (constructor <;> omega) | (exfalso; omega)))) ?_
    refine WP_iinc (ls' := [(0, _), (1, _), (2, _)]) dX11_runTrial_20 rfl (by decide) rfl ?_
    refine WP_goto 2 dX11_runTrial_23 rfl ?_
    refine WP_sub (ls' := [(0, .ref (ad g P_o)), (1, .int a), (2, .int (nI (k + 1)))]) (fc rfl (fc rfl (fc (by rw [← nI_1]; rfl) fn))) (ih (k + 1) _ (by omega) ?_)
    exact fx_pp hy hv (by decide) (by decide)
set_option maxHeartbeats 4000000 in
set_option maxRecDepth 100000 in
theorem s_runTrial {g : GG} {I : pI} {J : pJ} {R : pR} (hy : Ly g) (hr : Rf g R) (hmc : MC g I) (a : Int32) (N : Nat) (hN : (N : Int) = a.toInt) : SP g mX11_runTrial [.ref (ad g P_o), .int a] I J R (fq g [P_o_trial, P_o_bought] I J R) := by
  refine SP_of ⟨by decide, rfl⟩ (Nat.le_of_ble_eq_true rfl) ?_
  have c0 : True := trivial
  refine WP_iconst (0) dX11_runTrial_0 rfl ?_
  refine WP_istore_n (ls' := [(0, _), (1, _), (2, _)]) dX11_runTrial_1 (by decide) rfl ?_
  refine WP_sub (ls' := [(0, .ref (ad g P_o)), (1, .int a), (2, .int (nI 0))]) (fc rfl (fc rfl (fc rfl fn))) (l_rt1 (I := I) (J := J) hy hr hmc a N hN 35 0 _ (by omega) ?_)
  exact fx_rf
theorem MC_p {g : GG} (hy : Ly g) {I : pI} (h : MC g I) (q : Nat) (v : Int32) (hq : q ≠ 10 ∧ q ≠ 11 ∧ q ≠ 13 ∧ q ≠ 14) : MC g (pp I (ad g P_o) q v) := MC_pp hy h (by decide) (by decide) (Or.inr hq)
/-- the answer, and what stays -/
def rm (g : GG) (v : Int32) (R : pR) : Post := fun r I' _ R' => r = some (.int v) ∧ MC g I' ∧ R' = R
set_option maxHeartbeats 4000000 in
set_option maxRecDepth 100000 in
theorem s_worthOf {g : GG} {I : pI} {J : pJ} {R : pR} (hy : Ly g) (hr : Rf g R) (hmc : MC g I) (a b : Int32) (hb : 1 ≤ b.toInt ∧ b.toInt ≤ 4) : SP g mX11_worthOf [.ref (ad g P_o), .int a, .int b] I J R (rm g 0 R) := by
  refine SP_of ⟨by decide, rfl⟩ (Nat.le_of_ble_eq_true rfl) ?_
  have c0 : True := trivial
  have e7 : ((7 : Int32) * b).toInt = 7 * b.toInt := by have e : (7 : Int32).toInt = 7 := rfl; rw [im (by rw [e]; omega) (by rw [e]; omega), e]
  refine WP_aload_n dX11_worthOf_0 rfl ?_
  refine WP_bipush (50) dX11_worthOf_1 rfl ?_
  refine WP_iload_n dX11_worthOf_3 rfl ?_
  refine WP_imul dX11_worthOf_4 ?_
  refine WP_puti dX11_worthOf_5 fX11_273 rfl rfl (ly_is hy _ _ rfl) ?_
  refine WP_aload_n dX11_worthOf_8 rfl ?_
  refine WP_callV0 (k := 11) dX11_worthOf_9 ⟨⟨⟨by decide, by decide⟩, zX11_forgetWeeks⟩, lX11_350, by decide, rfl, vX11_forgetWeeks.1, vX11_forgetWeeks.2⟩ (ly_is hy _ _ rfl) (s_forgetWeeks hy hr) (Nat.le_of_ble_eq_true rfl) ?_
  rintro r I3 J3 R3 ⟨rfl, hx3, eJ, eR⟩
  rw [eJ, eR]
  simp only [Option.toList, List.cons_append, List.nil_append]
  have hm3 : MC g I3 := MC_fx (MC_p hy hmc 55 _ (by decide)) hx3 (by decide)
  refine WP_aload_n dX11_worthOf_12 rfl ?_
  refine WP_bipush (7) dX11_worthOf_13 rfl ?_
  refine WP_iload_n dX11_worthOf_15 rfl ?_
  refine WP_imul dX11_worthOf_16 ?_
  refine WP_callV1 (k := 11) dX11_worthOf_17 ⟨⟨⟨by decide, by decide⟩, zX11_runTrial⟩, lX11_497, by decide, rfl, vX11_runTrial.1, vX11_runTrial.2⟩ (ly_is hy _ _ rfl) (s_runTrial hy hr hm3 _ (7 * b.toInt).toNat (by rw [e7]; omega)) (Nat.le_of_ble_eq_true rfl) ?_
  rintro r I4 J4 R4 ⟨rfl, hx4, eJ, eR⟩
  rw [eJ, eR]
  simp only [Option.toList, List.cons_append, List.nil_append]
  have hm4 : MC g I4 := MC_fx hm3 hx4 (by decide)
  refine WP_aload_n dX11_worthOf_20 rfl ?_
  refine WP_iconst (-1) dX11_worthOf_21 rfl ?_
  refine WP_puti dX11_worthOf_22 fX11_273 rfl rfl (ly_is hy _ _ rfl) ?_
  refine WP_aload_n dX11_worthOf_25 rfl ?_
  refine WP_callV0 (k := 11) dX11_worthOf_26 ⟨⟨⟨by decide, by decide⟩, zX11_forgetWeeks⟩, lX11_350, by decide, rfl, vX11_forgetWeeks.1, vX11_forgetWeeks.2⟩ (ly_is hy _ _ rfl) (s_forgetWeeks hy hr) (Nat.le_of_ble_eq_true rfl) ?_
  rintro r I5 J5 R5 ⟨rfl, hx5, eJ, eR⟩
  rw [eJ, eR]
  simp only [Option.toList, List.cons_append, List.nil_append]
  have hm5 : MC g I5 := MC_fx (MC_p hy hm4 55 _ (by decide)) hx5 (by decide)
  have hm6 := hm5
  obtain ⟨h_sorts, h_things, h_chestSort, h_storedThing, h_rot⟩ := hm5
  refine WP_iconst (0) dX11_worthOf_29 rfl ?_
  refine WP_istore_n (ls' := [(0, _), (1, _), (2, _), (3, _)]) dX11_worthOf_30 (by decide) rfl ?_
  refine WP_iconst (0) dX11_worthOf_31 rfl ?_
  refine WP_istore (ls' := [(0, _), (1, _), (2, _), (3, _), (4, _)]) dX11_worthOf_32 (by decide) rfl ?_
  refine WP_iload dX11_worthOf_34 rfl ?_
  refine WP_aload_n dX11_worthOf_36 rfl ?_
  refine WP_geti dX11_worthOf_37 fX11_329 rfl (ly_is hy _ _ rfl) ?_
  refine WP_icmp_ge 62 dX11_worthOf_40 rfl (fun c40 => ?_) (fun c40 => absurd c40 (by intro cc; (try simp only [h_sorts, h_things, h_chestSort, h_storedThing, h_rot] at cc); (all_goals (try simp only [cmp_lt, cmp_gt] at cc)); (all_goals (try simp only [le32, lt32, eq32, t64, Int32.reduceToInt, Int64.reduceToInt] at cc)); (all_goals (try simp (disch := ((try simp (disch := ((try simp (disch := omega) only [ia, is', im, ja, js, ir, idv, Int32.reduceToInt, Int64.reduceToInt, t64]); omega)) only [ia, is', im, ja, js, ir, idv, Int32.reduceToInt, Int64.reduceToInt, t64]); omega)) only [ia, is', im, ja, js, ir, idv, Int32.reduceToInt, Int64.reduceToInt, t64] at cc)); (all_goals (try simp only [h_sorts, h_things, h_chestSort, h_storedThing, h_rot] at cc)); (all_goals (try simp only [not_true_eq_false, eq_self] at cc)); all_goals omega))
  refine WP_iload_n dX11_worthOf_62 rfl ?_
  exact WP_iret dX11_worthOf_63 rfl ⟨rfl, hm6, rfl⟩
set_option maxHeartbeats 4000000 in
set_option maxRecDepth 100000 in
theorem fr_worthAt {g : GG} {I : pI} {J : pJ} {R : pR} (hy : Ly g) (hr : Rf g R) (hf : MF g I J) (a b : Int32) : SP g mX11_worthAt [.ref (ad g P_o), .int a, .int b] I J R (rq (if (0 ≤ a.toInt ∧ a.toInt ≤ 18) ∧ 1 ≤ b.toInt ∧ b.toInt ≤ 4 then 0 else -2)) := by
  refine SP_of ⟨by decide, rfl⟩ (Nat.le_of_ble_eq_true rfl) ?_
  have c0 : True := trivial
  obtain ⟨hmc, h_taped, h_fault, h_faultAt, h_clauses, h_turnsTold, h_held, h_now, h_kept⟩ := hf
  have hmc0 := hmc
  obtain ⟨h_sorts, h_things, h_chestSort, h_storedThing, h_rot⟩ := hmc
  refine WP_iload_n dX11_worthAt_0 rfl ?_
  refine WP_i2l dX11_worthAt_1 ?_
  refine WP_lconst (0) dX11_worthAt_2 rfl ?_
  refine WP_ldc2 (18) dX11_worthAt_3 klX11_500 ?_
  refine WP_callS3p dX11_worthAt_6 ⟨⟨⟨by decide, by decide⟩, zX11_in⟩, lX11_52, tX11_in⟩ (s_in _ _ _) (Nat.le_of_ble_eq_true rfl) ?_
  refine WP_ifb_eq 33 dX11_worthAt_9 rfl (fun c9 => ?_) (fun c9 => ?_)
  · refine WP_bipush (-2) dX11_worthAt_33 rfl ?_
    exact WP_iret dX11_worthAt_35 rfl (by unfold rq; (try simp only [h_taped, h_fault, h_faultAt, h_clauses, h_turnsTold, h_held, h_sorts, h_things, h_chestSort, h_storedThing, h_rot] at c0 c9 ⊢); (all_goals (try simp only [cmp_lt, cmp_gt] at c0 c9 ⊢)); (all_goals (try simp only [le32, lt32, eq32, t64, vp_in_iff, Int32.reduceToInt, Int64.reduceToInt] at c0 c9)); (all_goals (try simp (disch := ((try simp (disch := ((try simp (disch := omega) only [ia, is', im, ja, js, ir, idv, Int32.reduceToInt, Int64.reduceToInt, t64]); omega)) only [ia, is', im, ja, js, ir, idv, Int32.reduceToInt, Int64.reduceToInt, t64]); omega)) only [ia, is', im, ja, js, ir, idv, Int32.reduceToInt, Int64.reduceToInt, t64] at c0 c9 ⊢)); (all_goals (try simp only [h_taped, h_fault, h_faultAt, h_clauses, h_turnsTold, h_held, h_sorts, h_things, h_chestSort, h_storedThing, h_rot] at c0 c9 ⊢)); (all_goals (first | rfl | (rw [if_pos (by omega)]; done) | (rw [if_neg (by omega)]; done) | (rw [if_neg (by omega), if_pos (by omega)]; done) | (rw [if_neg (by omega), if_neg (by omega)]; done) | (exfalso; omega))))
  · refine WP_iload_n dX11_worthAt_12 rfl ?_
    refine WP_i2l dX11_worthAt_13 ?_
    refine WP_lconst (1) dX11_worthAt_14 rfl ?_
    refine WP_ldc2 (4) dX11_worthAt_15 klX11_452 ?_
    refine WP_callS3p dX11_worthAt_18 ⟨⟨⟨by decide, by decide⟩, zX11_in⟩, lX11_52, tX11_in⟩ (s_in _ _ _) (Nat.le_of_ble_eq_true rfl) ?_
    refine WP_ifb_eq 33 dX11_worthAt_21 rfl (fun c21 => ?_) (fun c21 => ?_)
    · refine WP_bipush (-2) dX11_worthAt_33 rfl ?_
      exact WP_iret dX11_worthAt_35 rfl (by unfold rq; (try simp only [h_taped, h_fault, h_faultAt, h_clauses, h_turnsTold, h_held, h_sorts, h_things, h_chestSort, h_storedThing, h_rot] at c0 c9 c21 ⊢); (all_goals (try simp only [cmp_lt, cmp_gt] at c0 c9 c21 ⊢)); (all_goals (try simp only [le32, lt32, eq32, t64, vp_in_iff, Int32.reduceToInt, Int64.reduceToInt] at c0 c9 c21)); (all_goals (try simp (disch := ((try simp (disch := ((try simp (disch := omega) only [ia, is', im, ja, js, ir, idv, Int32.reduceToInt, Int64.reduceToInt, t64]); omega)) only [ia, is', im, ja, js, ir, idv, Int32.reduceToInt, Int64.reduceToInt, t64]); omega)) only [ia, is', im, ja, js, ir, idv, Int32.reduceToInt, Int64.reduceToInt, t64] at c0 c9 c21 ⊢)); (all_goals (try simp only [h_taped, h_fault, h_faultAt, h_clauses, h_turnsTold, h_held, h_sorts, h_things, h_chestSort, h_storedThing, h_rot] at c0 c9 c21 ⊢)); (all_goals (first | rfl | (rw [if_pos (by omega)]; done) | (rw [if_neg (by omega)]; done) | (rw [if_neg (by omega), if_pos (by omega)]; done) | (rw [if_neg (by omega), if_neg (by omega)]; done) | (exfalso; omega))))
    · refine WP_aload_n dX11_worthAt_24 rfl ?_
      refine WP_iload_n dX11_worthAt_25 rfl ?_
      refine WP_iload_n dX11_worthAt_26 rfl ?_
      refine WP_callV2 (k := 11) dX11_worthAt_27 ⟨⟨⟨by decide, by decide⟩, zX11_worthOf⟩, lX11_502, by decide, rfl, vX11_worthOf.1, vX11_worthOf.2⟩ (ly_is hy _ _ rfl) (s_worthOf hy hr hmc0 _ _ (by simp only [t64, Int64.reduceToInt] at c21; omega)) (Nat.le_of_ble_eq_true rfl) ?_
      rintro r I3 J3 R3 ⟨rfl, hm3, eR⟩
      rw [eR]
      simp only [Option.toList, List.cons_append, List.nil_append]
      refine WP_goto 35 dX11_worthAt_30 rfl ?_
      exact WP_iret dX11_worthAt_35 rfl (by unfold rq; (try simp only [h_taped, h_fault, h_faultAt, h_clauses, h_turnsTold, h_held, h_sorts, h_things, h_chestSort, h_storedThing, h_rot] at c0 c9 c21 ⊢); (all_goals (try simp only [cmp_lt, cmp_gt] at c0 c9 c21 ⊢)); (all_goals (try simp only [le32, lt32, eq32, t64, vp_in_iff, Int32.reduceToInt, Int64.reduceToInt] at c0 c9 c21)); (all_goals (try simp (disch := ((try simp (disch := ((try simp (disch := omega) only [ia, is', im, ja, js, ir, idv, Int32.reduceToInt, Int64.reduceToInt, t64]); omega)) only [ia, is', im, ja, js, ir, idv, Int32.reduceToInt, Int64.reduceToInt, t64]); omega)) only [ia, is', im, ja, js, ir, idv, Int32.reduceToInt, Int64.reduceToInt, t64] at c0 c9 c21 ⊢)); (all_goals (try simp only [h_taped, h_fault, h_faultAt, h_clauses, h_turnsTold, h_held, h_sorts, h_things, h_chestSort, h_storedThing, h_rot] at c0 c9 c21 ⊢)); (all_goals (first | rfl | (rw [if_pos (by omega)]; done) | (rw [if_neg (by omega)]; done) | (rw [if_neg (by omega), if_pos (by omega)]; done) | (rw [if_neg (by omega), if_neg (by omega)]; done) | (exfalso; omega))))
-- rate
set_option maxHeartbeats 4000000 in
set_option maxRecDepth 100000 in
theorem l_rate {g : GG} {I : pI} {J : pJ} {R : pR} (hy : Ly g) (hr : Rf g R) (a : Int32) (ha : 1 ≤ a.toInt ∧ a.toInt ≤ 4) (mo : Int32) (hmo : mo = 0) : ∀ (m k : Nat) (I2 : pI) (J2 : pJ), k + m = 19 → (MC g I2 ∧ 1 ≤ k) → WP g mX11_rate 22 [(0, .ref (ad g P_o)), (1, .int a), (2, .int 0), (3, .int mo), (4, .int (nI k))] [] I2 J2 R (rq 0) := by
  intro m
  induction m with
  | zero =>
    intro k I2 J2 hk hv
    have hkt : (nI k).toInt = (k : Int) := nI_toInt (by omega)
    have c0 : True := trivial
    refine WP_iload dX11_rate_22 rfl ?_
    refine WP_bipush (19) dX11_rate_24 rfl ?_
    refine WP_icmp_ge 59 dX11_rate_26 rfl (fun c26 => ?_) (fun c26 => absurd c26 (by intro cc; (try simp only [hkt, hkt] at cc); (all_goals (try simp only [cmp_lt, cmp_gt] at cc)); (all_goals (try simp only [le32, lt32, eq32, t64, Int32.reduceToInt, Int64.reduceToInt] at cc)); (all_goals (try simp (disch := ((try simp (disch := ((try simp (disch := omega) only [ia, is', im, ja, js, ir, idv, Int32.reduceToInt, Int64.reduceToInt, t64]); omega)) only [ia, is', im, ja, js, ir, idv, Int32.reduceToInt, Int64.reduceToInt, t64]); omega)) only [ia, is', im, ja, js, ir, idv, Int32.reduceToInt, Int64.reduceToInt, t64] at cc)); (all_goals (try simp only [hkt, hkt] at cc)); (all_goals (try simp only [not_true_eq_false, eq_self] at cc)); all_goals omega))
    refine WP_iload_n dX11_rate_59 rfl ?_
    exact WP_iret dX11_rate_60 rfl rfl
  | succ m ih =>
    intro k I2 J2 hk hv
    have hkt : (nI k).toInt = (k : Int) := nI_toInt (by omega)
    have c0 : True := trivial
    refine WP_iload dX11_rate_22 rfl ?_
    refine WP_bipush (19) dX11_rate_24 rfl ?_
    refine WP_icmp_ge 59 dX11_rate_26 rfl (fun c26 => absurd c26 (by intro cc; (try simp only [hkt, hkt] at cc); (all_goals (try simp only [cmp_lt, cmp_gt] at cc)); (all_goals (try simp only [le32, lt32, eq32, t64, Int32.reduceToInt, Int64.reduceToInt] at cc)); (all_goals (try simp (disch := ((try simp (disch := ((try simp (disch := omega) only [ia, is', im, ja, js, ir, idv, Int32.reduceToInt, Int64.reduceToInt, t64]); omega)) only [ia, is', im, ja, js, ir, idv, Int32.reduceToInt, Int64.reduceToInt, t64]); omega)) only [ia, is', im, ja, js, ir, idv, Int32.reduceToInt, Int64.reduceToInt, t64] at cc)); (all_goals (try simp only [hkt, hkt] at cc)); (all_goals (try simp only [not_true_eq_false, eq_self] at cc)); all_goals omega)) (fun c26 => ?_)
    refine WP_aload_n dX11_rate_29 rfl ?_
    refine WP_iload dX11_rate_30 rfl ?_
    refine WP_iload_n dX11_rate_32 rfl ?_
    refine WP_callV2 (k := 11) dX11_rate_33 ⟨⟨⟨by decide, by decide⟩, zX11_worthOf⟩, lX11_502, by decide, rfl, vX11_worthOf.1, vX11_worthOf.2⟩ (ly_is hy _ _ rfl) (s_worthOf hy hr hv.1 _ _ ha) (Nat.le_of_ble_eq_true rfl) ?_
    rintro r I3 J3 R3 ⟨rfl, hm3, eR⟩
    rw [eR]
    simp only [Option.toList, List.cons_append, List.nil_append]
    refine WP_istore (ls' := [(0, _), (1, _), (2, _), (3, _), (4, _), (5, _)]) dX11_rate_36 (by decide) rfl ?_
    refine WP_iload dX11_rate_38 rfl ?_
    refine WP_iload_n dX11_rate_40 rfl ?_
    refine WP_icmp_gt 47 dX11_rate_41 rfl (fun c41 => absurd c41 (by intro cc; rw [hmo] at cc; exact absurd cc (by decide))) (fun c41 => ?_)
    refine WP_goto 53 dX11_rate_44 rfl ?_
    refine WP_iinc (ls' := [(0, _), (1, _), (2, _), (3, _), (4, _), (5, _)]) dX11_rate_53 rfl (by decide) rfl ?_
    refine WP_goto 22 dX11_rate_56 rfl ?_
    refine WP_sub (ls' := [(0, .ref (ad g P_o)), (1, .int a), (2, .int 0), (3, .int mo), (4, .int (nI (k + 1)))]) (fc rfl (fc rfl (fc rfl (fc rfl (fc (by rw [← nI_1]; rfl) fn))))) (ih (k + 1) _ _ (by omega) ?_)
    exact ⟨hm3, by omega⟩
