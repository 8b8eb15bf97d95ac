set_option maxHeartbeats 4000000 in
set_option maxRecDepth 100000 in
theorem l_lossesAt {g : GG} {I : pI} {J : pJ} {R : pR} (hy : LyX g) (hr : RfX g R) (h_town : R (ad g P_market) 0 = some (ad g P_ta)) (a : Int32)  : ∀ (m k : Nat) (I2 : pI), k + m = 7 → fxX g [P_market_losses] I I2 → WP g mX0_lossesAt 2 [(0, .ref (ad g P_market)), (1, .int a), (2, .int (nI k))] [] I2 J R (fqX g [P_market_losses, P_market_behindStamps] I J R) := by
  intro m
  induction m with
  | zero =>
    intro k I2 hk hv
    have hkt : (nI k).toInt = (k : Int) := nI_toInt (by omega)
    have c0 : True := trivial
    refine WP_iload_n dX0_lossesAt_2 rfl ?_
    refine WP_bipush (7) dX0_lossesAt_3 rfl ?_
    refine WP_icmp_ge 37 dX0_lossesAt_5 rfl (fun c5 => ?_) (fun c5 => absurd c5 (by intro cc; (try simp only [hkt, hkt] at cc); (all_goals (try simp only [cmp_lt, cmp_gt] at cc)); (all_goals (try simp only [le32, lt32, eq32, t64, Int32.reduceToInt, Int64.reduceToInt] at cc)); (all_goals (try simp (disch := ((try simp (disch := ((try simp (disch := omega) only [ia, is', im, ja, js, ir, idv, Int32.reduceToInt, Int64.reduceToInt, t64]); omega)) only [ia, is', im, ja, js, ir, idv, Int32.reduceToInt, Int64.reduceToInt, t64]); omega)) only [ia, is', im, ja, js, ir, idv, Int32.reduceToInt, Int64.reduceToInt, t64] at cc)); (all_goals (try simp only [hkt, hkt] at cc)); (all_goals (try simp only [not_true_eq_false, eq_self] at cc)); all_goals omega))
    refine WP_aload_n dX0_lossesAt_37 rfl ?_
    refine WP_callV0 (k := 0) dX0_lossesAt_38 ⟨⟨⟨by decide, by decide⟩, zX0_stampAll⟩, lX0_57, by decide, rfl, vX0_stampAll.1, vX0_stampAll.2⟩ (lyx_is hy _ _ rfl) (x_stampAll hy hr) (Nat.le_of_ble_eq_true rfl) ?_
    rintro r I3 J3 R3 ⟨rfl, hx3, hz3, eJ, eR⟩
    rw [eJ, eR]
    simp only [Option.toList, List.cons_append, List.nil_append]
    exact WP_vret dX0_lossesAt_41 rfl ⟨rfl, fxX_tr (fxX_mono hv (by decide)) (fxX_mono hx3 (by decide)), rfl, rfl⟩
  | succ m ih =>
    intro k I2 hk hv
    have hkt : (nI k).toInt = (k : Int) := nI_toInt (by omega)
    have c0 : True := trivial
    refine WP_iload_n dX0_lossesAt_2 rfl ?_
    refine WP_bipush (7) dX0_lossesAt_3 rfl ?_
    refine WP_icmp_ge 37 dX0_lossesAt_5 rfl (fun c5 => absurd c5 (by intro cc; (try simp only [hkt, hkt] at cc); (all_goals (try simp only [cmp_lt, cmp_gt] at cc)); (all_goals (try simp only [le32, lt32, eq32, t64, Int32.reduceToInt, Int64.reduceToInt] at cc)); (all_goals (try simp (disch := ((try simp (disch := ((try simp (disch := omega) only [ia, is', im, ja, js, ir, idv, Int32.reduceToInt, Int64.reduceToInt, t64]); omega)) only [ia, is', im, ja, js, ir, idv, Int32.reduceToInt, Int64.reduceToInt, t64]); omega)) only [ia, is', im, ja, js, ir, idv, Int32.reduceToInt, Int64.reduceToInt, t64] at cc)); (all_goals (try simp only [hkt, hkt] at cc)); (all_goals (try simp only [not_true_eq_false, eq_self] at cc)); all_goals omega)) (fun c5 => ?_)
    refine WP_aload_n dX0_lossesAt_8 rfl ?_
    refine WP_getr dX0_lossesAt_9 fX0_15 rfl (lyx_is hy _ _ rfl) (rfx hr 5 2 23 (by decide)) ?_
    refine WP_iload_n dX0_lossesAt_12 rfl ?_
    refine WP_aload_n dX0_lossesAt_13 rfl ?_
    refine WP_getr dX0_lossesAt_14 fX0_27 rfl (lyx_is hy _ _ rfl) h_town ?_
    refine WP_getr dX0_lossesAt_17 fX0_56 rfl (lyx_is hy _ _ rfl) (rfx hr 6 5 7 (by decide)) ?_
    refine WP_iload_n dX0_lossesAt_20 rfl ?_
    refine WP_iald dX0_lossesAt_21 (lyx_is hy _ _ rfl) (lyx_in hy _ _ rfl (by (try simp only [hkt, hkt] at c0 c5 ⊢); (all_goals (try simp only [cmp_lt, cmp_gt] at c0 c5 ⊢)); (all_goals (try simp only [le32, lt32, eq32, t64, vp_in_iff, Int32.reduceToInt, Int64.reduceToInt] at c0 c5 ⊢)); (all_goals (try simp (disch := ((try simp (disch := ((try simp (disch := omega) only [ia, is', im, ja, js, ir, idv, Int32.reduceToInt, Int64.reduceToInt, t64]); omega)) only [ia, is', im, ja, js, ir, idv, Int32.reduceToInt, Int64.reduceToInt, t64]); omega)) only [ia, is', im, ja, js, ir, idv, Int32.reduceToInt, Int64.reduceToInt, t64] at c0 c5 ⊢)); (all_goals (try simp only [hkt, hkt] at c0 c5 ⊢)); all_goals (first | (constructor <;> omega) | (exfalso; omega)))) ?_
    refine WP_if_le 29 dX0_lossesAt_22 rfl (fun c22 => ?_) (fun c22 => ?_)
    · refine WP_iconst (0) dX0_lossesAt_29 rfl ?_
      refine WP_iast dX0_lossesAt_30 (lyx_is hy _ _ rfl) (lyx_in hy _ _ rfl (by (try simp only [hkt, hkt] at c0 c5 c22 ⊢); (all_goals (try simp only [cmp_lt, cmp_gt] at c0 c5 c22 ⊢)); (all_goals (try simp only [le32, lt32, eq32, t64, vp_in_iff, Int32.reduceToInt, Int64.reduceToInt] at c0 c5 c22 ⊢)); (all_goals (try simp (disch := ((try simp (disch := ((try simp (disch := omega) only [ia, is', im, ja, js, ir, idv, Int32.reduceToInt, Int64.reduceToInt, t64]); omega)) only [ia, is', im, ja, js, ir, idv, Int32.reduceToInt, Int64.reduceToInt, t64]); omega)) only [ia, is', im, ja, js, ir, idv, Int32.reduceToInt, Int64.reduceToInt, t64] at c0 c5 c22 ⊢)); (all_goals (try simp only [hkt, hkt] at c0 c5 c22 ⊢)); all_goals (first | (constructor <;> omega) | (exfalso; omega)))) ?_
      refine WP_iinc (ls' := [(0, _), (1, _), (2, _)]) dX0_lossesAt_31 rfl (by decide) rfl ?_
      refine WP_goto 2 dX0_lossesAt_34 rfl ?_
      refine WP_sub (ls' := [(0, .ref (ad g P_market)), (1, .int a), (2, .int (nI (k + 1)))]) (fc rfl (fc rfl (fc (by rw [← nI_1]; rfl) fn))) (ih (k + 1) _ (by omega) ?_)
      exact fxX_pp hy hv (by decide) (by decide)
    · refine WP_iload_n dX0_lossesAt_25 rfl ?_
      refine WP_goto 30 dX0_lossesAt_26 rfl ?_
      refine WP_iast dX0_lossesAt_30 (lyx_is hy _ _ rfl) (lyx_in hy _ _ rfl (by (try simp only [hkt, hkt] at c0 c5 c22 ⊢); (all_goals (try simp only [cmp_lt, cmp_gt] at c0 c5 c22 ⊢)); (all_goals (try simp only [le32, lt32, eq32, t64, vp_in_iff, Int32.reduceToInt, Int64.reduceToInt] at c0 c5 c22 ⊢)); (all_goals (try simp (disch := ((try simp (disch := ((try simp (disch := omega) only [ia, is', im, ja, js, ir, idv, Int32.reduceToInt, Int64.reduceToInt, t64]); omega)) only [ia, is', im, ja, js, ir, idv, Int32.reduceToInt, Int64.reduceToInt, t64]); omega)) only [ia, is', im, ja, js, ir, idv, Int32.reduceToInt, Int64.reduceToInt, t64] at c0 c5 c22 ⊢)); (all_goals (try simp only [hkt, hkt] at c0 c5 c22 ⊢)); all_goals (first | (constructor <;> omega) | (exfalso; omega)))) ?_
      refine WP_iinc (ls' := [(0, _), (1, _), (2, _)]) dX0_lossesAt_31 rfl (by decide) rfl ?_
      refine WP_goto 2 dX0_lossesAt_34 rfl ?_
      refine WP_sub (ls' := [(0, .ref (ad g P_market)), (1, .int a), (2, .int (nI (k + 1)))]) (fc rfl (fc rfl (fc (by rw [← nI_1]; rfl) fn))) (ih (k + 1) _ (by omega) ?_)
      exact fxX_pp hy hv (by decide) (by decide)
set_option maxHeartbeats 4000000 in
set_option maxRecDepth 100000 in
theorem x_lossesAt {g : GG} {I : pI} {J : pJ} {R : pR} (hy : LyX g) (hr : RfX g R) (h_town : R (ad g P_market) 0 = some (ad g P_ta)) (a : Int32)  : SP g mX0_lossesAt [.ref (ad g P_market), .int a] I J R (fqX g [P_market_losses, P_market_behindStamps] I J R) := by
  refine SP_of ⟨by decide, rfl⟩ (Nat.le_of_ble_eq_true rfl) ?_
  have c0 : True := trivial
  refine WP_iconst (0) dX0_lossesAt_0 rfl ?_
  refine WP_istore_n (ls' := [(0, _), (1, _), (2, _)]) dX0_lossesAt_1 (by decide) rfl ?_
  refine WP_sub (ls' := [(0, .ref (ad g P_market)), (1, .int a), (2, .int (nI 0))]) (fc rfl (fc rfl (fc rfl fn))) (l_lossesAt (I := I) (J := J) hy hr h_town a 7 0 _ (by omega) ?_)
  exact fxX_rf
set_option maxHeartbeats 4000000 in
set_option maxRecDepth 100000 in
theorem lx_sum {g : GG} {I : pI} {J : pJ} {R : pR} (hy : LyX g) (hr : RfX g R) (hz : ∀ q, q < 28 → I (ad g P_trial_facts) q = 0)  : ∀ (m k : Nat) (I2 : pI), k + m = 4 → I2 = I → WP g mX4_sum 4 [(0, .ref (ad g P_trial)), (1, .int 4), (2, .int 0), (3, .int (nI k))] [] I2 J R (pq (.int 0) I J R) := by
  intro m
  induction m with
  | zero =>
    intro k I2 hk hv
    have hkb : k ≤ 4 := by omega
    have ek := nI_toInt (show k < 2 ^ 31 by omega)
    have e7 : (7 : Int32).toInt = 7 := rfl
    have e4 : (4 : Int32).toInt = 4 := rfl
    have b1 : (nI k * 7).toInt = (k : Int) * 7 := by rw [im (by rw [e7, ek]; omega) (by rw [e7, ek]; omega), e7, ek]
    have b2 : (nI k * 7 + 4).toInt = (k : Int) * 7 + 4 := by rw [ia (by rw [b1, e4]; omega) (by rw [b1, e4]; omega), b1, e4]
    have hkt : (nI k).toInt = (k : Int) := nI_toInt (by omega)
    have c0 : True := trivial
    refine WP_iload_n dX4_sum_4 rfl ?_
    refine WP_iconst (4) dX4_sum_5 rfl ?_
    refine WP_icmp_ge 29 dX4_sum_6 rfl (fun c6 => ?_) (fun c6 => absurd c6 (by intro cc; (try simp only [hkt, hkt] at cc); (all_goals (try simp only [cmp_lt, cmp_gt] at cc)); (all_goals (try simp only [le32, lt32, eq32, t64, Int32.reduceToInt, Int64.reduceToInt] at cc)); (all_goals (try simp (disch := ((try simp (disch := ((try simp (disch := omega) only [ia, is', im, ja, js, ir, idv, Int32.reduceToInt, Int64.reduceToInt, t64]); omega)) only [ia, is', im, ja, js, ir, idv, Int32.reduceToInt, Int64.reduceToInt, t64]); omega)) only [ia, is', im, ja, js, ir, idv, Int32.reduceToInt, Int64.reduceToInt, t64] at cc)); (all_goals (try simp only [hkt, hkt] at cc)); (all_goals (try simp only [not_true_eq_false, eq_self] at cc)); all_goals omega))
    refine WP_iload_n dX4_sum_29 rfl ?_
    exact WP_iret dX4_sum_30 rfl ⟨rfl, hv, rfl, rfl⟩
  | succ m ih =>
    intro k I2 hk hv
    have hkb : k ≤ 4 := by omega
    have ek := nI_toInt (show k < 2 ^ 31 by omega)
    have e7 : (7 : Int32).toInt = 7 := rfl
    have e4 : (4 : Int32).toInt = 4 := rfl
    have b1 : (nI k * 7).toInt = (k : Int) * 7 := by rw [im (by rw [e7, ek]; omega) (by rw [e7, ek]; omega), e7, ek]
    have b2 : (nI k * 7 + 4).toInt = (k : Int) * 7 + 4 := by rw [ia (by rw [b1, e4]; omega) (by rw [b1, e4]; omega), b1, e4]
    have hkt : (nI k).toInt = (k : Int) := nI_toInt (by omega)
    have c0 : True := trivial
    refine WP_iload_n dX4_sum_4 rfl ?_
    refine WP_iconst (4) dX4_sum_5 rfl ?_
    refine WP_icmp_ge 29 dX4_sum_6 rfl (fun c6 => absurd c6 (by intro cc; (try simp only [hkt, hkt] at cc); (all_goals (try simp only [cmp_lt, cmp_gt] at cc)); (all_goals (try simp only [le32, lt32, eq32, t64, Int32.reduceToInt, Int64.reduceToInt] at cc)); (all_goals (try simp (disch := ((try simp (disch := ((try simp (disch := omega) only [ia, is', im, ja, js, ir, idv, Int32.reduceToInt, Int64.reduceToInt, t64]); omega)) only [ia, is', im, ja, js, ir, idv, Int32.reduceToInt, Int64.reduceToInt, t64]); omega)) only [ia, is', im, ja, js, ir, idv, Int32.reduceToInt, Int64.reduceToInt, t64] at cc)); (all_goals (try simp only [hkt, hkt] at cc)); (all_goals (try simp only [not_true_eq_false, eq_self] at cc)); all_goals omega)) (fun c6 => ?_)
    refine WP_iload_n dX4_sum_9 rfl ?_
    refine WP_aload_n dX4_sum_10 rfl ?_
    refine WP_getr dX4_sum_11 fX4_15 rfl (lyx_is hy _ _ rfl) (rfx hr 56 5 58 (by decide)) ?_
    refine WP_iload_n dX4_sum_14 rfl ?_
    refine WP_bipush (7) dX4_sum_15 rfl ?_
    refine WP_imul dX4_sum_17 ?_
    refine WP_iload_n dX4_sum_18 rfl ?_
    refine WP_iadd dX4_sum_19 ?_
    refine WP_iald dX4_sum_20 (lyx_is hy _ _ rfl) (lyx_in hy _ _ rfl (vin (by rw [b2]; omega) (by rw [b2]; omega))) ?_
    refine WP_iadd dX4_sum_21 ?_
    refine WP_istore_n (ls' := [(0, _), (1, _), (2, _), (3, _)]) dX4_sum_22 (by decide) rfl ?_
    refine WP_iinc (ls' := [(0, _), (1, _), (2, _), (3, _)]) dX4_sum_23 rfl (by decide) rfl ?_
    refine WP_goto 4 dX4_sum_26 rfl ?_
    refine WP_sub (ls' := [(0, .ref (ad g P_trial)), (1, .int 4), (2, _), (3, .int (nI (k + 1)))]) (fc rfl (fc rfl (fc (by rw [hv, cl (n := k * 7 + 4) (by rw [b2]; omega), hz _ (by omega)]; rfl) (fc (by rw [← nI_1]; rfl) fn)))) (ih (k + 1) _ (by omega) ?_)
    exact hv
set_option maxHeartbeats 4000000 in
set_option maxRecDepth 100000 in
theorem x_sum0 {g : GG} {I : pI} {J : pJ} {R : pR} (hy : LyX g) (hr : RfX g R) (hz : ∀ q, q < 28 → I (ad g P_trial_facts) q = 0)  : SP g mX4_sum [.ref (ad g P_trial), .int 4] I J R (pq (.int 0) I J R) := by
  refine SP_of ⟨by decide, rfl⟩ (Nat.le_of_ble_eq_true rfl) ?_
  have c0 : True := trivial
  refine WP_iconst (0) dX4_sum_0 rfl ?_
  refine WP_istore_n (ls' := [(0, _), (1, _), (2, _)]) dX4_sum_1 (by decide) rfl ?_
  refine WP_iconst (0) dX4_sum_2 rfl ?_
  refine WP_istore_n (ls' := [(0, _), (1, _), (2, _), (3, _)]) dX4_sum_3 (by decide) rfl ?_
  refine WP_sub (ls' := [(0, .ref (ad g P_trial)), (1, .int 4), (2, .int 0), (3, .int (nI 0))]) (fc rfl (fc rfl (fc rfl (fc rfl fn)))) (lx_sum (I := I) (J := J) hy hr hz 4 0 _ (by omega) ?_)
  rfl
set_option maxHeartbeats 4000000 in
set_option maxRecDepth 100000 in
theorem lx_worth {g : GG} {I : pI} {J : pJ} {R : pR} (hy : LyX g) (hr : RfX g R) (a b : Int32) (hb : 1 ≤ b.toInt ∧ b.toInt ≤ 4)  : ∀ (m k : Nat) (I2 : pI), k + m = (b.toInt * 7).toNat → (XC g I2 R ∧ I2 (ad g P_trial) 0 = nI k ∧ ∀ q, q < 28 → I2 (ad g P_trial_facts) q = 0) → WP g mX10_worthOfAll 38 [(0, .ref (ad g P_x)), (1, .int a), (2, .int b), (3, .int (nI k))] [] I2 J R (fun r I' _ R' => r = some (.int 0) ∧ XC g I' R ∧ R' = R) := by
  intro m
  induction m with
  | zero =>
    intro k I2 hk hv
    have e7 : (b * 7).toInt = b.toInt * 7 := by have e : (7 : Int32).toInt = 7 := rfl; rw [im (by rw [e]; omega) (by rw [e]; omega), e]
    have h_town := hv.1.1
    have hkt : (nI k).toInt = (k : Int) := nI_toInt (by omega)
    have c0 : True := trivial
    refine WP_iload_n dX10_worthOfAll_38 rfl ?_
    refine WP_iload_n dX10_worthOfAll_39 rfl ?_
    refine WP_bipush (7) dX10_worthOfAll_40 rfl ?_
    refine WP_imul dX10_worthOfAll_42 ?_
    refine WP_icmp_ge 64 dX10_worthOfAll_43 rfl (fun c43 => ?_) (fun c43 => absurd c43 (by intro cc; (try simp only [hkt, e7, hkt] at cc); (all_goals (try simp only [cmp_lt, cmp_gt] at cc)); (all_goals (try simp only [le32, lt32, eq32, t64, Int32.reduceToInt, Int64.reduceToInt] at cc)); (all_goals (try simp (disch := ((try simp (disch := ((try simp (disch := omega) only [ia, is', im, ja, js, ir, idv, Int32.reduceToInt, Int64.reduceToInt, t64]); omega)) only [ia, is', im, ja, js, ir, idv, Int32.reduceToInt, Int64.reduceToInt, t64]); omega)) only [ia, is', im, ja, js, ir, idv, Int32.reduceToInt, Int64.reduceToInt, t64] at cc)); (all_goals (try simp only [hkt, e7, hkt] at cc)); (all_goals (try simp only [not_true_eq_false, eq_self] at cc)); all_goals omega))
    refine WP_aload_n dX10_worthOfAll_64 rfl ?_
    refine WP_getr dX10_worthOfAll_65 fX10_33 rfl (lyx_is hy _ _ rfl) (rfx hr 0 2 5 (by decide)) ?_
    refine WP_callV0 (k := 0) dX10_worthOfAll_68 ⟨⟨⟨by decide, by decide⟩, zX0_lossesAsTold⟩, lX10_347, by decide, rfl, vX0_lossesAsTold.1, vX0_lossesAsTold.2⟩ (lyx_is hy _ _ rfl) (x_lossesAsTold_ta hy hr h_town) (Nat.le_of_ble_eq_true rfl) ?_
    rintro r I3 J3 R3 ⟨rfl, hx3, hz3, eJ, eR⟩
    rw [eJ, eR]
    simp only [Option.toList, List.cons_append, List.nil_append]
    refine WP_aload_n dX10_worthOfAll_71 rfl ?_
    refine WP_getr dX10_worthOfAll_72 fX10_66 rfl (lyx_is hy _ _ rfl) (rfx hr 0 6 56 (by decide)) ?_
    refine WP_iconst (4) dX10_worthOfAll_75 rfl ?_
    refine WP_callV1p (k := 4) dX10_worthOfAll_76 ⟨⟨⟨by decide, by decide⟩, zX4_sum⟩, lX10_350, by decide, rfl, vX4_sum.1, vX4_sum.2⟩ (lyx_is hy _ _ rfl) (x_sum0 hy hr (fun q hq => by rw [hx3 P_trial_facts (by decide) (by decide)]; exact hv.2.2 q hq)) (Nat.le_of_ble_eq_true rfl) ?_
    exact WP_iret dX10_worthOfAll_79 rfl ⟨rfl, XC_fx hv.1 hx3 (by decide), rfl⟩
  | succ m ih =>
    intro k I2 hk hv
    have e7 : (b * 7).toInt = b.toInt * 7 := by have e : (7 : Int32).toInt = 7 := rfl; rw [im (by rw [e]; omega) (by rw [e]; omega), e]
    have h_town := hv.1.1
    have hkt : (nI k).toInt = (k : Int) := nI_toInt (by omega)
    have c0 : True := trivial
    refine WP_iload_n dX10_worthOfAll_38 rfl ?_
    refine WP_iload_n dX10_worthOfAll_39 rfl ?_
    refine WP_bipush (7) dX10_worthOfAll_40 rfl ?_
    refine WP_imul dX10_worthOfAll_42 ?_
    refine WP_icmp_ge 64 dX10_worthOfAll_43 rfl (fun c43 => absurd c43 (by intro cc; (try simp only [hkt, e7, hkt] at cc); (all_goals (try simp only [cmp_lt, cmp_gt] at cc)); (all_goals (try simp only [le32, lt32, eq32, t64, Int32.reduceToInt, Int64.reduceToInt] at cc)); (all_goals (try simp (disch := ((try simp (disch := ((try simp (disch := omega) only [ia, is', im, ja, js, ir, idv, Int32.reduceToInt, Int64.reduceToInt, t64]); omega)) only [ia, is', im, ja, js, ir, idv, Int32.reduceToInt, Int64.reduceToInt, t64]); omega)) only [ia, is', im, ja, js, ir, idv, Int32.reduceToInt, Int64.reduceToInt, t64] at cc)); (all_goals (try simp only [hkt, e7, hkt] at cc)); (all_goals (try simp only [not_true_eq_false, eq_self] at cc)); all_goals omega)) (fun c43 => ?_)
    refine WP_aload_n dX10_worthOfAll_46 rfl ?_
    refine WP_getr dX10_worthOfAll_47 fX10_55 rfl (lyx_is hy _ _ rfl) (rfx hr 0 4 49 (by decide)) ?_
    refine WP_aload_n dX10_worthOfAll_50 rfl ?_
    refine WP_getr dX10_worthOfAll_51 fX10_66 rfl (lyx_is hy _ _ rfl) (rfx hr 0 6 56 (by decide)) ?_
    refine WP_iconst (1) dX10_worthOfAll_54 rfl ?_
    refine WP_callV2 (k := 9) dX10_worthOfAll_55 ⟨⟨⟨by decide, by decide⟩, zX9_passDay⟩, lX10_228, by decide, rfl, vX9_passDay.1, vX9_passDay.2⟩ (lyx_is hy _ _ rfl) (x_passDay hy hr hv.1 P_trial (by decide) _ (by rw [hv.2.1, hkt]; omega)) (Nat.le_of_ble_eq_true rfl) ?_
    rintro r I3 J3 R3 ⟨rfl, hx3, hd3, eJ, eR⟩
    rw [eJ, eR]
    simp only [Option.toList, List.cons_append, List.nil_append]
    refine WP_iinc (ls' := [(0, _), (1, _), (2, _), (3, _)]) dX10_worthOfAll_58 rfl (by decide) rfl ?_
    refine WP_goto 38 dX10_worthOfAll_61 rfl ?_
    refine WP_sub (ls' := [(0, .ref (ad g P_x)), (1, .int a), (2, .int b), (3, .int (nI (k + 1)))]) (fc rfl (fc rfl (fc rfl (fc (by rw [← nI_1]; rfl) fn)))) (ih (k + 1) _ (by omega) ?_)
    exact ⟨XC_fx hv.1 hx3 (by decide), by rw [hd3, hv.2.1, nI_1], fun q hq => by rw [hx3 P_trial_facts (by decide) (by decide)]; exact hv.2.2 q hq⟩
set_option maxHeartbeats 4000000 in
set_option maxRecDepth 100000 in
theorem x_worthOfAll {g : GG} {I : pI} {J : pJ} {R : pR} (hy : LyX g) (hr : RfX g R) (hxc : XC g I R) (a b : Int32) (hb : 1 ≤ b.toInt ∧ b.toInt ≤ 4)  : SP g mX10_worthOfAll [.ref (ad g P_x), .int a, .int b] I J R (fun r I' _ R' => r = some (.int 0) ∧ XC g I' R ∧ R' = R) := by
  refine SP_of ⟨by decide, rfl⟩ (Nat.le_of_ble_eq_true rfl) ?_
  have c0 : True := trivial
  have h_town := hxc.1
  refine WP_aload_n dX10_worthOfAll_0 rfl ?_
  refine WP_getr dX10_worthOfAll_1 fX10_66 rfl (lyx_is hy _ _ rfl) (rfx hr 0 6 56 (by decide)) ?_
  refine WP_aload_n dX10_worthOfAll_4 rfl ?_
  refine WP_getr dX10_worthOfAll_5 fX10_62 rfl (lyx_is hy _ _ rfl) (rfx hr 0 5 53 (by decide)) ?_
  refine WP_callV1 (k := 4) dX10_worthOfAll_8 ⟨⟨⟨by decide, by decide⟩, zX4_become⟩, lX10_249, by decide, rfl, vX4_become.1, vX4_become.2⟩ (lyx_is hy _ _ rfl) (x_become hy hr P_trial (by decide) P_course (by decide)) (Nat.le_of_ble_eq_true rfl) ?_
  rintro r I3 J3 R3 ⟨rfl, hx3, eR⟩
  rw [eR]
  simp only [Option.toList, List.cons_append, List.nil_append]
  have hxc3 := XC_fx hxc hx3 (by decide)
  have h_town := hxc.1
  refine WP_aload_n dX10_worthOfAll_11 rfl ?_
  refine WP_getr dX10_worthOfAll_12 fX10_66 rfl (lyx_is hy _ _ rfl) (rfx hr 0 6 56 (by decide)) ?_
  refine WP_aload_n dX10_worthOfAll_15 rfl ?_
  refine WP_getr dX10_worthOfAll_16 fX10_33 rfl (lyx_is hy _ _ rfl) (rfx hr 0 2 5 (by decide)) ?_
  refine WP_getr dX10_worthOfAll_19 fX10_102 rfl (lyx_is hy _ _ rfl) h_town ?_
  refine WP_callV1 (k := 4) dX10_worthOfAll_22 ⟨⟨⟨by decide, by decide⟩, zX4_begin⟩, lX10_246, by decide, rfl, vX4_begin.1, vX4_begin.2⟩ (lyx_is hy _ _ rfl) (x_begin hy hr P_ta ⟨rfl, by decide⟩ P_trial (by decide) (by decide) hxc3.2.1) (Nat.le_of_ble_eq_true rfl) ?_
  rintro r I4 J4 R4 ⟨rfl, hx4, eR4, hr4, hj4⟩
  rw [eR4]
  simp only [Option.toList, List.cons_append, List.nil_append]
  have hxc4 := XC_fx hxc3 hx4 (by decide)
  refine WP_aload_n dX10_worthOfAll_25 rfl ?_
  refine WP_getr dX10_worthOfAll_26 fX10_33 rfl (lyx_is hy _ _ rfl) (rfx hr 0 2 5 (by decide)) ?_
  refine WP_iload_n dX10_worthOfAll_29 rfl ?_
  refine WP_bipush (50) dX10_worthOfAll_30 rfl ?_
  refine WP_imul dX10_worthOfAll_32 ?_
  refine WP_callV1 (k := 0) dX10_worthOfAll_33 ⟨⟨⟨by decide, by decide⟩, zX0_lossesAt⟩, lX10_344, by decide, rfl, vX0_lossesAt.1, vX0_lossesAt.2⟩ (lyx_is hy _ _ rfl) (x_lossesAt hy hr h_town _) (Nat.le_of_ble_eq_true rfl) ?_
  rintro r I5 J5 R5 ⟨rfl, hx5, eJ5, eR5⟩
  rw [eJ5, eR5]
  simp only [Option.toList, List.cons_append, List.nil_append]
  refine WP_iconst (0) dX10_worthOfAll_36 rfl ?_
  refine WP_istore_n (ls' := [(0, _), (1, _), (2, _), (3, _)]) dX10_worthOfAll_37 (by decide) rfl ?_
  refine WP_sub (ls' := [(0, .ref (ad g P_x)), (1, .int a), (2, .int b), (3, .int (nI 0))]) (fc rfl (fc rfl (fc rfl (fc rfl fn)))) (lx_worth (I := I) hy hr a b hb (b.toInt * 7).toNat 0 _ (by omega) ?_)
  exact ⟨XC_fx hxc4 hx5 (by decide), (by rw [hx5 P_trial (by decide) (by decide)]; exact hr4.1), fun q hq => by rw [hx5 P_trial_facts (by decide) (by decide)]; exact hr4.2.2.2.2 q hq⟩
set_option maxHeartbeats 4000000 in
set_option maxRecDepth 100000 in
theorem xr_worthAt {g : GG} {I : pI} {J : pJ} {R : pR} (hy : LyX g) (hr : RfX g R) (hf : XF g I J R) (a b : Int32) : SP g mX10_worthAt [.ref (ad g P_x), .int a, .int b] I J R (rq (if (0 ≤ a.toInt ∧ a.toInt ≤ 18) ∧ 1 ≤ b.toInt ∧ b.toInt ≤ 4 then 0 else -2)) := by
  refine SP_of ⟨by decide, rfl⟩ (Nat.le_of_ble_eq_true rfl) ?_
  have c0 : True := trivial
  have hf0 := hf
  obtain ⟨hxc, h_length, h_kind, h_place, h_clauses, h_turns, h_days, h_chestC, h_bought, h_held, h_cost0, h_s0, h_s1, h_s2, h_spare, h_loss, h_mloss, h_stamps⟩ := hf
  have hxc0 := hxc
  obtain ⟨h_town, h_sorts, h_things, h_chest, h_stored⟩ := hxc
  refine WP_iload_n dX10_worthAt_0 rfl ?_
  refine WP_if_lt 17 dX10_worthAt_1 rfl (fun c1 => ?_) (fun c1 => ?_)
  · refine WP_bipush (-2) dX10_worthAt_17 rfl ?_
    refine WP_goto 28 dX10_worthAt_19 rfl ?_
    exact WP_iret dX10_worthAt_28 rfl (by unfold rq; (try simp only [lt32, le32, Int32.reduceToInt] at c0 c1); first | (rw [if_neg (by omega)]; done) | (rw [if_pos (by omega)]; done))
  · refine WP_iload_n dX10_worthAt_4 rfl ?_
    refine WP_bipush (18) dX10_worthAt_5 rfl ?_
    refine WP_icmp_gt 17 dX10_worthAt_7 rfl (fun c7 => ?_) (fun c7 => ?_)
    · refine WP_bipush (-2) dX10_worthAt_17 rfl ?_
      refine WP_goto 28 dX10_worthAt_19 rfl ?_
      exact WP_iret dX10_worthAt_28 rfl (by unfold rq; (try simp only [lt32, le32, Int32.reduceToInt] at c0 c1 c7); first | (rw [if_neg (by omega)]; done) | (rw [if_pos (by omega)]; done))
    · refine WP_iload_n dX10_worthAt_10 rfl ?_
      refine WP_callS1p dX10_worthAt_11 ⟨⟨⟨by decide, by decide⟩, zX10_isWeeks⟩, lX10_253, tX10_isWeeks⟩ (x_isWeeks hy hr _) (Nat.le_of_ble_eq_true rfl) ?_
      refine WP_ifb_ne 22 dX10_worthAt_14 rfl (fun c14 => ?_) (fun c14 => ?_)
      · refine WP_aload_n dX10_worthAt_22 rfl ?_
        refine WP_iload_n dX10_worthAt_23 rfl ?_
        refine WP_iload_n dX10_worthAt_24 rfl ?_
        refine WP_callV2 (k := 10) dX10_worthAt_25 ⟨⟨⟨by decide, by decide⟩, zX10_worthOfAll⟩, lX10_256, by decide, rfl, vX10_worthOfAll.1, vX10_worthOfAll.2⟩ (lyx_is hy _ _ rfl) (x_worthOfAll hy hr hxc0 _ _ c14) (Nat.le_of_ble_eq_true rfl) ?_
        rintro r I3 J3 R3 ⟨rfl, hx3, eR⟩
        rw [eR]
        simp only [Option.toList, List.cons_append, List.nil_append]
        exact WP_iret dX10_worthAt_28 rfl (by unfold rq; (try simp only [lt32, le32, Int32.reduceToInt] at c0 c1 c7 c14); first | (rw [if_neg (by omega)]; done) | (rw [if_pos (by omega)]; done))
      · refine WP_bipush (-2) dX10_worthAt_17 rfl ?_
        refine WP_goto 28 dX10_worthAt_19 rfl ?_
        exact WP_iret dX10_worthAt_28 rfl (by unfold rq; (try simp only [lt32, le32, Int32.reduceToInt] at c0 c1 c7 c14); first | (rw [if_neg (by omega)]; done) | (rw [if_pos (by omega)]; done))
set_option maxHeartbeats 4000000 in
set_option maxRecDepth 100000 in
theorem lx_rate {g : GG} {I : pI} {J : pJ} {R : pR} (hy : LyX g) (hr : RfX g R) (a : Int32) (ha : 1 ≤ a.toInt ∧ a.toInt ≤ 4)  : ∀ (m k : Nat) (I2 : pI) (J2 : pJ), k + m = 19 → XC g I2 R → WP g mX10_rate 22 [(0, .ref (ad g P_x)), (1, .int a), (2, .int 0), (3, .int 0), (4, .int (nI k))] [] I2 J2 R (rq 0) := by
  intro m
  induction m with
  | zero =>
    intro k I2 J2 hk hv
    have hkt : (nI k).toInt = (k : Int) := nI_toInt (by omega)
    have c0 : True := trivial
    refine WP_iload dX10_rate_22 rfl ?_
    refine WP_bipush (18) dX10_rate_24 rfl ?_
    refine WP_icmp_gt 56 dX10_rate_26 rfl (fun c26 => ?_) (fun c26 => absurd c26 (by intro cc; (try simp only [hkt, hkt] at cc); (all_goals (try simp only [cmp_lt, cmp_gt] at cc)); (all_goals (try simp only [le32, lt32, eq32, t64, Int32.reduceToInt, Int64.reduceToInt] at cc)); (all_goals (try simp (disch := ((try simp (disch := ((try simp (disch := omega) only [ia, is', im, ja, js, ir, idv, Int32.reduceToInt, Int64.reduceToInt, t64]); omega)) only [ia, is', im, ja, js, ir, idv, Int32.reduceToInt, Int64.reduceToInt, t64]); omega)) only [ia, is', im, ja, js, ir, idv, Int32.reduceToInt, Int64.reduceToInt, t64] at cc)); (all_goals (try simp only [hkt, hkt] at cc)); (all_goals (try simp only [not_true_eq_false, eq_self] at cc)); all_goals omega))
    refine WP_iload_n dX10_rate_56 rfl ?_
    exact WP_iret dX10_rate_57 rfl rfl
  | succ m ih =>
    intro k I2 J2 hk hv
    have hkt : (nI k).toInt = (k : Int) := nI_toInt (by omega)
    have c0 : True := trivial
    refine WP_iload dX10_rate_22 rfl ?_
    refine WP_bipush (18) dX10_rate_24 rfl ?_
    refine WP_icmp_gt 56 dX10_rate_26 rfl (fun c26 => absurd c26 (by intro cc; (try simp only [hkt, hkt] at cc); (all_goals (try simp only [cmp_lt, cmp_gt] at cc)); (all_goals (try simp only [le32, lt32, eq32, t64, Int32.reduceToInt, Int64.reduceToInt] at cc)); (all_goals (try simp (disch := ((try simp (disch := ((try simp (disch := omega) only [ia, is', im, ja, js, ir, idv, Int32.reduceToInt, Int64.reduceToInt, t64]); omega)) only [ia, is', im, ja, js, ir, idv, Int32.reduceToInt, Int64.reduceToInt, t64]); omega)) only [ia, is', im, ja, js, ir, idv, Int32.reduceToInt, Int64.reduceToInt, t64] at cc)); (all_goals (try simp only [hkt, hkt] at cc)); (all_goals (try simp only [not_true_eq_false, eq_self] at cc)); all_goals omega)) (fun c26 => ?_)
    refine WP_aload_n dX10_rate_29 rfl ?_
    refine WP_iload dX10_rate_30 rfl ?_
    refine WP_iload_n dX10_rate_32 rfl ?_
    refine WP_callV2 (k := 10) dX10_rate_33 ⟨⟨⟨by decide, by decide⟩, zX10_worthOfAll⟩, lX10_256, by decide, rfl, vX10_worthOfAll.1, vX10_worthOfAll.2⟩ (lyx_is hy _ _ rfl) (x_worthOfAll hy hr hv _ _ ha) (Nat.le_of_ble_eq_true rfl) ?_
    rintro r I3 J3 R3 ⟨rfl, hx3, eR⟩
    rw [eR]
    simp only [Option.toList, List.cons_append, List.nil_append]
    refine WP_istore (ls' := [(0, _), (1, _), (2, _), (3, _), (4, _), (5, _)]) dX10_rate_36 (by decide) rfl ?_
    refine WP_iload dX10_rate_38 rfl ?_
    refine WP_iload_n dX10_rate_40 rfl ?_
    refine WP_icmp_le 50 dX10_rate_41 rfl (fun c41 => ?_) (fun c41 => absurd c41 (by decide))
    refine WP_iinc (ls' := [(0, _), (1, _), (2, _), (3, _), (4, _), (5, _)]) dX10_rate_50 rfl (by decide) rfl ?_
    refine WP_goto 22 dX10_rate_53 rfl ?_
    refine WP_sub (ls' := [(0, .ref (ad g P_x)), (1, .int a), (2, .int 0), (3, .int 0), (4, .int (nI (k + 1)))]) (fc rfl (fc rfl (fc rfl (fc rfl (fc (by rw [← nI_1]; rfl) fn))))) (ih (k + 1) _ _ (by omega) ?_)
    exact hx3
set_option maxHeartbeats 4000000 in
set_option maxRecDepth 100000 in
theorem xr_rate {g : GG} {I : pI} {J : pJ} {R : pR} (hy : LyX g) (hr : RfX g R) (hf : XF g I J R) (a : Int32) : SP g mX10_rate [.ref (ad g P_x), .int a] I J R (rq (if 1 ≤ a.toInt ∧ a.toInt ≤ 4 then 0 else -2)) := by
  refine SP_of ⟨by decide, rfl⟩ (Nat.le_of_ble_eq_true rfl) ?_
  have c0 : True := trivial
  have hf0 := hf
  obtain ⟨hxc, h_length, h_kind, h_place, h_clauses, h_turns, h_days, h_chestC, h_bought, h_held, h_cost0, h_s0, h_s1, h_s2, h_spare, h_loss, h_mloss, h_stamps⟩ := hf
  have hxc0 := hxc
  obtain ⟨h_town, h_sorts, h_things, h_chest, h_stored⟩ := hxc
  refine WP_iload_n dX10_rate_0 rfl ?_
  refine WP_callS1p dX10_rate_1 ⟨⟨⟨by decide, by decide⟩, zX10_isWeeks⟩, lX10_253, tX10_isWeeks⟩ (x_isWeeks hy hr _) (Nat.le_of_ble_eq_true rfl) ?_
  refine WP_ifb_ne 10 dX10_rate_4 rfl (fun c4 => ?_) (fun c4 => ?_)
  · refine WP_aload_n dX10_rate_10 rfl ?_
    refine WP_iconst (0) dX10_rate_11 rfl ?_
    refine WP_iload_n dX10_rate_12 rfl ?_
    refine WP_callV2 (k := 10) dX10_rate_13 ⟨⟨⟨by decide, by decide⟩, zX10_worthOfAll⟩, lX10_256, by decide, rfl, vX10_worthOfAll.1, vX10_worthOfAll.2⟩ (lyx_is hy _ _ rfl) (x_worthOfAll hy hr hxc0 _ _ c4) (Nat.le_of_ble_eq_true rfl) ?_
    rintro r I3 J3 R3 ⟨rfl, hx3, eR⟩
    rw [eR]
    simp only [Option.toList, List.cons_append, List.nil_append]
    refine WP_istore_n (ls' := [(0, _), (1, _), (2, _)]) dX10_rate_16 (by decide) rfl ?_
    refine WP_iconst (0) dX10_rate_17 rfl ?_
    refine WP_istore_n (ls' := [(0, _), (1, _), (2, _), (3, _)]) dX10_rate_18 (by decide) rfl ?_
    refine WP_iconst (1) dX10_rate_19 rfl ?_
    refine WP_istore (ls' := [(0, _), (1, _), (2, _), (3, _), (4, _)]) dX10_rate_20 (by decide) rfl ?_
    rw [if_pos c4]
    refine WP_sub (ls' := [(0, .ref (ad g P_x)), (1, .int a), (2, .int 0), (3, .int 0), (4, .int (nI 1))]) (fc rfl (fc rfl (fc rfl (fc rfl (fc rfl fn))))) (lx_rate (I := I) (J := J) hy hr a c4 18 1 _ _ (by omega) hx3)
  · refine WP_bipush (-2) dX10_rate_7 rfl ?_
    exact WP_iret dX10_rate_9 rfl (by unfold rq; rw [if_neg c4])
set_option maxHeartbeats 4000000 in
set_option maxRecDepth 100000 in
theorem x_movePrices0 {g : GG} {I : pI} {J : pJ} {R : pR} (hy : LyX g) (hr : RfX g R) (hxc : XC g I R)  : SP g mX0_movePrices [.ref (ad g P_market), .ref (ad g P_walk_sold)] I J R (pq (.int 0) I J R) := by
  refine SP_of ⟨by decide, rfl⟩ (Nat.le_of_ble_eq_true rfl) ?_
  have c0 : True := trivial
  obtain ⟨h_town, h_sorts, h_things, h_chest, h_stored⟩ := hxc
  refine WP_iconst (0) dX0_movePrices_0 rfl ?_
  refine WP_istore_n (ls' := [(0, _), (1, _), (2, _)]) dX0_movePrices_1 (by decide) rfl ?_
  refine WP_iconst (0) dX0_movePrices_2 rfl ?_
  refine WP_istore_n (ls' := [(0, _), (1, _), (2, _), (3, _)]) dX0_movePrices_3 (by decide) rfl ?_
  refine WP_iload_n dX0_movePrices_4 rfl ?_
  refine WP_aload_n dX0_movePrices_5 rfl ?_
  refine WP_getr dX0_movePrices_6 fX0_27 rfl (lyx_is hy _ _ rfl) h_town ?_
  refine WP_geti dX0_movePrices_9 fX0_73 rfl (lyx_is hy _ _ rfl) ?_
  refine WP_bipush (7) dX0_movePrices_12 rfl ?_
  refine WP_imul dX0_movePrices_14 ?_
  refine WP_icmp_ge 111 dX0_movePrices_15 rfl (fun c15 => ?_) (fun c15 => absurd c15 (by intro cc; (try simp only [h_sorts, h_things, h_chest, h_stored] at cc); (all_goals (try simp only [cmp_lt, cmp_gt] at cc)); (all_goals (try simp only [le32, lt32, eq32, t64, Int32.reduceToInt, Int64.reduceToInt] at cc)); (all_goals (try simp (disch := ((try simp (disch := ((try simp (disch := omega) only [ia, is', im, ja, js, ir, idv, Int32.reduceToInt, Int64.reduceToInt, t64]); omega)) only [ia, is', im, ja, js, ir, idv, Int32.reduceToInt, Int64.reduceToInt, t64]); omega)) only [ia, is', im, ja, js, ir, idv, Int32.reduceToInt, Int64.reduceToInt, t64] at cc)); (all_goals (try simp only [h_sorts, h_things, h_chest, h_stored] at cc)); (all_goals (try simp only [not_true_eq_false, eq_self] at cc)); all_goals omega))
  refine WP_iload_n dX0_movePrices_111 rfl ?_
  exact WP_zret dX0_movePrices_112 rfl rfl ⟨rfl, rfl, rfl, rfl⟩
set_option maxHeartbeats 4000000 in
set_option maxRecDepth 100000 in
theorem lx_turn {g : GG} {I : pI} {J : pJ} {R : pR} (hy : LyX g) (hr : RfX g R)  : ∀ (m k : Nat) (I2 : pI), k + m = 7 → (XC g I2 R ∧ I2 (ad g P_trial) 0 = nI k) → WP g mX10_turnChanges 38 [(0, .ref (ad g P_x)), (1, .int (nI k))] [] I2 J R (fun r I' _ R' => r = some (.int 0) ∧ XC g I' R ∧ R' = R) := by
  intro m
  induction m with
  | zero =>
    intro k I2 hk hv
    have hkt : (nI k).toInt = (k : Int) := nI_toInt (by omega)
    have c0 : True := trivial
    refine WP_iload_n dX10_turnChanges_38 rfl ?_
    refine WP_bipush (7) dX10_turnChanges_39 rfl ?_
    refine WP_icmp_ge 62 dX10_turnChanges_41 rfl (fun c41 => ?_) (fun c41 => absurd c41 (by intro cc; (try simp only [hkt, hkt] at cc); (all_goals (try simp only [cmp_lt, cmp_gt] at cc)); (all_goals (try simp only [le32, lt32, eq32, t64, Int32.reduceToInt, Int64.reduceToInt] at cc)); (all_goals (try simp (disch := ((try simp (disch := ((try simp (disch := omega) only [ia, is', im, ja, js, ir, idv, Int32.reduceToInt, Int64.reduceToInt, t64]); omega)) only [ia, is', im, ja, js, ir, idv, Int32.reduceToInt, Int64.reduceToInt, t64]); omega)) only [ia, is', im, ja, js, ir, idv, Int32.reduceToInt, Int64.reduceToInt, t64] at cc)); (all_goals (try simp only [hkt, hkt] at cc)); (all_goals (try simp only [not_true_eq_false, eq_self] at cc)); all_goals omega))
    refine WP_aload_n dX10_turnChanges_62 rfl ?_
    refine WP_getr dX10_turnChanges_63 fX10_33 rfl (lyx_is hy _ _ rfl) (rfx hr 0 2 5 (by decide)) ?_
    refine WP_aload_n dX10_turnChanges_66 rfl ?_
    refine WP_getr dX10_turnChanges_67 fX10_55 rfl (lyx_is hy _ _ rfl) (rfx hr 0 4 49 (by decide)) ?_
    refine WP_getr dX10_turnChanges_70 fX10_353 rfl (lyx_is hy _ _ rfl) (rfx hr 49 1 51 (by decide)) ?_
    refine WP_callV1p (k := 0) dX10_turnChanges_73 ⟨⟨⟨by decide, by decide⟩, zX0_movePrices⟩, lX10_356, by decide, rfl, vX0_movePrices.1, vX0_movePrices.2⟩ (lyx_is hy _ _ rfl) (x_movePrices0 hy hr hv.1) (Nat.le_of_ble_eq_true rfl) ?_
    exact WP_zret dX10_turnChanges_76 rfl rfl ⟨rfl, hv.1, rfl⟩
  | succ m ih =>
    intro k I2 hk hv
    have hkt : (nI k).toInt = (k : Int) := nI_toInt (by omega)
    have c0 : True := trivial
    refine WP_iload_n dX10_turnChanges_38 rfl ?_
    refine WP_bipush (7) dX10_turnChanges_39 rfl ?_
    refine WP_icmp_ge 62 dX10_turnChanges_41 rfl (fun c41 => absurd c41 (by intro cc; (try simp only [hkt, hkt] at cc); (all_goals (try simp only [cmp_lt, cmp_gt] at cc)); (all_goals (try simp only [le32, lt32, eq32, t64, Int32.reduceToInt, Int64.reduceToInt] at cc)); (all_goals (try simp (disch := ((try simp (disch := ((try simp (disch := omega) only [ia, is', im, ja, js, ir, idv, Int32.reduceToInt, Int64.reduceToInt, t64]); omega)) only [ia, is', im, ja, js, ir, idv, Int32.reduceToInt, Int64.reduceToInt, t64]); omega)) only [ia, is', im, ja, js, ir, idv, Int32.reduceToInt, Int64.reduceToInt, t64] at cc)); (all_goals (try simp only [hkt, hkt] at cc)); (all_goals (try simp only [not_true_eq_false, eq_self] at cc)); all_goals omega)) (fun c41 => ?_)
    refine WP_aload_n dX10_turnChanges_44 rfl ?_
    refine WP_getr dX10_turnChanges_45 fX10_55 rfl (lyx_is hy _ _ rfl) (rfx hr 0 4 49 (by decide)) ?_
    refine WP_aload_n dX10_turnChanges_48 rfl ?_
    refine WP_getr dX10_turnChanges_49 fX10_66 rfl (lyx_is hy _ _ rfl) (rfx hr 0 6 56 (by decide)) ?_
    refine WP_iconst (0) dX10_turnChanges_52 rfl ?_
    refine WP_callV2 (k := 9) dX10_turnChanges_53 ⟨⟨⟨by decide, by decide⟩, zX9_passDay⟩, lX10_228, by decide, rfl, vX9_passDay.1, vX9_passDay.2⟩ (lyx_is hy _ _ rfl) (x_passDay hy hr hv.1 P_trial (by decide) _ (by rw [hv.2, hkt]; omega)) (Nat.le_of_ble_eq_true rfl) ?_
    rintro r I3 J3 R3 ⟨rfl, hx3, hd3, eJ, eR⟩
    rw [eJ, eR]
    simp only [Option.toList, List.cons_append, List.nil_append]
    refine WP_iinc (ls' := [(0, _), (1, _)]) dX10_turnChanges_56 rfl (by decide) rfl ?_
    refine WP_goto 38 dX10_turnChanges_59 rfl ?_
    refine WP_sub (ls' := [(0, .ref (ad g P_x)), (1, .int (nI (k + 1)))]) (fc rfl (fc (by rw [← nI_1]; rfl) fn)) (ih (k + 1) _ (by omega) ?_)
    exact ⟨XC_fx hv.1 hx3 (by decide), by rw [hd3, hv.2, nI_1]⟩
set_option maxHeartbeats 4000000 in
set_option maxRecDepth 100000 in
theorem x_turnChanges {g : GG} {I : pI} {J : pJ} {R : pR} (hy : LyX g) (hr : RfX g R) (hxc : XC g I R)  : SP g mX10_turnChanges [.ref (ad g P_x)] I J R (fun r I' _ R' => r = some (.int 0) ∧ XC g I' R ∧ R' = R) := by
  refine SP_of ⟨by decide, rfl⟩ (Nat.le_of_ble_eq_true rfl) ?_
  have c0 : True := trivial
  have h_town := hxc.1
  refine WP_aload_n dX10_turnChanges_0 rfl ?_
  refine WP_getr dX10_turnChanges_1 fX10_66 rfl (lyx_is hy _ _ rfl) (rfx hr 0 6 56 (by decide)) ?_
  refine WP_aload_n dX10_turnChanges_4 rfl ?_
  refine WP_getr dX10_turnChanges_5 fX10_62 rfl (lyx_is hy _ _ rfl) (rfx hr 0 5 53 (by decide)) ?_
  refine WP_callV1 (k := 4) dX10_turnChanges_8 ⟨⟨⟨by decide, by decide⟩, zX4_become⟩, lX10_249, by decide, rfl, vX4_become.1, vX4_become.2⟩ (lyx_is hy _ _ rfl) (x_become hy hr P_trial (by decide) P_course (by decide)) (Nat.le_of_ble_eq_true rfl) ?_
  rintro r I3 J3 R3 ⟨rfl, hx3, eR⟩
  rw [eR]
  simp only [Option.toList, List.cons_append, List.nil_append]
  have hxc3 := XC_fx hxc hx3 (by decide)
  have h_town := hxc.1
  refine WP_aload_n dX10_turnChanges_11 rfl ?_
  refine WP_getr dX10_turnChanges_12 fX10_66 rfl (lyx_is hy _ _ rfl) (rfx hr 0 6 56 (by decide)) ?_
  refine WP_aload_n dX10_turnChanges_15 rfl ?_
  refine WP_getr dX10_turnChanges_16 fX10_33 rfl (lyx_is hy _ _ rfl) (rfx hr 0 2 5 (by decide)) ?_
  refine WP_getr dX10_turnChanges_19 fX10_102 rfl (lyx_is hy _ _ rfl) h_town ?_
  refine WP_callV1 (k := 4) dX10_turnChanges_22 ⟨⟨⟨by decide, by decide⟩, zX4_begin⟩, lX10_246, by decide, rfl, vX4_begin.1, vX4_begin.2⟩ (lyx_is hy _ _ rfl) (x_begin hy hr P_ta ⟨rfl, by decide⟩ P_trial (by decide) (by decide) hxc3.2.1) (Nat.le_of_ble_eq_true rfl) ?_
  rintro r I4 J4 R4 ⟨rfl, hx4, eR4, hr4, hj4⟩
  rw [eR4]
  simp only [Option.toList, List.cons_append, List.nil_append]
  have hxc4 := XC_fx hxc3 hx4 (by decide)
  refine WP_aload_n dX10_turnChanges_25 rfl ?_
  refine WP_getr dX10_turnChanges_26 fX10_55 rfl (lyx_is hy _ _ rfl) (rfx hr 0 4 49 (by decide)) ?_
  refine WP_getr dX10_turnChanges_29 fX10_353 rfl (lyx_is hy _ _ rfl) (rfx hr 49 1 51 (by decide)) ?_
  refine WP_iconst (0) dX10_turnChanges_32 rfl ?_
  refine WP_callS2u dX10_turnChanges_33 ⟨⟨⟨by decide, by decide⟩, zJ7_fill_53178⟩, lX10_335, tJ7_fill_53178⟩ (s_fill hy hr P_walk_sold 21 rfl rfl (by decide) 0) (Nat.le_of_ble_eq_true rfl) ?_
  refine WP_iconst (0) dX10_turnChanges_36 rfl ?_
  refine WP_istore_n (ls' := [(0, _), (1, _)]) dX10_turnChanges_37 (by decide) rfl ?_
  refine WP_sub (ls' := [(0, .ref (ad g P_x)), (1, .int (nI 0))]) (fc rfl (fc rfl fn)) (lx_turn (I := I) hy hr 7 0 _ (by omega) ?_)
  exact ⟨XC_fx hxc4 (fi_fx hy (S := [P_walk_sold]) fxX_rf (by decide) (by decide)) (by decide), (by rw [fi_off (lyx_ne hy (show P_trial ≠ P_walk_sold by decide) (by decide) (by decide))]; exact hr4.1)⟩
set_option maxHeartbeats 4000000 in
set_option maxRecDepth 100000 in
theorem l_rest70 {g : GG} {I : pI} {J : pJ} {R : pR} (hy : LyX g) (hr : RfX g R) : WP g mX10_rest 70 [(2, .int 1)] [] I J R (rq 1) := by
  refine WP_iload_n dX10_rest_70 rfl ?_
  refine WP_if_eq 78 dX10_rest_71 rfl (fun c71 => absurd c71 (by decide)) (fun c71 => ?_)
  refine WP_iconst (1) dX10_rest_74 rfl ?_
  refine WP_goto 79 dX10_rest_75 rfl ?_
  exact WP_iret dX10_rest_79 rfl rfl
set_option maxHeartbeats 4000000 in
set_option maxRecDepth 100000 in
theorem l_rest24 {g : GG} {I : pI} {J : pJ} {R : pR} (hy : LyX g) (hr : RfX g R) (a : Int32) (ha : 0 ≤ a.toInt ∧ a.toInt ≤ 1) (hxc : XC g I R) : WP g mX10_rest 24 [(0, .ref (ad g P_x)), (1, .int a)] [] I J R (rq (if 0 ≤ a.toInt ∧ a.toInt ≤ 1 then 1 else -2)) := by
  rw [if_pos ha]
  refine WP_iconst (0) dX10_rest_24 rfl ?_
  refine WP_istore_n (ls' := [(0, _), (1, _), (2, _)]) dX10_rest_25 (by decide) rfl ?_
  refine WP_aload_n dX10_rest_26 rfl ?_
  refine WP_iconst (0) dX10_rest_27 rfl ?_
  refine WP_puti dX10_rest_28 fX10_263 rfl rfl (lyx_is hy _ _ rfl) ?_
  refine WP_aload_n dX10_rest_31 rfl ?_
  refine WP_geti dX10_rest_32 fX10_263 rfl (lyx_is hy _ _ rfl) ?_
  refine WP_bipush (60) dX10_rest_35 rfl ?_
  refine WP_icmp_ge 70 dX10_rest_37 rfl (fun c37 => absurd c37 (by rw [pp_self]; decide)) (fun c37 => ?_)
  refine WP_iload_n dX10_rest_40 rfl ?_
  refine WP_if_ne 70 dX10_rest_41 rfl (fun c41 => absurd c41 (by decide)) (fun c41 => ?_)
  refine WP_aload_n dX10_rest_44 rfl ?_
  refine WP_dup dX10_rest_45 rfl ?_
  refine WP_geti dX10_rest_46 fX10_263 rfl (lyx_is hy _ _ rfl) ?_
  refine WP_iconst (1) dX10_rest_49 rfl ?_
  refine WP_iadd dX10_rest_50 ?_
  refine WP_puti dX10_rest_51 fX10_263 rfl rfl (lyx_is hy _ _ rfl) ?_
  refine WP_aload_n dX10_rest_54 rfl ?_
  refine WP_callV0 (k := 10) dX10_rest_55 ⟨⟨⟨by decide, by decide⟩, zX10_turnChanges⟩, lX10_266, by decide, rfl, vX10_turnChanges.1, vX10_turnChanges.2⟩ (lyx_is hy _ _ rfl) (x_turnChanges hy hr (XC_fx hxc (fxX_pp hy (fxX_pp hy (S := [P_x]) fxX_rf (by decide) (by decide)) (by decide) (by decide)) (by decide))) (Nat.le_of_ble_eq_true rfl) ?_
  rintro r I3 J3 R3 ⟨rfl, hx3, eR⟩
  rw [eR]
  simp only [Option.toList, List.cons_append, List.nil_append]
  refine WP_if_ne 65 dX10_rest_58 rfl (fun c58 => absurd c58 (by decide)) (fun c58 => ?_)
  refine WP_iconst (1) dX10_rest_61 rfl ?_
  refine WP_goto 66 dX10_rest_62 rfl ?_
  refine WP_istore_n (ls' := [(0, _), (1, _), (2, _)]) dX10_rest_66 (by decide) rfl ?_
  refine WP_goto 31 dX10_rest_67 rfl ?_
  refine WP_aload_n dX10_rest_31 rfl ?_
  refine WP_geti dX10_rest_32 fX10_263 rfl (lyx_is hy _ _ rfl) ?_
  refine WP_bipush (60) dX10_rest_35 rfl ?_
  refine WP_icmp_ge 70 dX10_rest_37 rfl (fun c37 => ?_) (fun c37 => ?_)
  · exact WP_sub (ls' := [(2, .int 1)]) (fc rfl fn) (l_rest70 hy hr)
  · refine WP_iload_n dX10_rest_40 rfl ?_
    refine WP_if_ne 70 dX10_rest_41 rfl (fun c41 => ?_) (fun c41 => absurd c41 (by decide))
    exact WP_sub (ls' := [(2, .int 1)]) (fc rfl fn) (l_rest70 hy hr)
set_option maxHeartbeats 4000000 in
set_option maxRecDepth 100000 in
theorem xr_rest {g : GG} {I : pI} {J : pJ} {R : pR} (hy : LyX g) (hr : RfX g R) (hf : XF g I J R) (a : Int32) : SP g mX10_rest [.ref (ad g P_x), .int a] I J R (rq (if 0 ≤ a.toInt ∧ a.toInt ≤ 1 then 1 else -2)) := by
  refine SP_of ⟨by decide, rfl⟩ (Nat.le_of_ble_eq_true rfl) ?_
  have c0 : True := trivial
  have hf0 := hf
  obtain ⟨hxc, h_length, h_kind, h_place, h_clauses, h_turns, h_days, h_chestC, h_bought, h_held, h_cost0, h_s0, h_s1, h_s2, h_spare, h_loss, h_mloss, h_stamps⟩ := hf
  have hxc0 := hxc
  obtain ⟨h_town, h_sorts, h_things, h_chest, h_stored⟩ := hxc
  refine WP_iload_n dX10_rest_0 rfl ?_
  refine WP_if_eq 12 dX10_rest_1 rfl (fun c1 => ?_) (fun c1 => ?_)
  · refine WP_iload_n dX10_rest_12 rfl ?_
    refine WP_iconst (1) dX10_rest_13 rfl ?_
    refine WP_icmp_ne 24 dX10_rest_14 rfl (fun c14 => ?_) (fun c14 => ?_)
    · first | exact l_rest24 hy hr a (by simp only [eq32, Int32.reduceToInt] at c0 c1 c14; omega) hxc0 | exact l_rest24 hy hr a (by simp only [eq32, Int32.reduceToInt] at c0 c1 c14; omega) (XC_fx hxc0 hx3 (by decide))
    · refine WP_aload_n dX10_rest_17 rfl ?_
      refine WP_getr dX10_rest_18 fX10_33 rfl (lyx_is hy _ _ rfl) (rfx hr 0 2 5 (by decide)) ?_
      refine WP_callV0 (k := 0) dX10_rest_21 ⟨⟨⟨by decide, by decide⟩, zX0_pricesAsTold⟩, lX10_260, by decide, rfl, vX0_pricesAsTold.1, vX0_pricesAsTold.2⟩ (lyx_is hy _ _ rfl) (x_pricesAsTold_ta hy hr h_town) (Nat.le_of_ble_eq_true rfl) ?_
      rintro r I3 J3 R3 ⟨rfl, hx3, eJ, eR⟩
      rw [eJ, eR]
      simp only [Option.toList, List.cons_append, List.nil_append]
      first | exact l_rest24 hy hr a (by simp only [eq32, Int32.reduceToInt] at c0 c1 c14; omega) hxc0 | exact l_rest24 hy hr a (by simp only [eq32, Int32.reduceToInt] at c0 c1 c14; omega) (XC_fx hxc0 hx3 (by decide))
  · refine WP_iload_n dX10_rest_4 rfl ?_
    refine WP_iconst (1) dX10_rest_5 rfl ?_
    refine WP_icmp_eq 12 dX10_rest_6 rfl (fun c6 => ?_) (fun c6 => ?_)
    · refine WP_iload_n dX10_rest_12 rfl ?_
      refine WP_iconst (1) dX10_rest_13 rfl ?_
      refine WP_icmp_ne 24 dX10_rest_14 rfl (fun c14 => ?_) (fun c14 => ?_)
      · first | exact l_rest24 hy hr a (by simp only [eq32, Int32.reduceToInt] at c0 c1 c6 c14; omega) hxc0 | exact l_rest24 hy hr a (by simp only [eq32, Int32.reduceToInt] at c0 c1 c6 c14; omega) (XC_fx hxc0 hx3 (by decide))
      · refine WP_aload_n dX10_rest_17 rfl ?_
        refine WP_getr dX10_rest_18 fX10_33 rfl (lyx_is hy _ _ rfl) (rfx hr 0 2 5 (by decide)) ?_
        refine WP_callV0 (k := 0) dX10_rest_21 ⟨⟨⟨by decide, by decide⟩, zX0_pricesAsTold⟩, lX10_260, by decide, rfl, vX0_pricesAsTold.1, vX0_pricesAsTold.2⟩ (lyx_is hy _ _ rfl) (x_pricesAsTold_ta hy hr h_town) (Nat.le_of_ble_eq_true rfl) ?_
        rintro r I3 J3 R3 ⟨rfl, hx3, eJ, eR⟩
        rw [eJ, eR]
        simp only [Option.toList, List.cons_append, List.nil_append]
        first | exact l_rest24 hy hr a (by simp only [eq32, Int32.reduceToInt] at c0 c1 c6 c14; omega) hxc0 | exact l_rest24 hy hr a (by simp only [eq32, Int32.reduceToInt] at c0 c1 c6 c14; omega) (XC_fx hxc0 hx3 (by decide))
    · refine WP_bipush (-2) dX10_rest_9 rfl ?_
      exact WP_iret dX10_rest_11 rfl (by unfold rq; simp only [eq32, Int32.reduceToInt] at c0 c1 c6; rw [if_neg (by omega)])
