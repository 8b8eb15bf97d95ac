def Stm (g : GG) (d k : Nat) (I : pI) : Prop := (∀ e c, e < d → c < 61 → I (ad g P_market_behindStamps) (61 * e + c) = nI c) ∧ ∀ c, c < k → I (ad g P_market_behindStamps) (61 * d + c) = nI c
def Zl (g : GG) (I : pI) : Prop := ∀ q, I (ad g P_market_losses) q = 0
theorem Stm_s {g : GG} {d k : Nat} {I : pI} (h : Stm g d k I) (hk : k < 61) : Stm g d (k + 1) (pp I (ad g P_market_behindStamps) (61 * d + k) (nI k)) := by
  refine ⟨fun e c he hc => ?_, fun c hc => ?_⟩
  · rw [pp_ne _ _ (Or.inr (by omega))]; exact h.1 e c he hc
  · by_cases q : c = k
    · subst q; rw [pp_self]
    · rw [pp_ne _ _ (Or.inr (by omega))]; exact h.2 c (by omega)
theorem Stm_n {g : GG} {d : Nat} {I : pI} (h : Stm g d 61 I) : Stm g (d + 1) 0 I := by
  refine ⟨fun e c he hc => ?_, fun c hc => absurd hc (by omega)⟩
  by_cases q : e < d
  · exact h.1 e c q hc
  · have : e = d := by omega
    subst this; exact h.2 c hc
set_option maxHeartbeats 4000000 in
set_option maxRecDepth 100000 in
theorem l_stamp10 {g : GG} {I : pI} {J : pJ} {R : pR} (hy : LyX g) (hr : RfX g R) {Q : Post} (d : Nat) (hd : d < 7) (hnext : ∀ I3, fxX g [P_market_behindStamps] I I3 → (Zl g I → Stm g (d + 1) 0 I3) → WP g mX0_stampAll 45 [(0, .ref (ad g P_market)), (1, .int (nI d))] [] I3 J R Q)  : ∀ (m k : Nat) (I2 : pI), k + m = 61 → (fxX g [P_market_behindStamps] I I2 ∧ (Zl g I → Stm g d k I2)) → WP g mX0_stampAll 10 [(0, .ref (ad g P_market)), (1, .int (nI d)), (2, .int (nI k))] [] I2 J R Q := by
  intro m
  induction m with
  | zero =>
    intro k I2 hk hv
    have hkb : k ≤ 61 := by omega
    have ek := nI_toInt (show k < 2 ^ 31 by omega)
    have ed := nI_toInt (show d < 2 ^ 31 by omega)
    have e1 : (61 : Int32).toInt = 61 := rfl
    have b1 : (nI d * 61).toInt = (d : Int) * 61 := by rw [im (by rw [e1, ed]; omega) (by rw [e1, ed]; omega), e1, ed]
    have b2 : (nI d * 61 + nI k).toInt = (d : Int) * 61 + k := by rw [ia (by rw [b1, ek]; omega) (by rw [b1, ek]; omega), b1, ek]
    have hkt : (nI k).toInt = (k : Int) := nI_toInt (by omega)
    have c0 : True := trivial
    refine WP_iload_n dX0_stampAll_10 rfl ?_
    refine WP_bipush (61) dX0_stampAll_11 rfl ?_
    refine WP_icmp_ge 45 dX0_stampAll_13 rfl (fun c13 => ?_) (fun c13 => absurd c13 (by intro cc; (try simp only [hkt, hkt] at cc); (all_goals (try simp only [cmp_lt, cmp_gt] at cc)); (all_goals (try simp only [le32, lt32, eq32, t64, Int32.reduceToInt, Int64.reduceToInt] at cc)); (all_goals (try simp (disch := ((try simp (disch := ((try simp (disch := omega) only [ia, is', im, ja, js, ir, idv, Int32.reduceToInt, Int64.reduceToInt, t64]); omega)) only [ia, is', im, ja, js, ir, idv, Int32.reduceToInt, Int64.reduceToInt, t64]); omega)) only [ia, is', im, ja, js, ir, idv, Int32.reduceToInt, Int64.reduceToInt, t64] at cc)); (all_goals (try simp only [hkt, hkt] at cc)); (all_goals (try simp only [not_true_eq_false, eq_self] at cc)); all_goals omega))
    have e61 : k = 61 := by omega
    subst e61
    exact WP_sub (fc rfl (fc rfl fn)) (hnext I2 hv.1 (fun z => Stm_n (hv.2 z)))
  | succ m ih =>
    intro k I2 hk hv
    have hkb : k ≤ 61 := by omega
    have ek := nI_toInt (show k < 2 ^ 31 by omega)
    have ed := nI_toInt (show d < 2 ^ 31 by omega)
    have e1 : (61 : Int32).toInt = 61 := rfl
    have b1 : (nI d * 61).toInt = (d : Int) * 61 := by rw [im (by rw [e1, ed]; omega) (by rw [e1, ed]; omega), e1, ed]
    have b2 : (nI d * 61 + nI k).toInt = (d : Int) * 61 + k := by rw [ia (by rw [b1, ek]; omega) (by rw [b1, ek]; omega), b1, ek]
    have hkt : (nI k).toInt = (k : Int) := nI_toInt (by omega)
    have c0 : True := trivial
    refine WP_iload_n dX0_stampAll_10 rfl ?_
    refine WP_bipush (61) dX0_stampAll_11 rfl ?_
    refine WP_icmp_ge 45 dX0_stampAll_13 rfl (fun c13 => absurd c13 (by intro cc; (try simp only [hkt, hkt] at cc); (all_goals (try simp only [cmp_lt, cmp_gt] at cc)); (all_goals (try simp only [le32, lt32, eq32, t64, Int32.reduceToInt, Int64.reduceToInt] at cc)); (all_goals (try simp (disch := ((try simp (disch := ((try simp (disch := omega) only [ia, is', im, ja, js, ir, idv, Int32.reduceToInt, Int64.reduceToInt, t64]); omega)) only [ia, is', im, ja, js, ir, idv, Int32.reduceToInt, Int64.reduceToInt, t64]); omega)) only [ia, is', im, ja, js, ir, idv, Int32.reduceToInt, Int64.reduceToInt, t64] at cc)); (all_goals (try simp only [hkt, hkt] at cc)); (all_goals (try simp only [not_true_eq_false, eq_self] at cc)); all_goals omega)) (fun c13 => ?_)
    refine WP_aload_n dX0_stampAll_16 rfl ?_
    refine WP_getr dX0_stampAll_17 fX0_18 rfl (lyx_is hy _ _ rfl) (rfx hr 5 3 24 (by decide)) ?_
    refine WP_iload_n dX0_stampAll_20 rfl ?_
    refine WP_bipush (61) dX0_stampAll_21 rfl ?_
    refine WP_imul dX0_stampAll_23 ?_
    refine WP_iload_n dX0_stampAll_24 rfl ?_
    refine WP_iadd dX0_stampAll_25 ?_
    refine WP_iload_n dX0_stampAll_26 rfl ?_
    refine WP_iload_n dX0_stampAll_27 rfl ?_
    refine WP_aload_n dX0_stampAll_28 rfl ?_
    refine WP_getr dX0_stampAll_29 fX0_15 rfl (lyx_is hy _ _ rfl) (rfx hr 5 2 23 (by decide)) ?_
    refine WP_iload_n dX0_stampAll_32 rfl ?_
    refine WP_iald dX0_stampAll_33 (lyx_is hy _ _ rfl) (lyx_in hy _ _ rfl (vin (by rw [ed]; omega) (by rw [ed]; omega))) ?_
    refine WP_callN2p dX0_stampAll_34 ⟨⟨⟨by decide, by decide⟩, zX10_stampsOf⟩, lX0_60, tX10_stampsOf⟩ (x_stampsOf hy hr _ _) (Nat.le_of_ble_eq_true rfl) ?_
    refine WP_isub dX0_stampAll_37 ?_
    refine WP_iast dX0_stampAll_38 (lyx_is hy _ _ rfl) (lyx_in hy _ _ rfl (vin (by rw [b2]; omega) (by rw [b2]; omega))) ?_
    refine WP_iinc (ls' := [(0, _), (1, _), (2, _)]) dX0_stampAll_39 rfl (by decide) rfl ?_
    refine WP_goto 10 dX0_stampAll_42 rfl ?_
    refine WP_sub (ls' := [(0, .ref (ad g P_market)), (1, .int (nI d)), (2, .int (nI (k + 1)))]) (fc rfl (fc rfl (fc (by rw [← nI_1]; rfl) fn))) (ih (k + 1) _ (by omega) ?_)
    refine ⟨fxX_pp hy hv.1 (by decide) (by decide), fun z => ?_⟩
    have ez : I2 (ad g P_market_losses) (nI d).toNatClampNeg = 0 := by rw [hv.1 P_market_losses (by decide) (by decide)]; exact z _
    rw [ez, stamp0, Int32.sub_zero, cl (n := 61 * d + k) (by rw [b2]; omega)]
    exact Stm_s (hv.2 z) (by omega)
set_option maxHeartbeats 4000000 in
set_option maxRecDepth 100000 in
theorem l_stamp2 {g : GG} {I : pI} {J : pJ} {R : pR} (hy : LyX g) (hr : RfX g R)  : ∀ (m k : Nat) (I2 : pI), k + m = 7 → (fxX g [P_market_behindStamps] I I2 ∧ (Zl g I → Stm g k 0 I2)) → WP g mX0_stampAll 2 [(0, .ref (ad g P_market)), (1, .int (nI k))] [] I2 J R (fun r I' J' R' => r = none ∧ fxX g [P_market_behindStamps] I I' ∧ (Zl g I → Stm g 7 0 I') ∧ J' = J ∧ R' = R) := by
  intro m
  induction m with
  | zero =>
    intro k I2 hk hv
    have hkt : (nI k).toInt = (k : Int) := nI_toInt (by omega)
    have c0 : True := trivial
    refine WP_iload_n dX0_stampAll_2 rfl ?_
    refine WP_bipush (7) dX0_stampAll_3 rfl ?_
    refine WP_icmp_ge 51 dX0_stampAll_5 rfl (fun c5 => ?_) (fun c5 => absurd c5 (by intro cc; (try simp only [hkt, hkt] at cc); (all_goals (try simp only [cmp_lt, cmp_gt] at cc)); (all_goals (try simp only [le32, lt32, eq32, t64, Int32.reduceToInt, Int64.reduceToInt] at cc)); (all_goals (try simp (disch := ((try simp (disch := ((try simp (disch := omega) only [ia, is', im, ja, js, ir, idv, Int32.reduceToInt, Int64.reduceToInt, t64]); omega)) only [ia, is', im, ja, js, ir, idv, Int32.reduceToInt, Int64.reduceToInt, t64]); omega)) only [ia, is', im, ja, js, ir, idv, Int32.reduceToInt, Int64.reduceToInt, t64] at cc)); (all_goals (try simp only [hkt, hkt] at cc)); (all_goals (try simp only [not_true_eq_false, eq_self] at cc)); all_goals omega))
    exact WP_vret dX0_stampAll_51 rfl ⟨rfl, hv.1, (by have e7 : k = 7 := (by omega); subst e7; exact hv.2), rfl, rfl⟩
  | succ m ih =>
    intro k I2 hk hv
    have hkt : (nI k).toInt = (k : Int) := nI_toInt (by omega)
    have c0 : True := trivial
    refine WP_iload_n dX0_stampAll_2 rfl ?_
    refine WP_bipush (7) dX0_stampAll_3 rfl ?_
    refine WP_icmp_ge 51 dX0_stampAll_5 rfl (fun c5 => absurd c5 (by intro cc; (try simp only [hkt, hkt] at cc); (all_goals (try simp only [cmp_lt, cmp_gt] at cc)); (all_goals (try simp only [le32, lt32, eq32, t64, Int32.reduceToInt, Int64.reduceToInt] at cc)); (all_goals (try simp (disch := ((try simp (disch := ((try simp (disch := omega) only [ia, is', im, ja, js, ir, idv, Int32.reduceToInt, Int64.reduceToInt, t64]); omega)) only [ia, is', im, ja, js, ir, idv, Int32.reduceToInt, Int64.reduceToInt, t64]); omega)) only [ia, is', im, ja, js, ir, idv, Int32.reduceToInt, Int64.reduceToInt, t64] at cc)); (all_goals (try simp only [hkt, hkt] at cc)); (all_goals (try simp only [not_true_eq_false, eq_self] at cc)); all_goals omega)) (fun c5 => ?_)
    refine WP_iconst (0) dX0_stampAll_8 rfl ?_
    refine WP_istore_n (ls' := [(0, _), (1, _), (2, _)]) dX0_stampAll_9 (by decide) rfl ?_
    refine WP_sub (ls' := [(0, .ref (ad g P_market)), (1, .int (nI k)), (2, .int (nI 0))]) (fc rfl (fc rfl (fc rfl fn))) (l_stamp10 (I := I) (J := J) hy hr k (by omega) ?_ 61 0 _ (by omega) ⟨hv.1, hv.2⟩)
    intro I3 hx3 hz3
    refine WP_iinc (ls' := [(0, _), (1, _)]) dX0_stampAll_45 rfl (by decide) rfl ?_
    refine WP_goto 2 dX0_stampAll_48 rfl ?_
    exact WP_sub (ls' := [(0, .ref (ad g P_market)), (1, .int (nI (k + 1)))]) (fc rfl (fc (by rw [← nI_1]; rfl) fn)) (ih (k + 1) _ (by omega) ⟨hx3, hz3⟩)
set_option maxHeartbeats 4000000 in
set_option maxRecDepth 100000 in
theorem x_stampAll {g : GG} {I : pI} {J : pJ} {R : pR} (hy : LyX g) (hr : RfX g R)  : SP g mX0_stampAll [.ref (ad g P_market)] I J R (fun r I' J' R' => r = none ∧ fxX g [P_market_behindStamps] I I' ∧ (Zl g I → Stm g 7 0 I') ∧ J' = J ∧ R' = R) := by
  refine SP_of ⟨by decide, rfl⟩ (Nat.le_of_ble_eq_true rfl) ?_
  have c0 : True := trivial
  refine WP_iconst (0) dX0_stampAll_0 rfl ?_
  refine WP_istore_n (ls' := [(0, _), (1, _)]) dX0_stampAll_1 (by decide) rfl ?_
  refine WP_sub (ls' := [(0, .ref (ad g P_market)), (1, .int (nI 0))]) (fc rfl (fc rfl fn)) (l_stamp2 (I := I) (J := J) hy hr 7 0 _ (by omega) ?_)
  exact ⟨fxX_rf, fun _ => ⟨fun e c he => absurd he (by omega), fun c hc => absurd hc (by omega)⟩⟩
set_option maxHeartbeats 4000000 in
set_option maxRecDepth 100000 in
theorem x_pricesAsTold_ta {g : GG} {I : pI} {J : pJ} {R : pR} (hy : LyX g) (hr : RfX g R) (h_town : R (ad g P_market) 0 = some (ad g P_ta))  : SP g mX0_pricesAsTold [.ref (ad g P_market)] I J R (fqX g [P_market_prices] I J R) := by
  refine SP_of ⟨by decide, rfl⟩ (Nat.le_of_ble_eq_true rfl) ?_
  have c0 : True := trivial
  refine WP_aload_n dX0_pricesAsTold_0 rfl ?_
  refine WP_getr dX0_pricesAsTold_1 fX0_27 rfl (lyx_is hy _ _ rfl) h_town ?_
  refine WP_getr dX0_pricesAsTold_4 fX0_49 rfl (lyx_is hy _ _ rfl) (rfx hr 6 16 18 (by decide)) ?_
  refine WP_iconst (0) dX0_pricesAsTold_7 rfl ?_
  refine WP_aload_n dX0_pricesAsTold_8 rfl ?_
  refine WP_getr dX0_pricesAsTold_9 fX0_9 rfl (lyx_is hy _ _ rfl) (rfx hr 5 1 22 (by decide)) ?_
  refine WP_iconst (0) dX0_pricesAsTold_12 rfl ?_
  refine WP_aload_n dX0_pricesAsTold_13 rfl ?_
  refine WP_getr dX0_pricesAsTold_14 fX0_9 rfl (lyx_is hy _ _ rfl) (rfx hr 5 1 22 (by decide)) ?_
  refine WP_alen dX0_pricesAsTold_17 (lyx_is hy _ _ rfl) (by decide) ?_
  rw [lyx_n hy _ _ rfl]
  refine WP_copyi dX0_pricesAsTold_18 lX0_50 ⟨by decide, Nat.le_of_ble_eq_true rfl⟩ (lyx_is hy _ _ rfl) (lyx_is hy _ _ rfl) (by decide) (by decide) (by decide) (by rw [lyx_n hy _ _ rfl]; decide) (by rw [lyx_n hy _ _ rfl]; decide) ?_
  exact WP_vret dX0_pricesAsTold_21 rfl ⟨rfl, cp_fx hy fxX_rf (by decide) (by decide), rfl, rfl⟩
theorem zc_ta {g : GG} {I : pI} {sp dp n : Nat} (h1 : ∀ q, I (ad g P_ta_losses) q = 0) (h2 : Zl g I) : ∀ q, pcpy I (ad g P_ta_losses) (ad g P_market_losses) sp dp n (ad g P_market_losses) q = 0 := by
  intro q
  unfold pcpy
  rw [if_pos rfl]
  split
  · exact h1 _
  · exact h2 q
set_option maxHeartbeats 4000000 in
set_option maxRecDepth 100000 in
theorem x_lossesAsTold_ta {g : GG} {I : pI} {J : pJ} {R : pR} (hy : LyX g) (hr : RfX g R) (h_town : R (ad g P_market) 0 = some (ad g P_ta))  : SP g mX0_lossesAsTold [.ref (ad g P_market)] I J R (fun r I' J' R' => r = none ∧ fxX g [P_market_losses, P_market_behindStamps] I I' ∧ ((∀ q, I (ad g P_ta_losses) q = 0) → Zl g I → Zl g I' ∧ Stm g 7 0 I') ∧ J' = J ∧ R' = R) := by
  refine SP_of ⟨by decide, rfl⟩ (Nat.le_of_ble_eq_true rfl) ?_
  have c0 : True := trivial
  refine WP_aload_n dX0_lossesAsTold_0 rfl ?_
  refine WP_getr dX0_lossesAsTold_1 fX0_27 rfl (lyx_is hy _ _ rfl) h_town ?_
  refine WP_getr dX0_lossesAsTold_4 fX0_56 rfl (lyx_is hy _ _ rfl) (rfx hr 6 5 7 (by decide)) ?_
  refine WP_iconst (0) dX0_lossesAsTold_7 rfl ?_
  refine WP_aload_n dX0_lossesAsTold_8 rfl ?_
  refine WP_getr dX0_lossesAsTold_9 fX0_15 rfl (lyx_is hy _ _ rfl) (rfx hr 5 2 23 (by decide)) ?_
  refine WP_iconst (0) dX0_lossesAsTold_12 rfl ?_
  refine WP_bipush (7) dX0_lossesAsTold_13 rfl ?_
  refine WP_copyi dX0_lossesAsTold_15 lX0_50 ⟨by decide, Nat.le_of_ble_eq_true rfl⟩ (lyx_is hy _ _ rfl) (lyx_is hy _ _ rfl) (by decide) (by decide) (by decide) (by rw [lyx_n hy _ _ rfl]; decide) (by rw [lyx_n hy _ _ rfl]; decide) ?_
  refine WP_aload_n dX0_lossesAsTold_18 rfl ?_
  refine WP_callV0 (k := 0) dX0_lossesAsTold_19 ⟨⟨⟨by decide, by decide⟩, zX0_stampAll⟩, lX0_57, by decide, rfl, vX0_stampAll.1, vX0_stampAll.2⟩ (lyx_is hy _ _ rfl) (x_stampAll hy hr) (Nat.le_of_ble_eq_true rfl) ?_
  rintro r I3 J3 R3 ⟨rfl, hx3, hz3, eJ, eR⟩
  rw [eJ, eR]
  simp only [Option.toList, List.cons_append, List.nil_append]
  exact WP_vret dX0_lossesAsTold_22 rfl ⟨rfl, fxX_tr (cp_fx hy fxX_rf (by decide) (by decide)) (fxX_mono hx3 (by decide)), (fun h1 h2 => ⟨(fun q => by rw [hx3 P_market_losses (by decide) (by decide)]; exact zc_ta h1 h2 q), hz3 (fun q => zc_ta h1 h2 q)⟩), rfl, rfl⟩
set_option maxHeartbeats 4000000 in
set_option maxRecDepth 100000 in
theorem l_open_ta {g : GG} {I : pI} {J : pJ} {R : pR} (hy : LyX g) (hr : RfX g R) (h_town : R (ad g P_market) 0 = some (ad g P_ta))  : ∀ (m k : Nat) (I2 : pI), k + m = 6 → (fxX g [P_market_storeCosts, P_market_storesBehind] I I2 ∧ (0 < k → I2 (ad g P_market_storeCosts) 0 = 0)) → WP g mX0_open 64 [(0, .ref (ad g P_market)), (1, .int 0), (2, .int 0), (3, .int (nI k))] [] I2 J R (fun r I' J' R' => r = none ∧ fxX g [P_market_storeCosts, P_market_storesBehind, P_market_prices, P_market_losses, P_market_behindStamps] I I' ∧ I' (ad g P_market_storeCosts) 0 = 0 ∧ ((∀ q, I (ad g P_ta_losses) q = 0) → Zl g I → Zl g I' ∧ Stm g 7 0 I') ∧ J' = J ∧ R' = R) := by
  intro m
  induction m with
  | zero =>
    intro k I2 hk hv
    have hkt : (nI k).toInt = (k : Int) := nI_toInt (by omega)
    have c0 : True := trivial
    refine WP_iload_n dX0_open_64 rfl ?_
    refine WP_bipush (6) dX0_open_65 rfl ?_
    refine WP_icmp_ge 100 dX0_open_67 rfl (fun c67 => ?_) (fun c67 => absurd c67 (by intro cc; (try simp only [hkt, hkt] at cc); (all_goals (try simp only [cmp_lt, cmp_gt] at cc)); (all_goals (try simp only [le32, lt32, eq32, t64, Int32.reduceToInt, Int64.reduceToInt] at cc)); (all_goals (try simp (disch := ((try simp (disch := ((try simp (disch := omega) only [ia, is', im, ja, js, ir, idv, Int32.reduceToInt, Int64.reduceToInt, t64]); omega)) only [ia, is', im, ja, js, ir, idv, Int32.reduceToInt, Int64.reduceToInt, t64]); omega)) only [ia, is', im, ja, js, ir, idv, Int32.reduceToInt, Int64.reduceToInt, t64] at cc)); (all_goals (try simp only [hkt, hkt] at cc)); (all_goals (try simp only [not_true_eq_false, eq_self] at cc)); all_goals omega))
    refine WP_aload_n dX0_open_100 rfl ?_
    refine WP_callV0 (k := 0) dX0_open_101 ⟨⟨⟨by decide, by decide⟩, zX0_pricesAsTold⟩, lX0_43, by decide, rfl, vX0_pricesAsTold.1, vX0_pricesAsTold.2⟩ (lyx_is hy _ _ rfl) (x_pricesAsTold_ta hy hr h_town) (Nat.le_of_ble_eq_true rfl) ?_
    rintro r I3 J3 R3 ⟨rfl, hx3, eJ, eR⟩
    rw [eJ, eR]
    simp only [Option.toList, List.cons_append, List.nil_append]
    refine WP_aload_n dX0_open_104 rfl ?_
    refine WP_callV0 (k := 0) dX0_open_105 ⟨⟨⟨by decide, by decide⟩, zX0_lossesAsTold⟩, lX0_46, by decide, rfl, vX0_lossesAsTold.1, vX0_lossesAsTold.2⟩ (lyx_is hy _ _ rfl) (x_lossesAsTold_ta hy hr h_town) (Nat.le_of_ble_eq_true rfl) ?_
    rintro r I4 J4 R4 ⟨rfl, hx4, hz4, eJ4, eR4⟩
    rw [eJ4, eR4]
    simp only [Option.toList, List.cons_append, List.nil_append]
    exact WP_vret dX0_open_108 rfl ⟨rfl, fxX_tr (fxX_tr (fxX_mono hv.1 (by decide)) (fxX_mono hx3 (by decide))) (fxX_mono hx4 (by decide)), (by rw [hx4 P_market_storeCosts (by decide) (by decide), hx3 P_market_storeCosts (by decide) (by decide)]; exact hv.2 (by omega)), (fun h1 h2 => hz4 (fun q => by rw [hx3 P_ta_losses (by decide) (by decide), hv.1 P_ta_losses (by decide) (by decide)]; exact h1 q) (fun q => by rw [hx3 P_market_losses (by decide) (by decide), hv.1 P_market_losses (by decide) (by decide)]; exact h2 q)), rfl, rfl⟩
  | succ m ih =>
    intro k I2 hk hv
    have hkt : (nI k).toInt = (k : Int) := nI_toInt (by omega)
    have c0 : True := trivial
    refine WP_iload_n dX0_open_64 rfl ?_
    refine WP_bipush (6) dX0_open_65 rfl ?_
    refine WP_icmp_ge 100 dX0_open_67 rfl (fun c67 => absurd c67 (by intro cc; (try simp only [hkt, hkt] at cc); (all_goals (try simp only [cmp_lt, cmp_gt] at cc)); (all_goals (try simp only [le32, lt32, eq32, t64, Int32.reduceToInt, Int64.reduceToInt] at cc)); (all_goals (try simp (disch := ((try simp (disch := ((try simp (disch := omega) only [ia, is', im, ja, js, ir, idv, Int32.reduceToInt, Int64.reduceToInt, t64]); omega)) only [ia, is', im, ja, js, ir, idv, Int32.reduceToInt, Int64.reduceToInt, t64]); omega)) only [ia, is', im, ja, js, ir, idv, Int32.reduceToInt, Int64.reduceToInt, t64] at cc)); (all_goals (try simp only [hkt, hkt] at cc)); (all_goals (try simp only [not_true_eq_false, eq_self] at cc)); all_goals omega)) (fun c67 => ?_)
    refine WP_aload_n dX0_open_70 rfl ?_
    refine WP_getr dX0_open_71 fX0_21 rfl (lyx_is hy _ _ rfl) (rfx hr 5 4 25 (by decide)) ?_
    refine WP_iload_n dX0_open_74 rfl ?_
    refine WP_iload_n dX0_open_75 rfl ?_
    refine WP_iload_n dX0_open_76 rfl ?_
    refine WP_imul dX0_open_77 ?_
    refine WP_iast dX0_open_78 (lyx_is hy _ _ rfl) (lyx_in hy _ _ rfl (by (try simp only [hkt, hkt] at c0 c67 ⊢); (all_goals (try simp only [cmp_lt, cmp_gt] at c0 c67 ⊢)); (all_goals (try simp only [le32, lt32, eq32, t64, vp_in_iff, Int32.reduceToInt, Int64.reduceToInt] at c0 c67 ⊢)); (all_goals (try simp (disch := ((try simp (disch := ((try simp (disch := omega) only [ia, is', im, ja, js, ir, idv, Int32.reduceToInt, Int64.reduceToInt, t64]); omega)) only [ia, is', im, ja, js, ir, idv, Int32.reduceToInt, Int64.reduceToInt, t64]); omega)) only [ia, is', im, ja, js, ir, idv, Int32.reduceToInt, Int64.reduceToInt, t64] at c0 c67 ⊢)); (all_goals (try simp only [hkt, hkt] at c0 c67 ⊢)); all_goals (first | (constructor <;> omega) | (exfalso; omega)))) ?_
    refine WP_aload_n dX0_open_79 rfl ?_
    refine WP_getr dX0_open_80 fX0_24 rfl (lyx_is hy _ _ rfl) (rfx hr 5 5 26 (by decide)) ?_
    refine WP_iload_n dX0_open_83 rfl ?_
    refine WP_iload_n dX0_open_84 rfl ?_
    refine WP_iload_n dX0_open_85 rfl ?_
    refine WP_iload_n dX0_open_86 rfl ?_
    refine WP_imul dX0_open_87 ?_
    refine WP_sipush (1000) dX0_open_88 rfl ?_
    refine WP_idiv dX0_open_91 (by decide) ?_
    refine WP_isub dX0_open_92 ?_
    refine WP_iast dX0_open_93 (lyx_is hy _ _ rfl) (lyx_in hy _ _ rfl (by (try simp only [hkt, hkt] at c0 c67 ⊢); (all_goals (try simp only [cmp_lt, cmp_gt] at c0 c67 ⊢)); (all_goals (try simp only [le32, lt32, eq32, t64, vp_in_iff, Int32.reduceToInt, Int64.reduceToInt] at c0 c67 ⊢)); (all_goals (try simp (disch := ((try simp (disch := ((try simp (disch := omega) only [ia, is', im, ja, js, ir, idv, Int32.reduceToInt, Int64.reduceToInt, t64]); omega)) only [ia, is', im, ja, js, ir, idv, Int32.reduceToInt, Int64.reduceToInt, t64]); omega)) only [ia, is', im, ja, js, ir, idv, Int32.reduceToInt, Int64.reduceToInt, t64] at c0 c67 ⊢)); (all_goals (try simp only [hkt, hkt] at c0 c67 ⊢)); all_goals (first | (constructor <;> omega) | (exfalso; omega)))) ?_
    refine WP_iinc (ls' := [(0, _), (1, _), (2, _), (3, _)]) dX0_open_94 rfl (by decide) rfl ?_
    refine WP_goto 64 dX0_open_97 rfl ?_
    refine WP_sub (ls' := [(0, .ref (ad g P_market)), (1, .int 0), (2, .int 0), (3, .int (nI (k + 1)))]) (fc rfl (fc rfl (fc rfl (fc (by rw [← nI_1]; rfl) fn)))) (ih (k + 1) _ (by omega) ?_)
    refine ⟨fxX_pp hy (fxX_pp hy hv.1 (by decide) (by decide)) (by decide) (by decide), fun _ => ?_⟩
    rw [pp_off _ _ (lyx_ne hy (show P_market_storeCosts ≠ P_market_storesBehind by decide) (by decide) (by decide)), Int32.mul_zero]
    by_cases e0 : k = 0
    · subst e0; exact pp_self _ _ _ _
    · rw [pp_ne _ _ (Or.inr (by rw [cl hkt]; omega))]; exact hv.2 (by omega)
set_option maxHeartbeats 4000000 in
set_option maxRecDepth 100000 in
theorem x_open_ta {g : GG} {I : pI} {J : pJ} {R : pR} (hy : LyX g) (hr : RfX g R) (h_town : R (ad g P_market) 0 = some (ad g P_ta)) (hst : I (ad g P_ta) 4 = (-1))  : SP g mX0_open [.ref (ad g P_market)] I J R (fun r I' J' R' => r = none ∧ fxX g [P_market_storeCosts, P_market_storesBehind, P_market_prices, P_market_losses, P_market_behindStamps] I I' ∧ I' (ad g P_market_storeCosts) 0 = 0 ∧ ((∀ q, I (ad g P_ta_losses) q = 0) → Zl g I → Zl g I' ∧ Stm g 7 0 I') ∧ J' = J ∧ R' = R) := by
  refine SP_of ⟨by decide, rfl⟩ (Nat.le_of_ble_eq_true rfl) ?_
  have c0 : True := trivial
  refine WP_aload_n dX0_open_0 rfl ?_
  refine WP_getr dX0_open_1 fX0_27 rfl (lyx_is hy _ _ rfl) h_town ?_
  refine WP_geti dX0_open_4 fX0_31 rfl (lyx_is hy _ _ rfl) ?_
  refine WP_iconst (-1) dX0_open_7 rfl ?_
  refine WP_icmp_ne 15 dX0_open_8 rfl (fun c8 => absurd c8 (by rw [hst]; decide)) (fun c8 => ?_)
  refine WP_iconst (0) dX0_open_11 rfl ?_
  refine WP_goto 30 dX0_open_12 rfl ?_
  refine WP_istore_n (ls' := [(0, _), (1, _)]) dX0_open_30 (by decide) rfl ?_
  refine WP_aload_n dX0_open_31 rfl ?_
  refine WP_getr dX0_open_32 fX0_27 rfl (lyx_is hy _ _ rfl) h_town ?_
  refine WP_geti dX0_open_35 fX0_31 rfl (lyx_is hy _ _ rfl) ?_
  refine WP_iconst (-1) dX0_open_38 rfl ?_
  refine WP_icmp_ne 46 dX0_open_39 rfl (fun c39 => absurd c39 (by rw [hst]; decide)) (fun c39 => ?_)
  refine WP_iconst (0) dX0_open_42 rfl ?_
  refine WP_goto 61 dX0_open_43 rfl ?_
  refine WP_istore_n (ls' := [(0, _), (1, _), (2, _)]) dX0_open_61 (by decide) rfl ?_
  refine WP_iconst (0) dX0_open_62 rfl ?_
  refine WP_istore_n (ls' := [(0, _), (1, _), (2, _), (3, _)]) dX0_open_63 (by decide) rfl ?_
  refine WP_sub (ls' := [(0, .ref (ad g P_market)), (1, .int 0), (2, .int 0), (3, .int (nI 0))]) (fc rfl (fc rfl (fc rfl (fc rfl fn)))) (l_open_ta (I := I) (J := J) hy hr h_town 6 0 _ (by omega) ?_)
  exact ⟨fxX_rf, fun h => absurd h (by omega)⟩
set_option maxHeartbeats 4000000 in
set_option maxRecDepth 100000 in
theorem x_pricesAsTold_tb {g : GG} {I : pI} {J : pJ} {R : pR} (hy : LyX g) (hr : RfX g R) (h_town : R (ad g P_market) 0 = some (ad g P_tb))  : SP g mX0_pricesAsTold [.ref (ad g P_market)] I J R (fqX g [P_market_prices] I J R) := by
  refine SP_of ⟨by decide, rfl⟩ (Nat.le_of_ble_eq_true rfl) ?_
  have c0 : True := trivial
  refine WP_aload_n dX0_pricesAsTold_0 rfl ?_
  refine WP_getr dX0_pricesAsTold_1 fX0_27 rfl (lyx_is hy _ _ rfl) h_town ?_
  refine WP_getr dX0_pricesAsTold_4 fX0_49 rfl (lyx_is hy _ _ rfl) (rfx hr 27 16 39 (by decide)) ?_
  refine WP_iconst (0) dX0_pricesAsTold_7 rfl ?_
  refine WP_aload_n dX0_pricesAsTold_8 rfl ?_
  refine WP_getr dX0_pricesAsTold_9 fX0_9 rfl (lyx_is hy _ _ rfl) (rfx hr 5 1 22 (by decide)) ?_
  refine WP_iconst (0) dX0_pricesAsTold_12 rfl ?_
  refine WP_aload_n dX0_pricesAsTold_13 rfl ?_
  refine WP_getr dX0_pricesAsTold_14 fX0_9 rfl (lyx_is hy _ _ rfl) (rfx hr 5 1 22 (by decide)) ?_
  refine WP_alen dX0_pricesAsTold_17 (lyx_is hy _ _ rfl) (by decide) ?_
  rw [lyx_n hy _ _ rfl]
  refine WP_copyi dX0_pricesAsTold_18 lX0_50 ⟨by decide, Nat.le_of_ble_eq_true rfl⟩ (lyx_is hy _ _ rfl) (lyx_is hy _ _ rfl) (by decide) (by decide) (by decide) (by rw [lyx_n hy _ _ rfl]; decide) (by rw [lyx_n hy _ _ rfl]; decide) ?_
  exact WP_vret dX0_pricesAsTold_21 rfl ⟨rfl, cp_fx hy fxX_rf (by decide) (by decide), rfl, rfl⟩
theorem zc_tb {g : GG} {I : pI} {sp dp n : Nat} (h1 : ∀ q, I (ad g P_tb_losses) q = 0) (h2 : Zl g I) : ∀ q, pcpy I (ad g P_tb_losses) (ad g P_market_losses) sp dp n (ad g P_market_losses) q = 0 := by
  intro q
  unfold pcpy
  rw [if_pos rfl]
  split
  · exact h1 _
  · exact h2 q
set_option maxHeartbeats 4000000 in
set_option maxRecDepth 100000 in
theorem x_lossesAsTold_tb {g : GG} {I : pI} {J : pJ} {R : pR} (hy : LyX g) (hr : RfX g R) (h_town : R (ad g P_market) 0 = some (ad g P_tb))  : SP g mX0_lossesAsTold [.ref (ad g P_market)] I J R (fun r I' J' R' => r = none ∧ fxX g [P_market_losses, P_market_behindStamps] I I' ∧ ((∀ q, I (ad g P_tb_losses) q = 0) → Zl g I → Zl g I' ∧ Stm g 7 0 I') ∧ J' = J ∧ R' = R) := by
  refine SP_of ⟨by decide, rfl⟩ (Nat.le_of_ble_eq_true rfl) ?_
  have c0 : True := trivial
  refine WP_aload_n dX0_lossesAsTold_0 rfl ?_
  refine WP_getr dX0_lossesAsTold_1 fX0_27 rfl (lyx_is hy _ _ rfl) h_town ?_
  refine WP_getr dX0_lossesAsTold_4 fX0_56 rfl (lyx_is hy _ _ rfl) (rfx hr 27 5 28 (by decide)) ?_
  refine WP_iconst (0) dX0_lossesAsTold_7 rfl ?_
  refine WP_aload_n dX0_lossesAsTold_8 rfl ?_
  refine WP_getr dX0_lossesAsTold_9 fX0_15 rfl (lyx_is hy _ _ rfl) (rfx hr 5 2 23 (by decide)) ?_
  refine WP_iconst (0) dX0_lossesAsTold_12 rfl ?_
  refine WP_bipush (7) dX0_lossesAsTold_13 rfl ?_
  refine WP_copyi dX0_lossesAsTold_15 lX0_50 ⟨by decide, Nat.le_of_ble_eq_true rfl⟩ (lyx_is hy _ _ rfl) (lyx_is hy _ _ rfl) (by decide) (by decide) (by decide) (by rw [lyx_n hy _ _ rfl]; decide) (by rw [lyx_n hy _ _ rfl]; decide) ?_
  refine WP_aload_n dX0_lossesAsTold_18 rfl ?_
  refine WP_callV0 (k := 0) dX0_lossesAsTold_19 ⟨⟨⟨by decide, by decide⟩, zX0_stampAll⟩, lX0_57, by decide, rfl, vX0_stampAll.1, vX0_stampAll.2⟩ (lyx_is hy _ _ rfl) (x_stampAll hy hr) (Nat.le_of_ble_eq_true rfl) ?_
  rintro r I3 J3 R3 ⟨rfl, hx3, hz3, eJ, eR⟩
  rw [eJ, eR]
  simp only [Option.toList, List.cons_append, List.nil_append]
  exact WP_vret dX0_lossesAsTold_22 rfl ⟨rfl, fxX_tr (cp_fx hy fxX_rf (by decide) (by decide)) (fxX_mono hx3 (by decide)), (fun h1 h2 => ⟨(fun q => by rw [hx3 P_market_losses (by decide) (by decide)]; exact zc_tb h1 h2 q), hz3 (fun q => zc_tb h1 h2 q)⟩), rfl, rfl⟩
set_option maxHeartbeats 4000000 in
set_option maxRecDepth 100000 in
theorem l_open_tb {g : GG} {I : pI} {J : pJ} {R : pR} (hy : LyX g) (hr : RfX g R) (h_town : R (ad g P_market) 0 = some (ad g P_tb))  : ∀ (m k : Nat) (I2 : pI), k + m = 6 → (fxX g [P_market_storeCosts, P_market_storesBehind] I I2 ∧ (0 < k → I2 (ad g P_market_storeCosts) 0 = 0)) → WP g mX0_open 64 [(0, .ref (ad g P_market)), (1, .int 0), (2, .int 0), (3, .int (nI k))] [] I2 J R (fun r I' J' R' => r = none ∧ fxX g [P_market_storeCosts, P_market_storesBehind, P_market_prices, P_market_losses, P_market_behindStamps] I I' ∧ I' (ad g P_market_storeCosts) 0 = 0 ∧ ((∀ q, I (ad g P_tb_losses) q = 0) → Zl g I → Zl g I' ∧ Stm g 7 0 I') ∧ J' = J ∧ R' = R) := by
  intro m
  induction m with
  | zero =>
    intro k I2 hk hv
    have hkt : (nI k).toInt = (k : Int) := nI_toInt (by omega)
    have c0 : True := trivial
    refine WP_iload_n dX0_open_64 rfl ?_
    refine WP_bipush (6) dX0_open_65 rfl ?_
    refine WP_icmp_ge 100 dX0_open_67 rfl (fun c67 => ?_) (fun c67 => absurd c67 (by intro cc; (try simp only [hkt, hkt] at cc); (all_goals (try simp only [cmp_lt, cmp_gt] at cc)); (all_goals (try simp only [le32, lt32, eq32, t64, Int32.reduceToInt, Int64.reduceToInt] at cc)); (all_goals (try simp (disch := ((try simp (disch := ((try simp (disch := omega) only [ia, is', im, ja, js, ir, idv, Int32.reduceToInt, Int64.reduceToInt, t64]); omega)) only [ia, is', im, ja, js, ir, idv, Int32.reduceToInt, Int64.reduceToInt, t64]); omega)) only [ia, is', im, ja, js, ir, idv, Int32.reduceToInt, Int64.reduceToInt, t64] at cc)); (all_goals (try simp only [hkt, hkt] at cc)); (all_goals (try simp only [not_true_eq_false, eq_self] at cc)); all_goals omega))
    refine WP_aload_n dX0_open_100 rfl ?_
    refine WP_callV0 (k := 0) dX0_open_101 ⟨⟨⟨by decide, by decide⟩, zX0_pricesAsTold⟩, lX0_43, by decide, rfl, vX0_pricesAsTold.1, vX0_pricesAsTold.2⟩ (lyx_is hy _ _ rfl) (x_pricesAsTold_tb hy hr h_town) (Nat.le_of_ble_eq_true rfl) ?_
    rintro r I3 J3 R3 ⟨rfl, hx3, eJ, eR⟩
    rw [eJ, eR]
    simp only [Option.toList, List.cons_append, List.nil_append]
    refine WP_aload_n dX0_open_104 rfl ?_
    refine WP_callV0 (k := 0) dX0_open_105 ⟨⟨⟨by decide, by decide⟩, zX0_lossesAsTold⟩, lX0_46, by decide, rfl, vX0_lossesAsTold.1, vX0_lossesAsTold.2⟩ (lyx_is hy _ _ rfl) (x_lossesAsTold_tb hy hr h_town) (Nat.le_of_ble_eq_true rfl) ?_
    rintro r I4 J4 R4 ⟨rfl, hx4, hz4, eJ4, eR4⟩
    rw [eJ4, eR4]
    simp only [Option.toList, List.cons_append, List.nil_append]
    exact WP_vret dX0_open_108 rfl ⟨rfl, fxX_tr (fxX_tr (fxX_mono hv.1 (by decide)) (fxX_mono hx3 (by decide))) (fxX_mono hx4 (by decide)), (by rw [hx4 P_market_storeCosts (by decide) (by decide), hx3 P_market_storeCosts (by decide) (by decide)]; exact hv.2 (by omega)), (fun h1 h2 => hz4 (fun q => by rw [hx3 P_tb_losses (by decide) (by decide), hv.1 P_tb_losses (by decide) (by decide)]; exact h1 q) (fun q => by rw [hx3 P_market_losses (by decide) (by decide), hv.1 P_market_losses (by decide) (by decide)]; exact h2 q)), rfl, rfl⟩
  | succ m ih =>
    intro k I2 hk hv
    have hkt : (nI k).toInt = (k : Int) := nI_toInt (by omega)
    have c0 : True := trivial
    refine WP_iload_n dX0_open_64 rfl ?_
    refine WP_bipush (6) dX0_open_65 rfl ?_
    refine WP_icmp_ge 100 dX0_open_67 rfl (fun c67 => absurd c67 (by intro cc; (try simp only [hkt, hkt] at cc); (all_goals (try simp only [cmp_lt, cmp_gt] at cc)); (all_goals (try simp only [le32, lt32, eq32, t64, Int32.reduceToInt, Int64.reduceToInt] at cc)); (all_goals (try simp (disch := ((try simp (disch := ((try simp (disch := omega) only [ia, is', im, ja, js, ir, idv, Int32.reduceToInt, Int64.reduceToInt, t64]); omega)) only [ia, is', im, ja, js, ir, idv, Int32.reduceToInt, Int64.reduceToInt, t64]); omega)) only [ia, is', im, ja, js, ir, idv, Int32.reduceToInt, Int64.reduceToInt, t64] at cc)); (all_goals (try simp only [hkt, hkt] at cc)); (all_goals (try simp only [not_true_eq_false, eq_self] at cc)); all_goals omega)) (fun c67 => ?_)
    refine WP_aload_n dX0_open_70 rfl ?_
    refine WP_getr dX0_open_71 fX0_21 rfl (lyx_is hy _ _ rfl) (rfx hr 5 4 25 (by decide)) ?_
    refine WP_iload_n dX0_open_74 rfl ?_
    refine WP_iload_n dX0_open_75 rfl ?_
    refine WP_iload_n dX0_open_76 rfl ?_
    refine WP_imul dX0_open_77 ?_
    refine WP_iast dX0_open_78 (lyx_is hy _ _ rfl) (lyx_in hy _ _ rfl (by (try simp only [hkt, hkt] at c0 c67 ⊢); (all_goals (try simp only [cmp_lt, cmp_gt] at c0 c67 ⊢)); (all_goals (try simp only [le32, lt32, eq32, t64, vp_in_iff, Int32.reduceToInt, Int64.reduceToInt] at c0 c67 ⊢)); (all_goals (try simp (disch := ((try simp (disch := ((try simp (disch := omega) only [ia, is', im, ja, js, ir, idv, Int32.reduceToInt, Int64.reduceToInt, t64]); omega)) only [ia, is', im, ja, js, ir, idv, Int32.reduceToInt, Int64.reduceToInt, t64]); omega)) only [ia, is', im, ja, js, ir, idv, Int32.reduceToInt, Int64.reduceToInt, t64] at c0 c67 ⊢)); (all_goals (try simp only [hkt, hkt] at c0 c67 ⊢)); all_goals (first | (constructor <;> omega) | (exfalso; omega)))) ?_
    refine WP_aload_n dX0_open_79 rfl ?_
    refine WP_getr dX0_open_80 fX0_24 rfl (lyx_is hy _ _ rfl) (rfx hr 5 5 26 (by decide)) ?_
    refine WP_iload_n dX0_open_83 rfl ?_
    refine WP_iload_n dX0_open_84 rfl ?_
    refine WP_iload_n dX0_open_85 rfl ?_
    refine WP_iload_n dX0_open_86 rfl ?_
    refine WP_imul dX0_open_87 ?_
    refine WP_sipush (1000) dX0_open_88 rfl ?_
    refine WP_idiv dX0_open_91 (by decide) ?_
    refine WP_isub dX0_open_92 ?_
    refine WP_iast dX0_open_93 (lyx_is hy _ _ rfl) (lyx_in hy _ _ rfl (by (try simp only [hkt, hkt] at c0 c67 ⊢); (all_goals (try simp only [cmp_lt, cmp_gt] at c0 c67 ⊢)); (all_goals (try simp only [le32, lt32, eq32, t64, vp_in_iff, Int32.reduceToInt, Int64.reduceToInt] at c0 c67 ⊢)); (all_goals (try simp (disch := ((try simp (disch := ((try simp (disch := omega) only [ia, is', im, ja, js, ir, idv, Int32.reduceToInt, Int64.reduceToInt, t64]); omega)) only [ia, is', im, ja, js, ir, idv, Int32.reduceToInt, Int64.reduceToInt, t64]); omega)) only [ia, is', im, ja, js, ir, idv, Int32.reduceToInt, Int64.reduceToInt, t64] at c0 c67 ⊢)); (all_goals (try simp only [hkt, hkt] at c0 c67 ⊢)); all_goals (first | (constructor <;> omega) | (exfalso; omega)))) ?_
    refine WP_iinc (ls' := [(0, _), (1, _), (2, _), (3, _)]) dX0_open_94 rfl (by decide) rfl ?_
    refine WP_goto 64 dX0_open_97 rfl ?_
    refine WP_sub (ls' := [(0, .ref (ad g P_market)), (1, .int 0), (2, .int 0), (3, .int (nI (k + 1)))]) (fc rfl (fc rfl (fc rfl (fc (by rw [← nI_1]; rfl) fn)))) (ih (k + 1) _ (by omega) ?_)
    refine ⟨fxX_pp hy (fxX_pp hy hv.1 (by decide) (by decide)) (by decide) (by decide), fun _ => ?_⟩
    rw [pp_off _ _ (lyx_ne hy (show P_market_storeCosts ≠ P_market_storesBehind by decide) (by decide) (by decide)), Int32.mul_zero]
    by_cases e0 : k = 0
    · subst e0; exact pp_self _ _ _ _
    · rw [pp_ne _ _ (Or.inr (by rw [cl hkt]; omega))]; exact hv.2 (by omega)
set_option maxHeartbeats 4000000 in
set_option maxRecDepth 100000 in
theorem x_open_tb {g : GG} {I : pI} {J : pJ} {R : pR} (hy : LyX g) (hr : RfX g R) (h_town : R (ad g P_market) 0 = some (ad g P_tb)) (hst : I (ad g P_tb) 4 = (-1))  : SP g mX0_open [.ref (ad g P_market)] I J R (fun r I' J' R' => r = none ∧ fxX g [P_market_storeCosts, P_market_storesBehind, P_market_prices, P_market_losses, P_market_behindStamps] I I' ∧ I' (ad g P_market_storeCosts) 0 = 0 ∧ ((∀ q, I (ad g P_tb_losses) q = 0) → Zl g I → Zl g I' ∧ Stm g 7 0 I') ∧ J' = J ∧ R' = R) := by
  refine SP_of ⟨by decide, rfl⟩ (Nat.le_of_ble_eq_true rfl) ?_
  have c0 : True := trivial
  refine WP_aload_n dX0_open_0 rfl ?_
  refine WP_getr dX0_open_1 fX0_27 rfl (lyx_is hy _ _ rfl) h_town ?_
  refine WP_geti dX0_open_4 fX0_31 rfl (lyx_is hy _ _ rfl) ?_
  refine WP_iconst (-1) dX0_open_7 rfl ?_
  refine WP_icmp_ne 15 dX0_open_8 rfl (fun c8 => absurd c8 (by rw [hst]; decide)) (fun c8 => ?_)
  refine WP_iconst (0) dX0_open_11 rfl ?_
  refine WP_goto 30 dX0_open_12 rfl ?_
  refine WP_istore_n (ls' := [(0, _), (1, _)]) dX0_open_30 (by decide) rfl ?_
  refine WP_aload_n dX0_open_31 rfl ?_
  refine WP_getr dX0_open_32 fX0_27 rfl (lyx_is hy _ _ rfl) h_town ?_
  refine WP_geti dX0_open_35 fX0_31 rfl (lyx_is hy _ _ rfl) ?_
  refine WP_iconst (-1) dX0_open_38 rfl ?_
  refine WP_icmp_ne 46 dX0_open_39 rfl (fun c39 => absurd c39 (by rw [hst]; decide)) (fun c39 => ?_)
  refine WP_iconst (0) dX0_open_42 rfl ?_
  refine WP_goto 61 dX0_open_43 rfl ?_
  refine WP_istore_n (ls' := [(0, _), (1, _), (2, _)]) dX0_open_61 (by decide) rfl ?_
  refine WP_iconst (0) dX0_open_62 rfl ?_
  refine WP_istore_n (ls' := [(0, _), (1, _), (2, _), (3, _)]) dX0_open_63 (by decide) rfl ?_
  refine WP_sub (ls' := [(0, .ref (ad g P_market)), (1, .int 0), (2, .int 0), (3, .int (nI 0))]) (fc rfl (fc rfl (fc rfl (fc rfl fn)))) (l_open_tb (I := I) (J := J) hy hr h_town 6 0 _ (by omega) ?_)
  exact ⟨fxX_rf, fun h => absurd h (by omega)⟩
