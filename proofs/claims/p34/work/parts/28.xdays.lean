set_option maxHeartbeats 4000000 in
set_option maxRecDepth 100000 in
theorem x_openChest0 {g : GG} {I : pI} {J : pJ} {R : pR} (hy : LyX g) (hr : RfX g R) (hxc : XC g I R) (p : Nat) (hp : p ∈ runs)  : SP g mX9_openChest [.ref (ad g P_walk), .ref (ad g p)] I J R (pu I J R) := by
  refine SP_of ⟨by decide, rfl⟩ (Nat.le_of_ble_eq_true rfl) ?_
  have c0 : True := trivial
  obtain ⟨h_town, h_sorts, h_things, h_chest, h_stored⟩ := hxc
  refine WP_aload_n dX9_openChest_0 rfl ?_
  refine WP_getr dX9_openChest_1 fX9_25 rfl (lyx_is hy _ _ rfl) (rfx hr 49 2 5 (by decide)) ?_
  refine WP_getr dX9_openChest_4 fX9_49 rfl (lyx_is hy _ _ rfl) h_town ?_
  refine WP_geti dX9_openChest_7 fX9_68 rfl (lyx_is hy _ _ rfl) ?_
  refine WP_istore_n (ls' := [(0, _), (1, _), (2, _)]) dX9_openChest_10 (by decide) rfl ?_
  refine WP_iload_n dX9_openChest_11 rfl ?_
  refine WP_iconst (-1) dX9_openChest_12 rfl ?_
  refine WP_icmp_eq 32 dX9_openChest_13 rfl (fun c13 => ?_) (fun c13 => absurd c13 (by intro cc; (try simp only [h_sorts, h_things, h_chest, h_stored] at cc); (all_goals (try simp only [cmp_lt, cmp_gt] at cc)); (all_goals (try simp only [le32, lt32, eq32, t64, Int32.reduceToInt, Int64.reduceToInt] at cc)); (all_goals (try simp (disch := ((try simp (disch := ((try simp (disch := omega) only [ia, is', im, ja, js, ir, idv, Int32.reduceToInt, Int64.reduceToInt, t64]); omega)) only [ia, is', im, ja, js, ir, idv, Int32.reduceToInt, Int64.reduceToInt, t64]); omega)) only [ia, is', im, ja, js, ir, idv, Int32.reduceToInt, Int64.reduceToInt, t64] at cc)); (all_goals (try simp only [h_sorts, h_things, h_chest, h_stored] at cc)); (all_goals (try simp only [not_true_eq_false, eq_self] at cc)); all_goals omega))
  exact WP_vret dX9_openChest_32 rfl ⟨rfl, rfl, rfl, rfl⟩
set_option maxHeartbeats 4000000 in
set_option maxRecDepth 100000 in
theorem l_passDay {g : GG} {I : pI} {J : pJ} {R : pR} (hy : LyX g) (hr : RfX g R) (hxc : XC g I R) (p : Nat) (hp : p ∈ runs) (bb dy : Int32) (hdy : 0 ≤ dy.toInt ∧ dy.toInt < 7)  : ∀ (m k : Nat) (I2 : pI), k + m = 3 → fxX g [P_walk_left] I I2 → WP g mX9_passDay 22 [(0, .ref (ad g P_walk)), (1, .ref (ad g p)), (2, .int bb), (3, .int dy), (4, .int (nI k))] [] I2 J R (fun r I' J' R' => r = none ∧ fxX g [P_walk_left, p] I I' ∧ I' (ad g p) 0 = I (ad g p) 0 + 1 ∧ J' = J ∧ R' = R) := by
  intro m
  induction m with
  | zero =>
    intro k I2 hk hv
    have hp2 : p < 74 := by have := (ru hp).2.2.2.2.2.2.2.1; omega
    have hpl : p ∉ [P_walk_left] := by simp only [runs, List.mem_cons, List.not_mem_nil, or_false] at hp; rcases hp with rfl | rfl | rfl | rfl | rfl <;> decide
    have hkb : k ≤ 3 := by omega
    have ek := nI_toInt (show k < 2 ^ 31 by omega)
    have e7 : (7 : Int32).toInt = 7 := rfl
    have b1 : (nI k * 7).toInt = (k : Int) * 7 := by rw [im (by rw [e7, ek]; omega) (by rw [e7, ek]; omega), e7, ek]
    have b2 : (nI k * 7 + dy).toInt = (k : Int) * 7 + dy.toInt := by rw [ia (by rw [b1]; omega) (by rw [b1]; omega), b1]
    have h_town := hxc.1
    have hkt : (nI k).toInt = (k : Int) := nI_toInt (by omega)
    have c0 : True := trivial
    refine WP_iload dX9_passDay_22 rfl ?_
    refine WP_iconst (3) dX9_passDay_24 rfl ?_
    refine WP_icmp_ge 78 dX9_passDay_25 rfl (fun c25 => ?_) (fun c25 => absurd c25 (by intro cc; (try simp only [hkt, hkt] at cc); (all_goals (try simp only [cmp_lt, cmp_gt] at cc)); (all_goals (try simp only [le32, lt32, eq32, t64, Int32.reduceToInt, Int64.reduceToInt] at cc)); (all_goals (try simp (disch := ((try simp (disch := ((try simp (disch := omega) only [ia, is', im, ja, js, ir, idv, Int32.reduceToInt, Int64.reduceToInt, t64]); omega)) only [ia, is', im, ja, js, ir, idv, Int32.reduceToInt, Int64.reduceToInt, t64]); omega)) only [ia, is', im, ja, js, ir, idv, Int32.reduceToInt, Int64.reduceToInt, t64] at cc)); (all_goals (try simp only [hkt, hkt] at cc)); (all_goals (try simp only [not_true_eq_false, eq_self] at cc)); all_goals omega))
    refine WP_iconst (0) dX9_passDay_78 rfl ?_
    refine WP_istore (ls' := [(0, _), (1, _), (2, _), (3, _), (4, _)]) dX9_passDay_79 (by decide) rfl ?_
    refine WP_iload dX9_passDay_81 rfl ?_
    refine WP_aload_n dX9_passDay_83 rfl ?_
    refine WP_getr dX9_passDay_84 fX9_25 rfl (lyx_is hy _ _ rfl) (rfx hr 49 2 5 (by decide)) ?_
    refine WP_getr dX9_passDay_87 fX9_49 rfl (lyx_is hy _ _ rfl) h_town ?_
    refine WP_geti dX9_passDay_90 fX9_61 rfl (lyx_is hy _ _ rfl) ?_
    refine WP_icmp_ge 110 dX9_passDay_93 rfl (fun c93 => ?_) (fun c93 => absurd c93 (by rw [hv P_ta (by decide) (by decide)]; rw [hxc.2.1]; decide))
    refine WP_aload_n dX9_passDay_110 rfl ?_
    refine WP_dup dX9_passDay_111 rfl ?_
    refine WP_geti dX9_passDay_112 fX9_33 rfl (lyx_is hy _ _ (ru hp).1) ?_
    refine WP_iconst (1) dX9_passDay_115 rfl ?_
    refine WP_iadd dX9_passDay_116 ?_
    refine WP_puti dX9_passDay_117 fX9_33 rfl rfl (lyx_is hy _ _ (ru hp).1) ?_
    exact WP_vret dX9_passDay_120 rfl ⟨rfl, fxX_pp hy (fxX_mono hv (by simp)) hp2 (by simp), (by rw [pp_self, hv p hp2 hpl]), rfl, rfl⟩
  | succ m ih =>
    intro k I2 hk hv
    have hp2 : p < 74 := by have := (ru hp).2.2.2.2.2.2.2.1; omega
    have hpl : p ∉ [P_walk_left] := by simp only [runs, List.mem_cons, List.not_mem_nil, or_false] at hp; rcases hp with rfl | rfl | rfl | rfl | rfl <;> decide
    have hkb : k ≤ 3 := by omega
    have ek := nI_toInt (show k < 2 ^ 31 by omega)
    have e7 : (7 : Int32).toInt = 7 := rfl
    have b1 : (nI k * 7).toInt = (k : Int) * 7 := by rw [im (by rw [e7, ek]; omega) (by rw [e7, ek]; omega), e7, ek]
    have b2 : (nI k * 7 + dy).toInt = (k : Int) * 7 + dy.toInt := by rw [ia (by rw [b1]; omega) (by rw [b1]; omega), b1]
    have h_town := hxc.1
    have hkt : (nI k).toInt = (k : Int) := nI_toInt (by omega)
    have c0 : True := trivial
    refine WP_iload dX9_passDay_22 rfl ?_
    refine WP_iconst (3) dX9_passDay_24 rfl ?_
    refine WP_icmp_ge 78 dX9_passDay_25 rfl (fun c25 => absurd c25 (by intro cc; (try simp only [hkt, hkt] at cc); (all_goals (try simp only [cmp_lt, cmp_gt] at cc)); (all_goals (try simp only [le32, lt32, eq32, t64, Int32.reduceToInt, Int64.reduceToInt] at cc)); (all_goals (try simp (disch := ((try simp (disch := ((try simp (disch := omega) only [ia, is', im, ja, js, ir, idv, Int32.reduceToInt, Int64.reduceToInt, t64]); omega)) only [ia, is', im, ja, js, ir, idv, Int32.reduceToInt, Int64.reduceToInt, t64]); omega)) only [ia, is', im, ja, js, ir, idv, Int32.reduceToInt, Int64.reduceToInt, t64] at cc)); (all_goals (try simp only [hkt, hkt] at cc)); (all_goals (try simp only [not_true_eq_false, eq_self] at cc)); all_goals omega)) (fun c25 => ?_)
    refine WP_aload_n dX9_passDay_28 rfl ?_
    refine WP_getr dX9_passDay_29 fX9_25 rfl (lyx_is hy _ _ rfl) (rfx hr 49 2 5 (by decide)) ?_
    refine WP_getr dX9_passDay_32 fX9_49 rfl (lyx_is hy _ _ rfl) h_town ?_
    refine WP_getr dX9_passDay_35 fX9_55 rfl (lyx_is hy _ _ rfl) (rfx hr 6 17 19 (by decide)) ?_
    refine WP_iload dX9_passDay_38 rfl ?_
    refine WP_bipush (7) dX9_passDay_40 rfl ?_
    refine WP_imul dX9_passDay_42 ?_
    refine WP_iload_n dX9_passDay_43 rfl ?_
    refine WP_iadd dX9_passDay_44 ?_
    refine WP_iald dX9_passDay_45 (lyx_is hy _ _ rfl) (lyx_in hy _ _ rfl (vin (by rw [b2]; omega) (by rw [b2]; omega))) ?_
    refine WP_istore (ls' := [(0, _), (1, _), (2, _), (3, _), (4, _), (5, _)]) dX9_passDay_46 (by decide) rfl ?_
    refine WP_aload_n dX9_passDay_48 rfl ?_
    refine WP_getr dX9_passDay_49 fX9_22 rfl (lyx_is hy _ _ rfl) (rfx hr 49 4 52 (by decide)) ?_
    refine WP_iload dX9_passDay_52 rfl ?_
    refine WP_iload_n dX9_passDay_54 rfl ?_
    refine WP_if_eq 69 dX9_passDay_55 rfl (fun c55 => ?_) (fun c55 => ?_)
    · refine WP_ldc (1000000) dX9_passDay_69 kX9_60 ?_
      refine WP_iast dX9_passDay_71 (lyx_is hy _ _ rfl) (lyx_in hy _ _ rfl (by (try simp only [hkt, hkt] at c0 c25 c55 ⊢); (all_goals (try simp only [cmp_lt, cmp_gt] at c0 c25 c55 ⊢)); (all_goals (try simp only [le32, lt32, eq32, t64, vp_in_iff, Int32.reduceToInt, Int64.reduceToInt] at c0 c25 c55 ⊢)); (all_goals (try simp (disch := ((try simp (disch := ((try simp (disch := omega) only [ia, is', im, ja, js, ir, idv, Int32.reduceToInt, Int64.reduceToInt, t64]); omega)) only [ia, is', im, ja, js, ir, idv, Int32.reduceToInt, Int64.reduceToInt, t64]); omega)) only [ia, is', im, ja, js, ir, idv, Int32.reduceToInt, Int64.reduceToInt, t64] at c0 c25 c55 ⊢)); (all_goals (try simp only [hkt, hkt] at c0 c25 c55 ⊢)); all_goals (first | (constructor <;> omega) | (exfalso; omega)))) ?_
      refine WP_iinc (ls' := [(0, _), (1, _), (2, _), (3, _), (4, _), (5, _)]) dX9_passDay_72 rfl (by decide) rfl ?_
      refine WP_goto 22 dX9_passDay_75 rfl ?_
      refine WP_sub (ls' := [(0, .ref (ad g P_walk)), (1, .ref (ad g p)), (2, .int bb), (3, .int dy), (4, .int (nI (k + 1)))]) (fc rfl (fc rfl (fc rfl (fc rfl (fc (by rw [← nI_1]; rfl) fn))))) (ih (k + 1) _ (by omega) ?_)
      exact fxX_pp hy hv (by decide) (by decide)
    · refine WP_iload dX9_passDay_58 rfl ?_
      refine WP_iconst (-1) dX9_passDay_60 rfl ?_
      refine WP_icmp_eq 69 dX9_passDay_61 rfl (fun c61 => ?_) (fun c61 => ?_)
      · refine WP_ldc (1000000) dX9_passDay_69 kX9_60 ?_
        refine WP_iast dX9_passDay_71 (lyx_is hy _ _ rfl) (lyx_in hy _ _ rfl (by (try simp only [hkt, hkt] at c0 c25 c55 c61 ⊢); (all_goals (try simp only [cmp_lt, cmp_gt] at c0 c25 c55 c61 ⊢)); (all_goals (try simp only [le32, lt32, eq32, t64, vp_in_iff, Int32.reduceToInt, Int64.reduceToInt] at c0 c25 c55 c61 ⊢)); (all_goals (try simp (disch := ((try simp (disch := ((try simp (disch := omega) only [ia, is', im, ja, js, ir, idv, Int32.reduceToInt, Int64.reduceToInt, t64]); omega)) only [ia, is', im, ja, js, ir, idv, Int32.reduceToInt, Int64.reduceToInt, t64]); omega)) only [ia, is', im, ja, js, ir, idv, Int32.reduceToInt, Int64.reduceToInt, t64] at c0 c25 c55 c61 ⊢)); (all_goals (try simp only [hkt, hkt] at c0 c25 c55 c61 ⊢)); all_goals (first | (constructor <;> omega) | (exfalso; omega)))) ?_
        refine WP_iinc (ls' := [(0, _), (1, _), (2, _), (3, _), (4, _), (5, _)]) dX9_passDay_72 rfl (by decide) rfl ?_
        refine WP_goto 22 dX9_passDay_75 rfl ?_
        refine WP_sub (ls' := [(0, .ref (ad g P_walk)), (1, .ref (ad g p)), (2, .int bb), (3, .int dy), (4, .int (nI (k + 1)))]) (fc rfl (fc rfl (fc rfl (fc rfl (fc (by rw [← nI_1]; rfl) fn))))) (ih (k + 1) _ (by omega) ?_)
        exact fxX_pp hy hv (by decide) (by decide)
      · refine WP_iload dX9_passDay_64 rfl ?_
        refine WP_goto 71 dX9_passDay_66 rfl ?_
        refine WP_iast dX9_passDay_71 (lyx_is hy _ _ rfl) (lyx_in hy _ _ rfl (by (try simp only [hkt, hkt] at c0 c25 c55 c61 ⊢); (all_goals (try simp only [cmp_lt, cmp_gt] at c0 c25 c55 c61 ⊢)); (all_goals (try simp only [le32, lt32, eq32, t64, vp_in_iff, Int32.reduceToInt, Int64.reduceToInt] at c0 c25 c55 c61 ⊢)); (all_goals (try simp (disch := ((try simp (disch := ((try simp (disch := omega) only [ia, is', im, ja, js, ir, idv, Int32.reduceToInt, Int64.reduceToInt, t64]); omega)) only [ia, is', im, ja, js, ir, idv, Int32.reduceToInt, Int64.reduceToInt, t64]); omega)) only [ia, is', im, ja, js, ir, idv, Int32.reduceToInt, Int64.reduceToInt, t64] at c0 c25 c55 c61 ⊢)); (all_goals (try simp only [hkt, hkt] at c0 c25 c55 c61 ⊢)); all_goals (first | (constructor <;> omega) | (exfalso; omega)))) ?_
        refine WP_iinc (ls' := [(0, _), (1, _), (2, _), (3, _), (4, _), (5, _)]) dX9_passDay_72 rfl (by decide) rfl ?_
        refine WP_goto 22 dX9_passDay_75 rfl ?_
        refine WP_sub (ls' := [(0, .ref (ad g P_walk)), (1, .ref (ad g p)), (2, .int bb), (3, .int dy), (4, .int (nI (k + 1)))]) (fc rfl (fc rfl (fc rfl (fc rfl (fc (by rw [← nI_1]; rfl) fn))))) (ih (k + 1) _ (by omega) ?_)
        exact fxX_pp hy hv (by decide) (by decide)
set_option maxHeartbeats 4000000 in
set_option maxRecDepth 100000 in
theorem x_passDay {g : GG} {I : pI} {J : pJ} {R : pR} (hy : LyX g) (hr : RfX g R) (hxc : XC g I R) (p : Nat) (hp : p ∈ runs) (bb : Int32) (hday : 0 ≤ (I (ad g p) 0).toInt)  : SP g mX9_passDay [.ref (ad g P_walk), .ref (ad g p), .int bb] I J R (fun r I' J' R' => r = none ∧ fxX g [P_walk_left, p] I I' ∧ I' (ad g p) 0 = I (ad g p) 0 + 1 ∧ J' = J ∧ R' = R) := by
  refine SP_of ⟨by decide, rfl⟩ (Nat.le_of_ble_eq_true rfl) ?_
  have c0 : True := trivial
  have hxc0 := hxc
  have h_town := hxc.1
  have edy : (I (ad g p) 0 - I (ad g p) 0 / 7 * 7).toInt = (I (ad g p) 0).toInt % 7 := by have e7 : (7 : Int32).toInt = 7 := rfl; rw [ir hday (by rw [e7]; omega), e7]
  refine WP_aload_n dX9_passDay_0 rfl ?_
  refine WP_geti dX9_passDay_1 fX9_33 rfl (lyx_is hy _ _ (ru hp).1) ?_
  refine WP_bipush (7) dX9_passDay_4 rfl ?_
  refine WP_floorMod dX9_passDay_6 lX9_39 ⟨by decide, Nat.le_of_ble_eq_true rfl⟩ (by rw [le32]; exact hday) ?_
  refine WP_istore_n (ls' := [(0, _), (1, _), (2, _), (3, _)]) dX9_passDay_9 (by decide) rfl ?_
  refine WP_iload_n dX9_passDay_10 rfl ?_
  refine WP_if_ne 19 dX9_passDay_11 rfl (fun c11 => ?_) (fun c11 => ?_)
  · refine WP_iconst (0) dX9_passDay_19 rfl ?_
    refine WP_istore (ls' := [(0, _), (1, _), (2, _), (3, _), (4, _)]) dX9_passDay_20 (by decide) rfl ?_
    refine WP_sub (ls' := [(0, .ref (ad g P_walk)), (1, .ref (ad g p)), (2, .int bb), (3, _), (4, .int (nI 0))]) (fc rfl (fc rfl (fc rfl (fc rfl (fc rfl fn))))) (l_passDay (I := I) (J := J) hy hr hxc p hp bb _ (by rw [edy]; omega) 3 0 _ (by omega) ?_)
    exact fxX_rf
  · refine WP_aload_n dX9_passDay_14 rfl ?_
    refine WP_aload_n dX9_passDay_15 rfl ?_
    refine WP_callV1u (k := 9) dX9_passDay_16 ⟨⟨⟨by decide, by decide⟩, zX9_openChest⟩, lX9_45, by decide, rfl, vX9_openChest.1, vX9_openChest.2⟩ (lyx_is hy _ _ rfl) (x_openChest0 hy hr hxc0 p hp) (Nat.le_of_ble_eq_true rfl) ?_
    refine WP_iconst (0) dX9_passDay_19 rfl ?_
    refine WP_istore (ls' := [(0, _), (1, _), (2, _), (3, _), (4, _)]) dX9_passDay_20 (by decide) rfl ?_
    refine WP_sub (ls' := [(0, .ref (ad g P_walk)), (1, .ref (ad g p)), (2, .int bb), (3, _), (4, .int (nI 0))]) (fc rfl (fc rfl (fc rfl (fc rfl (fc rfl fn))))) (l_passDay (I := I) (J := J) hy hr hxc p hp bb _ (by rw [edy]; omega) 3 0 _ (by omega) ?_)
    exact fxX_rf
theorem XC_fx {g : GG} {S : List Nat} {I I' : pI} {R : pR} (h : XC g I R) (hx : fxX g S I I') (hS : P_ta ∉ S) : XC g I' R := by
  unfold XC
  rw [hx P_ta (by decide) hS]
  exact h
set_option maxHeartbeats 4000000 in
set_option maxRecDepth 100000 in
theorem lx_pass {g : GG} {I : pI} {J : pJ} {R : pR} (hy : LyX g) (hr : RfX g R) (a : Int32) (N : Nat) (hN : (N : Int) = a.toInt)  : ∀ (m k : Nat) (I2 : pI), k + m = N → (XC g I2 R ∧ I2 (ad g P_course) 0 = nI k) → WP g mX10_pass 15 [(0, .ref (ad g P_x)), (1, .int a), (2, .int (nI k))] [] I2 J R (rq a) := by
  intro m
  induction m with
  | zero =>
    intro k I2 hk hv
    have har := rng a
    have hkt : (nI k).toInt = (k : Int) := nI_toInt (by omega)
    have c0 : True := trivial
    refine WP_iload_n dX10_pass_15 rfl ?_
    refine WP_iload_n dX10_pass_16 rfl ?_
    refine WP_icmp_ge 38 dX10_pass_17 rfl (fun c17 => ?_) (fun c17 => absurd c17 (by intro cc; (try simp only [hkt, hkt] at cc); (all_goals (try simp only [cmp_lt, cmp_gt] at cc)); (all_goals (try simp only [le32, lt32, eq32, t64, Int32.reduceToInt, Int64.reduceToInt] at cc)); (all_goals (try simp (disch := ((try simp (disch := ((try simp (disch := omega) only [ia, is', im, ja, js, ir, idv, Int32.reduceToInt, Int64.reduceToInt, t64]); omega)) only [ia, is', im, ja, js, ir, idv, Int32.reduceToInt, Int64.reduceToInt, t64]); omega)) only [ia, is', im, ja, js, ir, idv, Int32.reduceToInt, Int64.reduceToInt, t64] at cc)); (all_goals (try simp only [hkt, hkt] at cc)); (all_goals (try simp only [not_true_eq_false, eq_self] at cc)); all_goals omega))
    refine WP_aload_n dX10_pass_38 rfl ?_
    refine WP_getr dX10_pass_39 fX10_62 rfl (lyx_is hy _ _ rfl) (rfx hr 0 5 53 (by decide)) ?_
    refine WP_geti dX10_pass_42 fX10_232 rfl (lyx_is hy _ _ rfl) ?_
    exact WP_iret dX10_pass_45 rfl (by unfold rq; exact congrArg (fun z => some (Value.int z)) ((hv.2).trans ((eq32 _ _).mpr (by rw [hkt]; omega))))
  | succ m ih =>
    intro k I2 hk hv
    have har := rng a
    have hkt : (nI k).toInt = (k : Int) := nI_toInt (by omega)
    have c0 : True := trivial
    refine WP_iload_n dX10_pass_15 rfl ?_
    refine WP_iload_n dX10_pass_16 rfl ?_
    refine WP_icmp_ge 38 dX10_pass_17 rfl (fun c17 => absurd c17 (by intro cc; (try simp only [hkt, hkt] at cc); (all_goals (try simp only [cmp_lt, cmp_gt] at cc)); (all_goals (try simp only [le32, lt32, eq32, t64, Int32.reduceToInt, Int64.reduceToInt] at cc)); (all_goals (try simp (disch := ((try simp (disch := ((try simp (disch := omega) only [ia, is', im, ja, js, ir, idv, Int32.reduceToInt, Int64.reduceToInt, t64]); omega)) only [ia, is', im, ja, js, ir, idv, Int32.reduceToInt, Int64.reduceToInt, t64]); omega)) only [ia, is', im, ja, js, ir, idv, Int32.reduceToInt, Int64.reduceToInt, t64] at cc)); (all_goals (try simp only [hkt, hkt] at cc)); (all_goals (try simp only [not_true_eq_false, eq_self] at cc)); all_goals omega)) (fun c17 => ?_)
    refine WP_aload_n dX10_pass_20 rfl ?_
    refine WP_getr dX10_pass_21 fX10_55 rfl (lyx_is hy _ _ rfl) (rfx hr 0 4 49 (by decide)) ?_
    refine WP_aload_n dX10_pass_24 rfl ?_
    refine WP_getr dX10_pass_25 fX10_62 rfl (lyx_is hy _ _ rfl) (rfx hr 0 5 53 (by decide)) ?_
    refine WP_iconst (1) dX10_pass_28 rfl ?_
    refine WP_callV2 (k := 9) dX10_pass_29 ⟨⟨⟨by decide, by decide⟩, zX9_passDay⟩, lX10_228, by decide, rfl, vX9_passDay.1, vX9_passDay.2⟩ (lyx_is hy _ _ rfl) (x_passDay hy hr hv.1 P_course (by decide) _ (by rw [hv.2, hkt]; omega)) (Nat.le_of_ble_eq_true rfl) ?_
    rintro r I3 J3 R3 ⟨rfl, hx3, hd3, eJ, eR⟩
    rw [eJ, eR]
    simp only [Option.toList, List.cons_append, List.nil_append]
    refine WP_iinc (ls' := [(0, _), (1, _), (2, _)]) dX10_pass_32 rfl (by decide) rfl ?_
    refine WP_goto 15 dX10_pass_35 rfl ?_
    refine WP_sub (ls' := [(0, .ref (ad g P_x)), (1, .int a), (2, .int (nI (k + 1)))]) (fc rfl (fc rfl (fc (by rw [← nI_1]; rfl) fn))) (ih (k + 1) _ (by omega) ?_)
    exact ⟨XC_fx hv.1 hx3 (by decide), by rw [hd3, hv.2, nI_1]⟩
set_option maxHeartbeats 4000000 in
set_option maxRecDepth 100000 in
theorem xr_pass {g : GG} {I : pI} {J : pJ} {R : pR} (hy : LyX g) (hr : RfX g R) (hf : XF g I J R) (a : Int32) : SP g mX10_pass [.ref (ad g P_x), .int a] I J R (rq (if 0 ≤ a.toInt ∧ a.toInt ≤ 70 then a else -2)) := by
  refine SP_of ⟨by decide, rfl⟩ (Nat.le_of_ble_eq_true rfl) ?_
  have c0 : True := trivial
  have hf0 := hf
  obtain ⟨hxc, h_length, h_kind, h_place, h_clauses, h_turns, h_days, h_chestC, h_bought, h_held, h_cost0, h_s0, h_s1, h_s2, h_spare, h_loss, h_mloss, h_stamps⟩ := hf
  have hxc0 := hxc
  obtain ⟨h_town, h_sorts, h_things, h_chest, h_stored⟩ := hxc
  refine WP_iload_n dX10_pass_0 rfl ?_
  refine WP_if_lt 10 dX10_pass_1 rfl (fun c1 => ?_) (fun c1 => ?_)
  · refine WP_bipush (-2) dX10_pass_10 rfl ?_
    exact WP_iret dX10_pass_12 rfl (by unfold rq; simp only [lt32, le32, Int32.reduceToInt] at c0 c1; rw [if_neg (by omega)])
  · refine WP_iload_n dX10_pass_4 rfl ?_
    refine WP_bipush (70) dX10_pass_5 rfl ?_
    refine WP_icmp_le 13 dX10_pass_7 rfl (fun c7 => ?_) (fun c7 => ?_)
    · refine WP_iconst (0) dX10_pass_13 rfl ?_
      refine WP_istore_n (ls' := [(0, _), (1, _), (2, _)]) dX10_pass_14 (by decide) rfl ?_
      simp only [lt32, le32, Int32.reduceToInt] at c1 c7
      rw [if_pos (by omega)]
      refine WP_sub (ls' := [(0, .ref (ad g P_x)), (1, .int a), (2, .int (nI 0))]) (fc rfl (fc rfl (fc rfl fn))) (lx_pass (I := I) (J := J) hy hr a a.toInt.toNat (by omega) a.toInt.toNat 0 _ (by omega) ?_)
      exact ⟨hxc0, h_days⟩
    · refine WP_bipush (-2) dX10_pass_10 rfl ?_
      exact WP_iret dX10_pass_12 rfl (by unfold rq; simp only [lt32, le32, Int32.reduceToInt] at c0 c1 c7; rw [if_neg (by omega)])
