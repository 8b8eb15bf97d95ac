theorem stamp0 (x : Int32) : (x * 0 + 999) / 1000 = 0 := by rw [Int32.mul_zero]; rfl
set_option maxHeartbeats 4000000 in
set_option maxRecDepth 100000 in
theorem s_stampsOf {g : GG} {I : pI} {J : pJ} {R : pR} (a b : Int32) : SP g mX11_stampsOf [.int a, .int b] I J R (pq (.int ((a * b + 999) / 1000)) I J R) := by
  refine SP_of ⟨by decide, rfl⟩ (Nat.le_of_ble_eq_true rfl) ?_
  refine WP_iload_n dX11_stampsOf_0 rfl ?_
  refine WP_iload_n dX11_stampsOf_1 rfl ?_
  refine WP_imul dX11_stampsOf_2 ?_
  refine WP_sipush (999) dX11_stampsOf_3 rfl ?_
  refine WP_iadd dX11_stampsOf_6 ?_
  refine WP_sipush (1000) dX11_stampsOf_7 rfl ?_
  refine WP_idiv dX11_stampsOf_10 (by decide) ?_
  exact WP_iret dX11_stampsOf_11 rfl ⟨rfl, rfl, rfl, rfl⟩
theorem max0 {a : Int32} (h : 0 ≤ a.toInt) : (if 0 < a then a else 0) = a := by
  split
  · rfl
  · rename_i q; rw [lt32] at q; simp only [Int32.reduceToInt] at q; exact (eq32 0 a).mpr (by simp only [Int32.reduceToInt]; omega)
set_option maxHeartbeats 4000000 in
set_option maxRecDepth 100000 in
theorem s_costOf0 {g : GG} {I : pI} {J : pJ} {R : pR} (hy : Ly g) (hr : Rf g R) (hmc : MC g I)  : SP g mX11_costOf [.ref (ad g P_o)] I J R (pq (.int 0) I J R) := by
  refine SP_of ⟨by decide, rfl⟩ (Nat.le_of_ble_eq_true rfl) ?_
  have c0 : True := trivial
  obtain ⟨h_sorts, h_things, h_chestSort, h_storedThing, h_rot⟩ := hmc
  refine WP_aload_n dX11_costOf_0 rfl ?_
  refine WP_geti dX11_costOf_1 fX11_224 rfl (ly_is hy _ _ rfl) ?_
  refine WP_iconst (-1) dX11_costOf_4 rfl ?_
  refine WP_icmp_ne 12 dX11_costOf_5 rfl (fun c5 => absurd c5 (by intro cc; (try simp only [h_sorts, h_things, h_chestSort, h_storedThing, h_rot] at cc); (all_goals (try simp only [cmp_lt, cmp_gt] at cc)); (all_goals (try simp only [le32, lt32, eq32, t64, Int32.reduceToInt, Int64.reduceToInt] at cc)); (all_goals (try simp (disch := ((try simp (disch := ((try simp (disch := omega) only [ia, is', im, ja, js, ir, idv, Int32.reduceToInt, Int64.reduceToInt, t64]); omega)) only [ia, is', im, ja, js, ir, idv, Int32.reduceToInt, Int64.reduceToInt, t64]); omega)) only [ia, is', im, ja, js, ir, idv, Int32.reduceToInt, Int64.reduceToInt, t64] at cc)); (all_goals (try simp only [h_sorts, h_things, h_chestSort, h_storedThing, h_rot] at cc)); (all_goals (try simp only [not_true_eq_false, eq_self] at cc)); all_goals omega)) (fun c5 => ?_)
  refine WP_iconst (0) dX11_costOf_8 rfl ?_
  refine WP_goto 21 dX11_costOf_9 rfl ?_
  exact WP_iret dX11_costOf_21 rfl ⟨rfl, rfl, rfl, rfl⟩
set_option maxHeartbeats 4000000 in
set_option maxRecDepth 100000 in
theorem s_behindNight0 {g : GG} {I : pI} {J : pJ} {R : pR} (hy : Ly g) (hr : Rf g R) (hmc : MC g I) (a b c : Int32) (hc : c = 0) (ha : 0 ≤ a.toInt) : SP g mX11_behindNight [.ref (ad g P_o), .int a, .int b, .int c] I J R (pq (.int a) I J R) := by
  refine SP_of ⟨by decide, rfl⟩ (Nat.le_of_ble_eq_true rfl) ?_
  have c0 : True := trivial
  have hmc0 := hmc
  refine WP_iconst (0) dX11_behindNight_0 rfl ?_
  refine WP_iload_n dX11_behindNight_1 rfl ?_
  refine WP_iload_n dX11_behindNight_2 rfl ?_
  refine WP_iload_n dX11_behindNight_3 rfl ?_
  refine WP_callS2p dX11_behindNight_4 ⟨⟨⟨by decide, by decide⟩, zX11_stampsOf⟩, lX11_380, tX11_stampsOf⟩ (s_stampsOf _ _) (Nat.le_of_ble_eq_true rfl) ?_
  refine WP_isub dX11_behindNight_7 ?_
  refine WP_aload_n dX11_behindNight_8 rfl ?_
  refine WP_callV0p (k := 11) dX11_behindNight_9 ⟨⟨⟨by decide, by decide⟩, zX11_costOf⟩, lX11_384, by decide, rfl, vX11_costOf.1, vX11_costOf.2⟩ (ly_is hy _ _ rfl) (s_costOf0 hy hr hmc0) (Nat.le_of_ble_eq_true rfl) ?_
  refine WP_iload_n dX11_behindNight_12 rfl ?_
  refine WP_imul dX11_behindNight_13 ?_
  refine WP_isub dX11_behindNight_14 ?_
  refine WP_max dX11_behindNight_15 lX11_387 ⟨by decide, Nat.le_of_ble_eq_true rfl⟩ ?_
  exact WP_iret dX11_behindNight_18 rfl ⟨(by rw [hc, stamp0, Int32.zero_mul, Int32.sub_zero, Int32.sub_zero, max0 ha]), rfl, rfl, rfl⟩
set_option maxHeartbeats 4000000 in
set_option maxRecDepth 100000 in
theorem fr_night {g : GG} {I : pI} {J : pJ} {R : pR} (hy : Ly g) (hr : Rf g R) (hf : MF g I J) (a b c : Int32) : SP g mX11_night [.ref (ad g P_o), .int a, .int b, .int c] I J R (rq (if (0 ≤ a.toInt ∧ a.toInt ≤ 60) ∧ b.toInt = 0 ∧ (0 ≤ c.toInt ∧ c.toInt < 7) then a else -2)) := by
  refine SP_of ⟨by decide, rfl⟩ (Nat.le_of_ble_eq_true rfl) ?_
  have c0 : True := trivial
  obtain ⟨hmc, h_taped, h_fault, h_faultAt, h_clauses, h_turnsTold, h_held, h_now, h_kept⟩ := hf
  have hmc0 := hmc
  obtain ⟨h_sorts, h_things, h_chestSort, h_storedThing, h_rot⟩ := hmc
  refine WP_iload_n dX11_night_0 rfl ?_
  refine WP_callS1p dX11_night_1 ⟨⟨⟨by decide, by decide⟩, zX11_areCoins⟩, lX11_392, tX11_areCoins⟩ (s_areCoins _) (Nat.le_of_ble_eq_true rfl) ?_
  refine WP_ifb_eq 47 dX11_night_4 rfl (fun c4 => ?_) (fun c4 => ?_)
  · refine WP_bipush (-2) dX11_night_47 rfl ?_
    exact WP_iret dX11_night_49 rfl (by unfold rq; (try simp only [h_taped, h_fault, h_faultAt, h_clauses, h_turnsTold, h_held, h_sorts, h_things, h_chestSort, h_storedThing, h_rot] at c0 c4 ⊢); (all_goals (try simp only [cmp_lt, cmp_gt] at c0 c4 ⊢)); (all_goals (try simp only [le32, lt32, eq32, t64, vp_in_iff, Int32.reduceToInt, Int64.reduceToInt] at c0 c4)); (all_goals (try simp (disch := ((try simp (disch := ((try simp (disch := omega) only [ia, is', im, ja, js, ir, idv, Int32.reduceToInt, Int64.reduceToInt, t64]); omega)) only [ia, is', im, ja, js, ir, idv, Int32.reduceToInt, Int64.reduceToInt, t64]); omega)) only [ia, is', im, ja, js, ir, idv, Int32.reduceToInt, Int64.reduceToInt, t64] at c0 c4 ⊢)); (all_goals (try simp only [h_taped, h_fault, h_faultAt, h_clauses, h_turnsTold, h_held, h_sorts, h_things, h_chestSort, h_storedThing, h_rot] at c0 c4 ⊢)); (all_goals (first | rfl | (rw [if_pos (by omega)]; done) | (rw [if_neg (by omega)]; done) | (rw [if_neg (by omega), if_pos (by omega)]; done) | (rw [if_neg (by omega), if_neg (by omega)]; done) | (exfalso; omega))))
  · refine WP_iload_n dX11_night_7 rfl ?_
    refine WP_callS1p dX11_night_8 ⟨⟨⟨by decide, by decide⟩, zX11_isStore⟩, lX11_395, tX11_isStore⟩ (s_isStore _) (Nat.le_of_ble_eq_true rfl) ?_
    refine WP_ifb_eq 47 dX11_night_11 rfl (fun c11 => ?_) (fun c11 => ?_)
    · refine WP_bipush (-2) dX11_night_47 rfl ?_
      exact WP_iret dX11_night_49 rfl (by unfold rq; (try simp only [h_taped, h_fault, h_faultAt, h_clauses, h_turnsTold, h_held, h_sorts, h_things, h_chestSort, h_storedThing, h_rot] at c0 c4 c11 ⊢); (all_goals (try simp only [cmp_lt, cmp_gt] at c0 c4 c11 ⊢)); (all_goals (try simp only [le32, lt32, eq32, t64, vp_in_iff, Int32.reduceToInt, Int64.reduceToInt] at c0 c4 c11)); (all_goals (try simp (disch := ((try simp (disch := ((try simp (disch := omega) only [ia, is', im, ja, js, ir, idv, Int32.reduceToInt, Int64.reduceToInt, t64]); omega)) only [ia, is', im, ja, js, ir, idv, Int32.reduceToInt, Int64.reduceToInt, t64]); omega)) only [ia, is', im, ja, js, ir, idv, Int32.reduceToInt, Int64.reduceToInt, t64] at c0 c4 c11 ⊢)); (all_goals (try simp only [h_taped, h_fault, h_faultAt, h_clauses, h_turnsTold, h_held, h_sorts, h_things, h_chestSort, h_storedThing, h_rot] at c0 c4 c11 ⊢)); (all_goals (first | rfl | (rw [if_pos (by omega)]; done) | (rw [if_neg (by omega)]; done) | (rw [if_neg (by omega), if_pos (by omega)]; done) | (rw [if_neg (by omega), if_neg (by omega)]; done) | (exfalso; omega))))
    · refine WP_iload_n dX11_night_14 rfl ?_
      refine WP_callS1p dX11_night_15 ⟨⟨⟨by decide, by decide⟩, zX11_isDay⟩, lX11_370, tX11_isDay⟩ (s_isDay _) (Nat.le_of_ble_eq_true rfl) ?_
      refine WP_ifb_eq 47 dX11_night_18 rfl (fun c18 => ?_) (fun c18 => ?_)
      · refine WP_bipush (-2) dX11_night_47 rfl ?_
        exact WP_iret dX11_night_49 rfl (by unfold rq; (try simp only [h_taped, h_fault, h_faultAt, h_clauses, h_turnsTold, h_held, h_sorts, h_things, h_chestSort, h_storedThing, h_rot] at c0 c4 c11 c18 ⊢); (all_goals (try simp only [cmp_lt, cmp_gt] at c0 c4 c11 c18 ⊢)); (all_goals (try simp only [le32, lt32, eq32, t64, vp_in_iff, Int32.reduceToInt, Int64.reduceToInt] at c0 c4 c11 c18)); (all_goals (try simp (disch := ((try simp (disch := ((try simp (disch := omega) only [ia, is', im, ja, js, ir, idv, Int32.reduceToInt, Int64.reduceToInt, t64]); omega)) only [ia, is', im, ja, js, ir, idv, Int32.reduceToInt, Int64.reduceToInt, t64]); omega)) only [ia, is', im, ja, js, ir, idv, Int32.reduceToInt, Int64.reduceToInt, t64] at c0 c4 c11 c18 ⊢)); (all_goals (try simp only [h_taped, h_fault, h_faultAt, h_clauses, h_turnsTold, h_held, h_sorts, h_things, h_chestSort, h_storedThing, h_rot] at c0 c4 c11 c18 ⊢)); (all_goals (first | rfl | (rw [if_pos (by omega)]; done) | (rw [if_neg (by omega)]; done) | (rw [if_neg (by omega), if_pos (by omega)]; done) | (rw [if_neg (by omega), if_neg (by omega)]; done) | (exfalso; omega))))
      · refine WP_aload_n dX11_night_21 rfl ?_
        refine WP_geti dX11_night_22 fX11_332 rfl (ly_is hy _ _ rfl) ?_
        refine WP_if_gt 32 dX11_night_25 rfl (fun c25 => ?_) (fun c25 => ?_)
        · refine WP_aload_n dX11_night_32 rfl ?_
          refine WP_iload_n dX11_night_33 rfl ?_
          refine WP_iload_n dX11_night_34 rfl ?_
          refine WP_aload_n dX11_night_35 rfl ?_
          refine WP_getr dX11_night_36 fX11_233 rfl (ly_is hy _ _ rfl) (rf hr 0 24 6 (by decide)) ?_
          refine WP_iload_n dX11_night_39 rfl ?_
          refine WP_iald dX11_night_40 (ly_is hy _ _ rfl) (ly_in hy _ _ rfl (by (try simp only [h_taped, h_fault, h_faultAt, h_clauses, h_turnsTold, h_held, h_sorts, h_things, h_chestSort, h_storedThing, h_rot] at c0 c4 c11 c18 c25 ⊢); (all_goals (try simp only [cmp_lt, cmp_gt] at c0 c4 c11 c18 c25 ⊢)); (all_goals (try simp only [le32, lt32, eq32, t64, vp_in_iff, Int32.reduceToInt, Int64.reduceToInt] at c0 c4 c11 c18 c25 ⊢)); (all_goals (try simp (disch := ((try simp (disch := ((try simp (disch := omega) only [ia, is', im, ja, js, ir, idv, Int32.reduceToInt, Int64.reduceToInt, t64]); omega)) only [ia, is', im, ja, js, ir, idv, Int32.reduceToInt, Int64.reduceToInt, t64]); omega)) only [ia, is', im, ja, js, ir, idv, Int32.reduceToInt, Int64.reduceToInt, t64] at c0 c4 c11 c18 c25 ⊢)); (all_goals (try simp only [h_taped, h_fault, h_faultAt, h_clauses, h_turnsTold, h_held, h_sorts, h_things, h_chestSort, h_storedThing, h_rot] at c0 c4 c11 c18 c25 ⊢)); all_goals (first | (constructor <;> omega) | (exfalso; omega)))) ?_
          refine WP_callV3p (k := 11) dX11_night_41 ⟨⟨⟨by decide, by decide⟩, zX11_behindNight⟩, lX11_398, by decide, rfl, vX11_behindNight.1, vX11_behindNight.2⟩ (ly_is hy _ _ rfl) (s_behindNight0 hy hr hmc0 _ _ _ (h_rot _) (by omega)) (Nat.le_of_ble_eq_true rfl) ?_
          refine WP_goto 49 dX11_night_44 rfl ?_
          exact WP_iret dX11_night_49 rfl (by unfold rq; (try simp only [h_taped, h_fault, h_faultAt, h_clauses, h_turnsTold, h_held, h_sorts, h_things, h_chestSort, h_storedThing, h_rot] at c0 c4 c11 c18 c25 ⊢); (all_goals (try simp only [cmp_lt, cmp_gt] at c0 c4 c11 c18 c25 ⊢)); (all_goals (try simp only [le32, lt32, eq32, t64, vp_in_iff, Int32.reduceToInt, Int64.reduceToInt] at c0 c4 c11 c18 c25)); (all_goals (try simp (disch := ((try simp (disch := ((try simp (disch := omega) only [ia, is', im, ja, js, ir, idv, Int32.reduceToInt, Int64.reduceToInt, t64]); omega)) only [ia, is', im, ja, js, ir, idv, Int32.reduceToInt, Int64.reduceToInt, t64]); omega)) only [ia, is', im, ja, js, ir, idv, Int32.reduceToInt, Int64.reduceToInt, t64] at c0 c4 c11 c18 c25 ⊢)); (all_goals (try simp only [h_taped, h_fault, h_faultAt, h_clauses, h_turnsTold, h_held, h_sorts, h_things, h_chestSort, h_storedThing, h_rot] at c0 c4 c11 c18 c25 ⊢)); (all_goals (first | rfl | (rw [if_pos (by omega)]; done) | (rw [if_neg (by omega)]; done) | (rw [if_neg (by omega), if_pos (by omega)]; done) | (rw [if_neg (by omega), if_neg (by omega)]; done) | (exfalso; omega))))
        · refine WP_iload_n dX11_night_28 rfl ?_
          refine WP_if_ne 47 dX11_night_29 rfl (fun c29 => ?_) (fun c29 => ?_)
          · refine WP_bipush (-2) dX11_night_47 rfl ?_
            exact WP_iret dX11_night_49 rfl (by unfold rq; (try simp only [h_taped, h_fault, h_faultAt, h_clauses, h_turnsTold, h_held, h_sorts, h_things, h_chestSort, h_storedThing, h_rot] at c0 c4 c11 c18 c25 c29 ⊢); (all_goals (try simp only [cmp_lt, cmp_gt] at c0 c4 c11 c18 c25 c29 ⊢)); (all_goals (try simp only [le32, lt32, eq32, t64, vp_in_iff, Int32.reduceToInt, Int64.reduceToInt] at c0 c4 c11 c18 c25 c29)); (all_goals (try simp (disch := ((try simp (disch := ((try simp (disch := omega) only [ia, is', im, ja, js, ir, idv, Int32.reduceToInt, Int64.reduceToInt, t64]); omega)) only [ia, is', im, ja, js, ir, idv, Int32.reduceToInt, Int64.reduceToInt, t64]); omega)) only [ia, is', im, ja, js, ir, idv, Int32.reduceToInt, Int64.reduceToInt, t64] at c0 c4 c11 c18 c25 c29 ⊢)); (all_goals (try simp only [h_taped, h_fault, h_faultAt, h_clauses, h_turnsTold, h_held, h_sorts, h_things, h_chestSort, h_storedThing, h_rot] at c0 c4 c11 c18 c25 c29 ⊢)); (all_goals (first | rfl | (rw [if_pos (by omega)]; done) | (rw [if_neg (by omega)]; done) | (rw [if_neg (by omega), if_pos (by omega)]; done) | (rw [if_neg (by omega), if_neg (by omega)]; done) | (exfalso; omega))))
          · refine WP_aload_n dX11_night_32 rfl ?_
            refine WP_iload_n dX11_night_33 rfl ?_
            refine WP_iload_n dX11_night_34 rfl ?_
            refine WP_aload_n dX11_night_35 rfl ?_
            refine WP_getr dX11_night_36 fX11_233 rfl (ly_is hy _ _ rfl) (rf hr 0 24 6 (by decide)) ?_
            refine WP_iload_n dX11_night_39 rfl ?_
            refine WP_iald dX11_night_40 (ly_is hy _ _ rfl) (ly_in hy _ _ rfl (by (try simp only [h_taped, h_fault, h_faultAt, h_clauses, h_turnsTold, h_held, h_sorts, h_things, h_chestSort, h_storedThing, h_rot] at c0 c4 c11 c18 c25 c29 ⊢); (all_goals (try simp only [cmp_lt, cmp_gt] at c0 c4 c11 c18 c25 c29 ⊢)); (all_goals (try simp only [le32, lt32, eq32, t64, vp_in_iff, Int32.reduceToInt, Int64.reduceToInt] at c0 c4 c11 c18 c25 c29 ⊢)); (all_goals (try simp (disch := ((try simp (disch := ((try simp (disch := omega) only [ia, is', im, ja, js, ir, idv, Int32.reduceToInt, Int64.reduceToInt, t64]); omega)) only [ia, is', im, ja, js, ir, idv, Int32.reduceToInt, Int64.reduceToInt, t64]); omega)) only [ia, is', im, ja, js, ir, idv, Int32.reduceToInt, Int64.reduceToInt, t64] at c0 c4 c11 c18 c25 c29 ⊢)); (all_goals (try simp only [h_taped, h_fault, h_faultAt, h_clauses, h_turnsTold, h_held, h_sorts, h_things, h_chestSort, h_storedThing, h_rot] at c0 c4 c11 c18 c25 c29 ⊢)); all_goals (first | (constructor <;> omega) | (exfalso; omega)))) ?_
            refine WP_callV3p (k := 11) dX11_night_41 ⟨⟨⟨by decide, by decide⟩, zX11_behindNight⟩, lX11_398, by decide, rfl, vX11_behindNight.1, vX11_behindNight.2⟩ (ly_is hy _ _ rfl) (s_behindNight0 hy hr hmc0 _ _ _ (h_rot _) (by omega)) (Nat.le_of_ble_eq_true rfl) ?_
            refine WP_goto 49 dX11_night_44 rfl ?_
            exact WP_iret dX11_night_49 rfl (by unfold rq; (try simp only [h_taped, h_fault, h_faultAt, h_clauses, h_turnsTold, h_held, h_sorts, h_things, h_chestSort, h_storedThing, h_rot] at c0 c4 c11 c18 c25 c29 ⊢); (all_goals (try simp only [cmp_lt, cmp_gt] at c0 c4 c11 c18 c25 c29 ⊢)); (all_goals (try simp only [le32, lt32, eq32, t64, vp_in_iff, Int32.reduceToInt, Int64.reduceToInt] at c0 c4 c11 c18 c25 c29)); (all_goals (try simp (disch := ((try simp (disch := ((try simp (disch := omega) only [ia, is', im, ja, js, ir, idv, Int32.reduceToInt, Int64.reduceToInt, t64]); omega)) only [ia, is', im, ja, js, ir, idv, Int32.reduceToInt, Int64.reduceToInt, t64]); omega)) only [ia, is', im, ja, js, ir, idv, Int32.reduceToInt, Int64.reduceToInt, t64] at c0 c4 c11 c18 c25 c29 ⊢)); (all_goals (try simp only [h_taped, h_fault, h_faultAt, h_clauses, h_turnsTold, h_held, h_sorts, h_things, h_chestSort, h_storedThing, h_rot] at c0 c4 c11 c18 c25 c29 ⊢)); (all_goals (first | rfl | (rw [if_pos (by omega)]; done) | (rw [if_neg (by omega)]; done) | (rw [if_neg (by omega), if_pos (by omega)]; done) | (rw [if_neg (by omega), if_neg (by omega)]; done) | (exfalso; omega))))
/-- all rows but those at the positions S are the same -/
def fx (g : GG) (S : List Nat) (I I' : pI) : Prop := ∀ i, i < 49 → i ∉ S → I' (ad g i) = I (ad g i)
theorem fx_rf {g : GG} {S : List Nat} {I : pI} : fx g S I I := fun _ _ _ => rfl
theorem fx_tr {g : GG} {S : List Nat} {I I1 I2 : pI} (h : fx g S I I1) (h2 : fx g S I1 I2) : fx g S I I2 := fun i hi hs => (h2 i hi hs).trans (h i hi hs)
theorem fx_mono {g : GG} {S S' : List Nat} {I I1 : pI} (h : fx g S I I1) (hs : ∀ i ∈ S, i ∈ S') : fx g S' I I1 := fun i hi hn => h i hi (fun q => hn (hs i q))
theorem fx_pp {g : GG} (hy : Ly g) {S : List Nat} {I I1 : pI} {i q : Nat} {v : Int32} (h : fx g S I I1) (hi : i < 49) (hm : i ∈ S) : fx g S I (pp I1 (ad g i) q v) := fun j hj hn => by
  rw [pp_off _ _ (ly_ne hy (show j ≠ i from fun e => hn (e ▸ hm)) hj hi)]
  exact h j hj hn
theorem MC_fx {g : GG} {S : List Nat} {I I1 : pI} (hm : MC g I) (h : fx g S I I1) (hS : P_o ∉ S ∧ P_o_rot ∉ S) : MC g I1 := by
  obtain ⟨a1, a2, a3, a4, a5⟩ := hm
  have e1 := h P_o (by decide) hS.1
  have e2 := h P_o_rot (by decide) hS.2
  exact ⟨by rw [e1, a1], by rw [e1, a2], by rw [e1, a3], by rw [e1, a4], fun q => by rw [e2, a5]⟩
/-- nothing answered, all rows but S the same -/
def fq (g : GG) (S : List Nat) (I : pI) (J : pJ) (R : pR) : Post := fun r I' J' R' => r = none ∧ fx g S I I' ∧ J' = J ∧ R' = R
set_option maxHeartbeats 4000000 in
set_option maxRecDepth 100000 in
theorem l_forget {g : GG} {I : pI} {J : pJ} {R : pR} (hy : Ly g) (hr : Rf g R)  : ∀ (m k : Nat) (I2 : pI), k + m = 28 → fx g [P_o_isWeekly] I I2 → WP g mX11_forgetWeeks 2 [(0, .ref (ad g P_o)), (1, .int (nI k))] [] I2 J R (fq g [P_o_isWeekly] I J R) := by
  intro m
  induction m with
  | zero =>
    intro k I2 hk hv
    have hkt : (nI k).toInt = (k : Int) := nI_toInt (by omega)
    have c0 : True := trivial
    refine WP_iload_n dX11_forgetWeeks_2 rfl ?_
    refine WP_bipush (28) dX11_forgetWeeks_3 rfl ?_
    refine WP_icmp_ge 21 dX11_forgetWeeks_5 rfl (fun c5 => ?_) (fun c5 => absurd c5 (by intro cc; (try simp only [hkt, hkt] at cc); (all_goals (try simp only [cmp_lt, cmp_gt] at cc)); (all_goals (try simp only [le32, lt32, eq32, t64, Int32.reduceToInt, Int64.reduceToInt] at cc)); (all_goals (try simp (disch := ((try simp (disch := ((try simp (disch := omega) only [ia, is', im, ja, js, ir, idv, Int32.reduceToInt, Int64.reduceToInt, t64]); omega)) only [ia, is', im, ja, js, ir, idv, Int32.reduceToInt, Int64.reduceToInt, t64]); omega)) only [ia, is', im, ja, js, ir, idv, Int32.reduceToInt, Int64.reduceToInt, t64] at cc)); (all_goals (try simp only [hkt, hkt] at cc)); (all_goals (try simp only [not_true_eq_false, eq_self] at cc)); all_goals omega))
    exact WP_vret dX11_forgetWeeks_21 rfl ⟨rfl, hv, rfl, rfl⟩
  | succ m ih =>
    intro k I2 hk hv
    have hkt : (nI k).toInt = (k : Int) := nI_toInt (by omega)
    have c0 : True := trivial
    refine WP_iload_n dX11_forgetWeeks_2 rfl ?_
    refine WP_bipush (28) dX11_forgetWeeks_3 rfl ?_
    refine WP_icmp_ge 21 dX11_forgetWeeks_5 rfl (fun c5 => absurd c5 (by intro cc; (try simp only [hkt, hkt] at cc); (all_goals (try simp only [cmp_lt, cmp_gt] at cc)); (all_goals (try simp only [le32, lt32, eq32, t64, Int32.reduceToInt, Int64.reduceToInt] at cc)); (all_goals (try simp (disch := ((try simp (disch := ((try simp (disch := omega) only [ia, is', im, ja, js, ir, idv, Int32.reduceToInt, Int64.reduceToInt, t64]); omega)) only [ia, is', im, ja, js, ir, idv, Int32.reduceToInt, Int64.reduceToInt, t64]); omega)) only [ia, is', im, ja, js, ir, idv, Int32.reduceToInt, Int64.reduceToInt, t64] at cc)); (all_goals (try simp only [hkt, hkt] at cc)); (all_goals (try simp only [not_true_eq_false, eq_self] at cc)); all_goals omega)) (fun c5 => ?_)
    refine WP_aload_n dX11_forgetWeeks_8 rfl ?_
    refine WP_getr dX11_forgetWeeks_9 fX11_279 rfl (ly_is hy _ _ rfl) (rf hr 0 58 37 (by decide)) ?_
    refine WP_iload_n dX11_forgetWeeks_12 rfl ?_
    refine WP_iconst (0) dX11_forgetWeeks_13 rfl ?_
    refine WP_zast dX11_forgetWeeks_14 (ly_is hy _ _ rfl) (ly_in hy _ _ rfl (by (try simp only [hkt, hkt] at c0 c5 ⊢); (all_goals (try simp only [cmp_lt, cmp_gt] at c0 c5 ⊢)); (all_goals (try simp only [le32, lt32, eq32, t64, vp_in_iff, Int32.reduceToInt, Int64.reduceToInt] at c0 c5 ⊢)); (all_goals (try simp (disch := ((try simp (disch := ((try simp (disch := omega) only [ia, is', im, ja, js, ir, idv, Int32.reduceToInt, Int64.reduceToInt, t64]); omega)) only [ia, is', im, ja, js, ir, idv, Int32.reduceToInt, Int64.reduceToInt, t64]); omega)) only [ia, is', im, ja, js, ir, idv, Int32.reduceToInt, Int64.reduceToInt, t64] at c0 c5 ⊢)); (all_goals (try simp only [hkt, hkt] at c0 c5 ⊢)); all_goals (first | (constructor <;> omega) | (exfalso; omega)))) ?_
    refine WP_iinc (ls' := [(0, _), (1, _)]) dX11_forgetWeeks_15 rfl (by decide) rfl ?_
    refine WP_goto 2 dX11_forgetWeeks_18 rfl ?_
    refine WP_sub (ls' := [(0, .ref (ad g P_o)), (1, .int (nI (k + 1)))]) (fc rfl (fc (by rw [← nI_1]; rfl) fn)) (ih (k + 1) _ (by omega) ?_)
    exact fx_pp hy hv (by decide) (by decide)
set_option maxHeartbeats 4000000 in
set_option maxRecDepth 100000 in
theorem s_forgetWeeks {g : GG} {I : pI} {J : pJ} {R : pR} (hy : Ly g) (hr : Rf g R)  : SP g mX11_forgetWeeks [.ref (ad g P_o)] I J R (fq g [P_o_isWeekly] I J R) := by
  refine SP_of ⟨by decide, rfl⟩ (Nat.le_of_ble_eq_true rfl) ?_
  have c0 : True := trivial
  refine WP_iconst (0) dX11_forgetWeeks_0 rfl ?_
  refine WP_istore_n (ls' := [(0, _), (1, _)]) dX11_forgetWeeks_1 (by decide) rfl ?_
  refine WP_sub (ls' := [(0, .ref (ad g P_o)), (1, .int (nI 0))]) (fc rfl (fc rfl fn)) (l_forget (I := I) (J := J) hy hr 28 0 _ (by omega) ?_)
  exact fx_rf
set_option maxHeartbeats 4000000 in
set_option maxRecDepth 100000 in
theorem l_begin {g : GG} {I : pI} {J : pJ} {R : pR} (hy : Ly g) (hr : Rf g R) (hs0 : I (ad g P_o) 10 = 0) (ps : Nat) (hpk : kT[ps]? = some 13) (hpn : nT[ps]? = some 35) (hps : ps < 49 ∧ ps ≠ P_o ∧ ps ≠ P_o_rot)  : ∀ (m k : Nat) (I2 : pI), k + m = 35 → fx g [ps] I I2 → WP g mX11_begin 2 [(0, .ref (ad g P_o)), (1, .ref (ad g ps)), (2, .int (nI k))] [] I2 J R (fq g [ps] I J R) := by
  intro m
  induction m with
  | zero =>
    intro k I2 hk hv
    have h_sorts : I2 (ad g P_o) 10 = 0 := by rw [hv P_o (by decide) (by simp only [List.mem_singleton]; exact Ne.symm hps.2.1)]; exact hs0
    have hkt : (nI k).toInt = (k : Int) := nI_toInt (by omega)
    have c0 : True := trivial
    refine WP_iload_n dX11_begin_2 rfl ?_
    refine WP_bipush (35) dX11_begin_3 rfl ?_
    refine WP_icmp_ge 30 dX11_begin_5 rfl (fun c5 => ?_) (fun c5 => absurd c5 (by intro cc; (try simp only [h_sorts, hkt, hkt] at cc); (all_goals (try simp only [cmp_lt, cmp_gt] at cc)); (all_goals (try simp only [le32, lt32, eq32, t64, Int32.reduceToInt, Int64.reduceToInt] at cc)); (all_goals (try simp (disch := ((try simp (disch := ((try simp (disch := omega) only [ia, is', im, ja, js, ir, idv, Int32.reduceToInt, Int64.reduceToInt, t64]); omega)) only [ia, is', im, ja, js, ir, idv, Int32.reduceToInt, Int64.reduceToInt, t64]); omega)) only [ia, is', im, ja, js, ir, idv, Int32.reduceToInt, Int64.reduceToInt, t64] at cc)); (all_goals (try simp only [h_sorts, hkt, hkt] at cc)); (all_goals (try simp only [not_true_eq_false, eq_self] at cc)); all_goals omega))
    refine WP_iconst (0) dX11_begin_30 rfl ?_
    refine WP_istore_n (ls' := [(0, _), (1, _), (2, _)]) dX11_begin_31 (by decide) rfl ?_
    refine WP_iload_n dX11_begin_32 rfl ?_
    refine WP_aload_n dX11_begin_33 rfl ?_
    refine WP_geti dX11_begin_34 fX11_329 rfl (ly_is hy _ _ rfl) ?_
    refine WP_icmp_ge 57 dX11_begin_37 rfl (fun c37 => ?_) (fun c37 => absurd c37 (by intro cc; (try simp only [h_sorts, hkt, hkt] at cc); (all_goals (try simp only [cmp_lt, cmp_gt] at cc)); (all_goals (try simp only [le32, lt32, eq32, t64, Int32.reduceToInt, Int64.reduceToInt] at cc)); (all_goals (try simp (disch := ((try simp (disch := ((try simp (disch := omega) only [ia, is', im, ja, js, ir, idv, Int32.reduceToInt, Int64.reduceToInt, t64]); omega)) only [ia, is', im, ja, js, ir, idv, Int32.reduceToInt, Int64.reduceToInt, t64]); omega)) only [ia, is', im, ja, js, ir, idv, Int32.reduceToInt, Int64.reduceToInt, t64] at cc)); (all_goals (try simp only [h_sorts, hkt, hkt] at cc)); (all_goals (try simp only [not_true_eq_false, eq_self] at cc)); all_goals omega))
    exact WP_vret dX11_begin_57 rfl ⟨rfl, hv, rfl, rfl⟩
  | succ m ih =>
    intro k I2 hk hv
    have h_sorts : I2 (ad g P_o) 10 = 0 := by rw [hv P_o (by decide) (by simp only [List.mem_singleton]; exact Ne.symm hps.2.1)]; exact hs0
    have hkt : (nI k).toInt = (k : Int) := nI_toInt (by omega)
    have c0 : True := trivial
    refine WP_iload_n dX11_begin_2 rfl ?_
    refine WP_bipush (35) dX11_begin_3 rfl ?_
    refine WP_icmp_ge 30 dX11_begin_5 rfl (fun c5 => absurd c5 (by intro cc; (try simp only [h_sorts, hkt, hkt] at cc); (all_goals (try simp only [cmp_lt, cmp_gt] at cc)); (all_goals (try simp only [le32, lt32, eq32, t64, Int32.reduceToInt, Int64.reduceToInt] at cc)); (all_goals (try simp (disch := ((try simp (disch := ((try simp (disch := omega) only [ia, is', im, ja, js, ir, idv, Int32.reduceToInt, Int64.reduceToInt, t64]); omega)) only [ia, is', im, ja, js, ir, idv, Int32.reduceToInt, Int64.reduceToInt, t64]); omega)) only [ia, is', im, ja, js, ir, idv, Int32.reduceToInt, Int64.reduceToInt, t64] at cc)); (all_goals (try simp only [h_sorts, hkt, hkt] at cc)); (all_goals (try simp only [not_true_eq_false, eq_self] at cc)); all_goals omega)) (fun c5 => ?_)
    refine WP_iload_n dX11_begin_8 rfl ?_
    refine WP_bipush (28) dX11_begin_9 rfl ?_
    refine WP_icmp_lt 20 dX11_begin_11 rfl (fun c11 => ?_) (fun c11 => ?_)
    · refine WP_aload_n dX11_begin_20 rfl ?_
      refine WP_iload_n dX11_begin_21 rfl ?_
      refine WP_iconst (0) dX11_begin_22 rfl ?_
      refine WP_iast dX11_begin_23 (ly_is hy _ _ hpk) (ly_in hy _ 35 hpn (by (try simp only [h_sorts, hkt, hkt] at c0 c5 c11 ⊢); (all_goals (try simp only [cmp_lt, cmp_gt] at c0 c5 c11 ⊢)); (all_goals (try simp only [le32, lt32, eq32, t64, vp_in_iff, Int32.reduceToInt, Int64.reduceToInt] at c0 c5 c11 ⊢)); (all_goals (try simp (disch := ((try simp (disch := ((try simp (disch := omega) only [ia, is', im, ja, js, ir, idv, Int32.reduceToInt, Int64.reduceToInt, t64]); omega)) only [ia, is', im, ja, js, ir, idv, Int32.reduceToInt, Int64.reduceToInt, t64]); omega)) only [ia, is', im, ja, js, ir, idv, Int32.reduceToInt, Int64.reduceToInt, t64] at c0 c5 c11 ⊢)); (all_goals (try simp only [h_sorts, hkt, hkt] at c0 c5 c11 ⊢)); all_goals (first | (constructor <;> omega) | (exfalso; omega)))) ?_
      refine WP_iinc (ls' := [(0, _), (1, _), (2, _)]) dX11_begin_24 rfl (by decide) rfl ?_
      refine WP_goto 2 dX11_begin_27 rfl ?_
      refine WP_sub (ls' := [(0, .ref (ad g P_o)), (1, .ref (ad g ps)), (2, .int (nI (k + 1)))]) (fc rfl (fc rfl (fc (by rw [← nI_1]; rfl) fn))) (ih (k + 1) _ (by omega) ?_)
      first | exact hv | exact fx_pp hy hv hps.1 (by simp)
    · refine WP_iload_n dX11_begin_14 rfl ?_
      refine WP_bipush (32) dX11_begin_15 rfl ?_
      refine WP_icmp_lt 24 dX11_begin_17 rfl (fun c17 => ?_) (fun c17 => ?_)
      · refine WP_iinc (ls' := [(0, _), (1, _), (2, _)]) dX11_begin_24 rfl (by decide) rfl ?_
        refine WP_goto 2 dX11_begin_27 rfl ?_
        refine WP_sub (ls' := [(0, .ref (ad g P_o)), (1, .ref (ad g ps)), (2, .int (nI (k + 1)))]) (fc rfl (fc rfl (fc (by rw [← nI_1]; rfl) fn))) (ih (k + 1) _ (by omega) ?_)
        first | exact hv | exact fx_pp hy hv hps.1 (by simp)
      · refine WP_aload_n dX11_begin_20 rfl ?_
        refine WP_iload_n dX11_begin_21 rfl ?_
        refine WP_iconst (0) dX11_begin_22 rfl ?_
        refine WP_iast dX11_begin_23 (ly_is hy _ _ hpk) (ly_in hy _ 35 hpn (by (try simp only [h_sorts, hkt, hkt] at c0 c5 c11 c17 ⊢); (all_goals (try simp only [cmp_lt, cmp_gt] at c0 c5 c11 c17 ⊢)); (all_goals (try simp only [le32, lt32, eq32, t64, vp_in_iff, Int32.reduceToInt, Int64.reduceToInt] at c0 c5 c11 c17 ⊢)); (all_goals (try simp (disch := ((try simp (disch := ((try simp (disch := omega) only [ia, is', im, ja, js, ir, idv, Int32.reduceToInt, Int64.reduceToInt, t64]); omega)) only [ia, is', im, ja, js, ir, idv, Int32.reduceToInt, Int64.reduceToInt, t64]); omega)) only [ia, is', im, ja, js, ir, idv, Int32.reduceToInt, Int64.reduceToInt, t64] at c0 c5 c11 c17 ⊢)); (all_goals (try simp only [h_sorts, hkt, hkt] at c0 c5 c11 c17 ⊢)); all_goals (first | (constructor <;> omega) | (exfalso; omega)))) ?_
        refine WP_iinc (ls' := [(0, _), (1, _), (2, _)]) dX11_begin_24 rfl (by decide) rfl ?_
        refine WP_goto 2 dX11_begin_27 rfl ?_
        refine WP_sub (ls' := [(0, .ref (ad g P_o)), (1, .ref (ad g ps)), (2, .int (nI (k + 1)))]) (fc rfl (fc rfl (fc (by rw [← nI_1]; rfl) fn))) (ih (k + 1) _ (by omega) ?_)
        first | exact hv | exact fx_pp hy hv hps.1 (by simp)
set_option maxHeartbeats 4000000 in
set_option maxRecDepth 100000 in
theorem s_begin {g : GG} {I : pI} {J : pJ} {R : pR} (hy : Ly g) (hr : Rf g R) (hs0 : I (ad g P_o) 10 = 0) (ps : Nat) (hpk : kT[ps]? = some 13) (hpn : nT[ps]? = some 35) (hps : ps < 49 ∧ ps ≠ P_o ∧ ps ≠ P_o_rot)  : SP g mX11_begin [.ref (ad g P_o), .ref (ad g ps)] I J R (fq g [ps] I J R) := by
  refine SP_of ⟨by decide, rfl⟩ (Nat.le_of_ble_eq_true rfl) ?_
  have c0 : True := trivial
  refine WP_iconst (0) dX11_begin_0 rfl ?_
  refine WP_istore_n (ls' := [(0, _), (1, _), (2, _)]) dX11_begin_1 (by decide) rfl ?_
  refine WP_sub (ls' := [(0, .ref (ad g P_o)), (1, .ref (ad g ps)), (2, .int (nI 0))]) (fc rfl (fc rfl (fc rfl fn))) (l_begin (I := I) (J := J) hy hr hs0 ps hpk hpn hps 35 0 _ (by omega) ?_)
  exact fx_rf
set_option maxHeartbeats 4000000 in
set_option maxRecDepth 100000 in
theorem s_openChest0 {g : GG} {I : pI} {J : pJ} {R : pR} (hy : Ly g) (hr : Rf g R) (hmc : MC g I) (ps : Nat) (hpk : kT[ps]? = some 13) (hpn : nT[ps]? = some 35) (hps : ps < 49 ∧ ps ≠ P_o ∧ ps ≠ P_o_rot)  : SP g mX11_openChest [.ref (ad g P_o), .ref (ad g ps)] I J R (pu I J R) := by
  refine SP_of ⟨by decide, rfl⟩ (Nat.le_of_ble_eq_true rfl) ?_
  have c0 : True := trivial
  obtain ⟨h_sorts, h_things, h_chestSort, h_storedThing, h_rot⟩ := hmc
  refine WP_aload_n dX11_openChest_0 rfl ?_
  refine WP_geti dX11_openChest_1 fX11_221 rfl (ly_is hy _ _ rfl) ?_
  refine WP_iconst (-1) dX11_openChest_4 rfl ?_
  refine WP_icmp_ne 9 dX11_openChest_5 rfl (fun c5 => absurd c5 (by intro cc; (try simp only [h_sorts, h_things, h_chestSort, h_storedThing, h_rot] at cc); (all_goals (try simp only [cmp_lt, cmp_gt] at cc)); (all_goals (try simp only [le32, lt32, eq32, t64, Int32.reduceToInt, Int64.reduceToInt] at cc)); (all_goals (try simp (disch := ((try simp (disch := ((try simp (disch := omega) only [ia, is', im, ja, js, ir, idv, Int32.reduceToInt, Int64.reduceToInt, t64]); omega)) only [ia, is', im, ja, js, ir, idv, Int32.reduceToInt, Int64.reduceToInt, t64]); omega)) only [ia, is', im, ja, js, ir, idv, Int32.reduceToInt, Int64.reduceToInt, t64] at cc)); (all_goals (try simp only [h_sorts, h_things, h_chestSort, h_storedThing, h_rot] at cc)); (all_goals (try simp only [not_true_eq_false, eq_self] at cc)); all_goals omega)) (fun c5 => ?_)
  exact WP_vret dX11_openChest_8 rfl ⟨rfl, rfl, rfl, rfl⟩
set_option maxHeartbeats 4000000 in
set_option maxRecDepth 100000 in
theorem s_dayOf {g : GG} {I : pI} {J : pJ} {R : pR} (hy : Ly g) (hr : Rf g R) (hmc : MC g I) (ps : Nat) (hpk : kT[ps]? = some 13) (hpn : nT[ps]? = some 35) (hps : ps < 49 ∧ ps ≠ P_o ∧ ps ≠ P_o_rot)  : SP g mX11_dayOf [.ref (ad g P_o), .ref (ad g ps)] I J R (pd (.long 0) (pp I (ad g ps) 33 (I (ad g ps) 33 + 1)) J R) := by
  refine SP_of ⟨by decide, rfl⟩ (Nat.le_of_ble_eq_true rfl) ?_
  have c0 : True := trivial
  have hmc0 := hmc
  obtain ⟨h_sorts, h_things, h_chestSort, h_storedThing, h_rot⟩ := hmc
  refine WP_aload_n dX11_dayOf_0 rfl ?_
  refine WP_bipush (33) dX11_dayOf_1 rfl ?_
  refine WP_iald dX11_dayOf_3 (ly_is hy _ _ hpk) (ly_in hy _ 35 hpn (by (try simp only [h_sorts, h_things, h_chestSort, h_storedThing, h_rot] at c0 ⊢); (all_goals (try simp only [cmp_lt, cmp_gt] at c0 ⊢)); (all_goals (try simp only [le32, lt32, eq32, t64, vp_in_iff, Int32.reduceToInt, Int64.reduceToInt] at c0 ⊢)); (all_goals (try simp (disch := ((try simp (disch := ((try simp (disch := omega) only [ia, is', im, ja, js, ir, idv, Int32.reduceToInt, Int64.reduceToInt, t64]); omega)) only [ia, is', im, ja, js, ir, idv, Int32.reduceToInt, Int64.reduceToInt, t64]); omega)) only [ia, is', im, ja, js, ir, idv, Int32.reduceToInt, Int64.reduceToInt, t64] at c0 ⊢)); (all_goals (try simp only [h_sorts, h_things, h_chestSort, h_storedThing, h_rot] at c0 ⊢)); all_goals (first | (constructor <;> omega) | (exfalso; omega)))) ?_
  refine WP_bipush (7) dX11_dayOf_4 rfl ?_
  refine WP_irem dX11_dayOf_6 (by decide) ?_
  refine WP_istore_n (ls' := [(0, _), (1, _), (2, _)]) dX11_dayOf_7 (by decide) rfl ?_
  refine WP_lconst (0) dX11_dayOf_8 rfl ?_
  refine WP_lstore_n (ls' := [(0, _), (1, _), (2, _), (3, _)]) dX11_dayOf_9 (by decide) rfl ?_
  refine WP_iload_n dX11_dayOf_10 rfl ?_
  refine WP_if_ne 19 dX11_dayOf_11 rfl (fun c11 => ?_) (fun c11 => ?_)
  · refine WP_iconst (0) dX11_dayOf_19 rfl ?_
    refine WP_istore (ls' := [(0, _), (1, _), (2, _), (3, _), (5, _)]) dX11_dayOf_20 (by decide) rfl ?_
    refine WP_iload dX11_dayOf_22 rfl ?_
    refine WP_aload_n dX11_dayOf_24 rfl ?_
    refine WP_geti dX11_dayOf_25 fX11_332 rfl (ly_is hy _ _ rfl) ?_
    refine WP_icmp_ge 85 dX11_dayOf_28 rfl (fun c28 => ?_) (fun c28 => absurd c28 (by intro cc; (try simp only [h_sorts, h_things, h_chestSort, h_storedThing, h_rot] at cc); (all_goals (try simp only [cmp_lt, cmp_gt] at cc)); (all_goals (try simp only [le32, lt32, eq32, t64, Int32.reduceToInt, Int64.reduceToInt] at cc)); (all_goals (try simp (disch := ((try simp (disch := ((try simp (disch := omega) only [ia, is', im, ja, js, ir, idv, Int32.reduceToInt, Int64.reduceToInt, t64]); omega)) only [ia, is', im, ja, js, ir, idv, Int32.reduceToInt, Int64.reduceToInt, t64]); omega)) only [ia, is', im, ja, js, ir, idv, Int32.reduceToInt, Int64.reduceToInt, t64] at cc)); (all_goals (try simp only [h_sorts, h_things, h_chestSort, h_storedThing, h_rot] at cc)); (all_goals (try simp only [not_true_eq_false, eq_self] at cc)); all_goals omega))
    refine WP_iconst (0) dX11_dayOf_85 rfl ?_
    refine WP_istore (ls' := [(0, _), (1, _), (2, _), (3, _), (5, _)]) dX11_dayOf_86 (by decide) rfl ?_
    refine WP_iload dX11_dayOf_88 rfl ?_
    refine WP_aload_n dX11_dayOf_90 rfl ?_
    refine WP_geti dX11_dayOf_91 fX11_329 rfl (ly_is hy _ _ rfl) ?_
    refine WP_icmp_ge 114 dX11_dayOf_94 rfl (fun c94 => ?_) (fun c94 => absurd c94 (by intro cc; (try simp only [h_sorts, h_things, h_chestSort, h_storedThing, h_rot] at cc); (all_goals (try simp only [cmp_lt, cmp_gt] at cc)); (all_goals (try simp only [le32, lt32, eq32, t64, Int32.reduceToInt, Int64.reduceToInt] at cc)); (all_goals (try simp (disch := ((try simp (disch := ((try simp (disch := omega) only [ia, is', im, ja, js, ir, idv, Int32.reduceToInt, Int64.reduceToInt, t64]); omega)) only [ia, is', im, ja, js, ir, idv, Int32.reduceToInt, Int64.reduceToInt, t64]); omega)) only [ia, is', im, ja, js, ir, idv, Int32.reduceToInt, Int64.reduceToInt, t64] at cc)); (all_goals (try simp only [h_sorts, h_things, h_chestSort, h_storedThing, h_rot] at cc)); (all_goals (try simp only [not_true_eq_false, eq_self] at cc)); all_goals omega))
    refine WP_iconst (0) dX11_dayOf_114 rfl ?_
    refine WP_istore (ls' := [(0, _), (1, _), (2, _), (3, _), (5, _)]) dX11_dayOf_115 (by decide) rfl ?_
    refine WP_iload dX11_dayOf_117 rfl ?_
    refine WP_aload_n dX11_dayOf_119 rfl ?_
    refine WP_geti dX11_dayOf_120 fX11_329 rfl (ly_is hy _ _ rfl) ?_
    refine WP_icmp_ge 140 dX11_dayOf_123 rfl (fun c123 => ?_) (fun c123 => absurd c123 (by intro cc; (try simp only [h_sorts, h_things, h_chestSort, h_storedThing, h_rot] at cc); (all_goals (try simp only [cmp_lt, cmp_gt] at cc)); (all_goals (try simp only [le32, lt32, eq32, t64, Int32.reduceToInt, Int64.reduceToInt] at cc)); (all_goals (try simp (disch := ((try simp (disch := ((try simp (disch := omega) only [ia, is', im, ja, js, ir, idv, Int32.reduceToInt, Int64.reduceToInt, t64]); omega)) only [ia, is', im, ja, js, ir, idv, Int32.reduceToInt, Int64.reduceToInt, t64]); omega)) only [ia, is', im, ja, js, ir, idv, Int32.reduceToInt, Int64.reduceToInt, t64] at cc)); (all_goals (try simp only [h_sorts, h_things, h_chestSort, h_storedThing, h_rot] at cc)); (all_goals (try simp only [not_true_eq_false, eq_self] at cc)); all_goals omega))
    refine WP_aload_n dX11_dayOf_140 rfl ?_
    refine WP_bipush (33) dX11_dayOf_141 rfl ?_
    refine WP_dup2 dX11_dayOf_143 rfl rfl ?_
    refine WP_iald dX11_dayOf_144 (ly_is hy _ _ hpk) (ly_in hy _ 35 hpn (by (try simp only [h_sorts, h_things, h_chestSort, h_storedThing, h_rot] at c0 c11 c28 c94 c123 ⊢); (all_goals (try simp only [cmp_lt, cmp_gt] at c0 c11 c28 c94 c123 ⊢)); (all_goals (try simp only [le32, lt32, eq32, t64, vp_in_iff, Int32.reduceToInt, Int64.reduceToInt] at c0 c11 c28 c94 c123 ⊢)); (all_goals (try simp (disch := ((try simp (disch := ((try simp (disch := omega) only [ia, is', im, ja, js, ir, idv, Int32.reduceToInt, Int64.reduceToInt, t64]); omega)) only [ia, is', im, ja, js, ir, idv, Int32.reduceToInt, Int64.reduceToInt, t64]); omega)) only [ia, is', im, ja, js, ir, idv, Int32.reduceToInt, Int64.reduceToInt, t64] at c0 c11 c28 c94 c123 ⊢)); (all_goals (try simp only [h_sorts, h_things, h_chestSort, h_storedThing, h_rot] at c0 c11 c28 c94 c123 ⊢)); all_goals (first | (constructor <;> omega) | (exfalso; omega)))) ?_
    refine WP_iconst (1) dX11_dayOf_145 rfl ?_
    refine WP_iadd dX11_dayOf_146 ?_
    refine WP_iast dX11_dayOf_147 (ly_is hy _ _ hpk) (ly_in hy _ 35 hpn (by (try simp only [h_sorts, h_things, h_chestSort, h_storedThing, h_rot] at c0 c11 c28 c94 c123 ⊢); (all_goals (try simp only [cmp_lt, cmp_gt] at c0 c11 c28 c94 c123 ⊢)); (all_goals (try simp only [le32, lt32, eq32, t64, vp_in_iff, Int32.reduceToInt, Int64.reduceToInt] at c0 c11 c28 c94 c123 ⊢)); (all_goals (try simp (disch := ((try simp (disch := ((try simp (disch := omega) only [ia, is', im, ja, js, ir, idv, Int32.reduceToInt, Int64.reduceToInt, t64]); omega)) only [ia, is', im, ja, js, ir, idv, Int32.reduceToInt, Int64.reduceToInt, t64]); omega)) only [ia, is', im, ja, js, ir, idv, Int32.reduceToInt, Int64.reduceToInt, t64] at c0 c11 c28 c94 c123 ⊢)); (all_goals (try simp only [h_sorts, h_things, h_chestSort, h_storedThing, h_rot] at c0 c11 c28 c94 c123 ⊢)); all_goals (first | (constructor <;> omega) | (exfalso; omega)))) ?_
    refine WP_lload_n dX11_dayOf_148 rfl ?_
    exact WP_lret dX11_dayOf_149 rfl ⟨rfl, rfl, rfl, rfl⟩
  · refine WP_aload_n dX11_dayOf_14 rfl ?_
    refine WP_aload_n dX11_dayOf_15 rfl ?_
    refine WP_callV1u (k := 11) dX11_dayOf_16 ⟨⟨⟨by decide, by decide⟩, zX11_openChest⟩, lX11_467, by decide, rfl, vX11_openChest.1, vX11_openChest.2⟩ (ly_is hy _ _ rfl) (s_openChest0 hy hr hmc0 ps hpk hpn hps) (Nat.le_of_ble_eq_true rfl) ?_
    refine WP_iconst (0) dX11_dayOf_19 rfl ?_
    refine WP_istore (ls' := [(0, _), (1, _), (2, _), (3, _), (5, _)]) dX11_dayOf_20 (by decide) rfl ?_
    refine WP_iload dX11_dayOf_22 rfl ?_
    refine WP_aload_n dX11_dayOf_24 rfl ?_
    refine WP_geti dX11_dayOf_25 fX11_332 rfl (ly_is hy _ _ rfl) ?_
    refine WP_icmp_ge 85 dX11_dayOf_28 rfl (fun c28 => ?_) (fun c28 => absurd c28 (by intro cc; (try simp only [h_sorts, h_things, h_chestSort, h_storedThing, h_rot] at cc); (all_goals (try simp only [cmp_lt, cmp_gt] at cc)); (all_goals (try simp only [le32, lt32, eq32, t64, Int32.reduceToInt, Int64.reduceToInt] at cc)); (all_goals (try simp (disch := ((try simp (disch := ((try simp (disch := omega) only [ia, is', im, ja, js, ir, idv, Int32.reduceToInt, Int64.reduceToInt, t64]); omega)) only [ia, is', im, ja, js, ir, idv, Int32.reduceToInt, Int64.reduceToInt, t64]); omega)) only [ia, is', im, ja, js, ir, idv, Int32.reduceToInt, Int64.reduceToInt, t64] at cc)); (all_goals (try simp only [h_sorts, h_things, h_chestSort, h_storedThing, h_rot] at cc)); (all_goals (try simp only [not_true_eq_false, eq_self] at cc)); all_goals omega))
    refine WP_iconst (0) dX11_dayOf_85 rfl ?_
    refine WP_istore (ls' := [(0, _), (1, _), (2, _), (3, _), (5, _)]) dX11_dayOf_86 (by decide) rfl ?_
    refine WP_iload dX11_dayOf_88 rfl ?_
    refine WP_aload_n dX11_dayOf_90 rfl ?_
    refine WP_geti dX11_dayOf_91 fX11_329 rfl (ly_is hy _ _ rfl) ?_
    refine WP_icmp_ge 114 dX11_dayOf_94 rfl (fun c94 => ?_) (fun c94 => absurd c94 (by intro cc; (try simp only [h_sorts, h_things, h_chestSort, h_storedThing, h_rot] at cc); (all_goals (try simp only [cmp_lt, cmp_gt] at cc)); (all_goals (try simp only [le32, lt32, eq32, t64, Int32.reduceToInt, Int64.reduceToInt] at cc)); (all_goals (try simp (disch := ((try simp (disch := ((try simp (disch := omega) only [ia, is', im, ja, js, ir, idv, Int32.reduceToInt, Int64.reduceToInt, t64]); omega)) only [ia, is', im, ja, js, ir, idv, Int32.reduceToInt, Int64.reduceToInt, t64]); omega)) only [ia, is', im, ja, js, ir, idv, Int32.reduceToInt, Int64.reduceToInt, t64] at cc)); (all_goals (try simp only [h_sorts, h_things, h_chestSort, h_storedThing, h_rot] at cc)); (all_goals (try simp only [not_true_eq_false, eq_self] at cc)); all_goals omega))
    refine WP_iconst (0) dX11_dayOf_114 rfl ?_
    refine WP_istore (ls' := [(0, _), (1, _), (2, _), (3, _), (5, _)]) dX11_dayOf_115 (by decide) rfl ?_
    refine WP_iload dX11_dayOf_117 rfl ?_
    refine WP_aload_n dX11_dayOf_119 rfl ?_
    refine WP_geti dX11_dayOf_120 fX11_329 rfl (ly_is hy _ _ rfl) ?_
    refine WP_icmp_ge 140 dX11_dayOf_123 rfl (fun c123 => ?_) (fun c123 => absurd c123 (by intro cc; (try simp only [h_sorts, h_things, h_chestSort, h_storedThing, h_rot] at cc); (all_goals (try simp only [cmp_lt, cmp_gt] at cc)); (all_goals (try simp only [le32, lt32, eq32, t64, Int32.reduceToInt, Int64.reduceToInt] at cc)); (all_goals (try simp (disch := ((try simp (disch := ((try simp (disch := omega) only [ia, is', im, ja, js, ir, idv, Int32.reduceToInt, Int64.reduceToInt, t64]); omega)) only [ia, is', im, ja, js, ir, idv, Int32.reduceToInt, Int64.reduceToInt, t64]); omega)) only [ia, is', im, ja, js, ir, idv, Int32.reduceToInt, Int64.reduceToInt, t64] at cc)); (all_goals (try simp only [h_sorts, h_things, h_chestSort, h_storedThing, h_rot] at cc)); (all_goals (try simp only [not_true_eq_false, eq_self] at cc)); all_goals omega))
    refine WP_aload_n dX11_dayOf_140 rfl ?_
    refine WP_bipush (33) dX11_dayOf_141 rfl ?_
    refine WP_dup2 dX11_dayOf_143 rfl rfl ?_
    refine WP_iald dX11_dayOf_144 (ly_is hy _ _ hpk) (ly_in hy _ 35 hpn (by (try simp only [h_sorts, h_things, h_chestSort, h_storedThing, h_rot] at c0 c11 c28 c94 c123 ⊢); (all_goals (try simp only [cmp_lt, cmp_gt] at c0 c11 c28 c94 c123 ⊢)); (all_goals (try simp only [le32, lt32, eq32, t64, vp_in_iff, Int32.reduceToInt, Int64.reduceToInt] at c0 c11 c28 c94 c123 ⊢)); (all_goals (try simp (disch := ((try simp (disch := ((try simp (disch := omega) only [ia, is', im, ja, js, ir, idv, Int32.reduceToInt, Int64.reduceToInt, t64]); omega)) only [ia, is', im, ja, js, ir, idv, Int32.reduceToInt, Int64.reduceToInt, t64]); omega)) only [ia, is', im, ja, js, ir, idv, Int32.reduceToInt, Int64.reduceToInt, t64] at c0 c11 c28 c94 c123 ⊢)); (all_goals (try simp only [h_sorts, h_things, h_chestSort, h_storedThing, h_rot] at c0 c11 c28 c94 c123 ⊢)); all_goals (first | (constructor <;> omega) | (exfalso; omega)))) ?_
    refine WP_iconst (1) dX11_dayOf_145 rfl ?_
    refine WP_iadd dX11_dayOf_146 ?_
    refine WP_iast dX11_dayOf_147 (ly_is hy _ _ hpk) (ly_in hy _ 35 hpn (by (try simp only [h_sorts, h_things, h_chestSort, h_storedThing, h_rot] at c0 c11 c28 c94 c123 ⊢); (all_goals (try simp only [cmp_lt, cmp_gt] at c0 c11 c28 c94 c123 ⊢)); (all_goals (try simp only [le32, lt32, eq32, t64, vp_in_iff, Int32.reduceToInt, Int64.reduceToInt] at c0 c11 c28 c94 c123 ⊢)); (all_goals (try simp (disch := ((try simp (disch := ((try simp (disch := omega) only [ia, is', im, ja, js, ir, idv, Int32.reduceToInt, Int64.reduceToInt, t64]); omega)) only [ia, is', im, ja, js, ir, idv, Int32.reduceToInt, Int64.reduceToInt, t64]); omega)) only [ia, is', im, ja, js, ir, idv, Int32.reduceToInt, Int64.reduceToInt, t64] at c0 c11 c28 c94 c123 ⊢)); (all_goals (try simp only [h_sorts, h_things, h_chestSort, h_storedThing, h_rot] at c0 c11 c28 c94 c123 ⊢)); all_goals (first | (constructor <;> omega) | (exfalso; omega)))) ?_
    refine WP_lload_n dX11_dayOf_148 rfl ?_
    exact WP_lret dX11_dayOf_149 rfl ⟨rfl, rfl, rfl, rfl⟩
set_option maxHeartbeats 4000000 in
set_option maxRecDepth 100000 in
theorem l_pass {g : GG} {I : pI} {J : pJ} {R : pR} (hy : Ly g) (hr : Rf g R) (a : Int32) (N : Nat) (hN : (N : Int) = a.toInt) : ∀ (m k : Nat) (I2 : pI) (J2 : pJ), k + m = N → (MC g I2 ∧ I2 (ad g P_o_now) 33 = nI k) → WP g mX11_pass 17 [(0, .ref (ad g P_o)), (1, .int a), (2, .int (nI k))] [] I2 J2 R (rq a) := by
  intro m
  induction m with
  | zero =>
    intro k I2 J2 hk hv
    have har := rng a
    have hkt : (nI k).toInt = (k : Int) := nI_toInt (by omega)
    have c0 : True := trivial
    refine WP_iload_n dX11_pass_17 rfl ?_
    refine WP_iload_n dX11_pass_18 rfl ?_
    refine WP_icmp_ge 45 dX11_pass_19 rfl (fun c19 => ?_) (fun c19 => absurd c19 (by intro cc; (try simp only [hkt, hkt] at cc); (all_goals (try simp only [cmp_lt, cmp_gt] at cc)); (all_goals (try simp only [le32, lt32, eq32, t64, Int32.reduceToInt, Int64.reduceToInt] at cc)); (all_goals (try simp (disch := ((try simp (disch := ((try simp (disch := omega) only [ia, is', im, ja, js, ir, idv, Int32.reduceToInt, Int64.reduceToInt, t64]); omega)) only [ia, is', im, ja, js, ir, idv, Int32.reduceToInt, Int64.reduceToInt, t64]); omega)) only [ia, is', im, ja, js, ir, idv, Int32.reduceToInt, Int64.reduceToInt, t64] at cc)); (all_goals (try simp only [hkt, hkt] at cc)); (all_goals (try simp only [not_true_eq_false, eq_self] at cc)); all_goals omega))
    refine WP_aload_n dX11_pass_45 rfl ?_
    refine WP_getr dX11_pass_46 fX11_283 rfl (ly_is hy _ _ rfl) (rf hr 0 59 38 (by decide)) ?_
    refine WP_bipush (33) dX11_pass_49 rfl ?_
    refine WP_iald dX11_pass_51 (ly_is hy _ _ rfl) (ly_in hy _ _ rfl (by (try simp only [hkt, hkt] at c0 c19 ⊢); (all_goals (try simp only [cmp_lt, cmp_gt] at c0 c19 ⊢)); (all_goals (try simp only [le32, lt32, eq32, t64, vp_in_iff, Int32.reduceToInt, Int64.reduceToInt] at c0 c19 ⊢)); (all_goals (try simp (disch := ((try simp (disch := ((try simp (disch := omega) only [ia, is', im, ja, js, ir, idv, Int32.reduceToInt, Int64.reduceToInt, t64]); omega)) only [ia, is', im, ja, js, ir, idv, Int32.reduceToInt, Int64.reduceToInt, t64]); omega)) only [ia, is', im, ja, js, ir, idv, Int32.reduceToInt, Int64.reduceToInt, t64] at c0 c19 ⊢)); (all_goals (try simp only [hkt, hkt] at c0 c19 ⊢)); all_goals (first | (constructor <;> omega) | (exfalso; omega)))) ?_
    exact WP_iret dX11_pass_52 rfl (by unfold rq; exact congrArg (fun z => some (Value.int z)) ((hv.2).trans ((eq32 _ _).mpr (by rw [hkt]; omega))))
  | succ m ih =>
    intro k I2 J2 hk hv
    have har := rng a
    have hkt : (nI k).toInt = (k : Int) := nI_toInt (by omega)
    have c0 : True := trivial
    refine WP_iload_n dX11_pass_17 rfl ?_
    refine WP_iload_n dX11_pass_18 rfl ?_
    refine WP_icmp_ge 45 dX11_pass_19 rfl (fun c19 => absurd c19 (by intro cc; (try simp only [hkt, hkt] at cc); (all_goals (try simp only [cmp_lt, cmp_gt] at cc)); (all_goals (try simp only [le32, lt32, eq32, t64, Int32.reduceToInt, Int64.reduceToInt] at cc)); (all_goals (try simp (disch := ((try simp (disch := ((try simp (disch := omega) only [ia, is', im, ja, js, ir, idv, Int32.reduceToInt, Int64.reduceToInt, t64]); omega)) only [ia, is', im, ja, js, ir, idv, Int32.reduceToInt, Int64.reduceToInt, t64]); omega)) only [ia, is', im, ja, js, ir, idv, Int32.reduceToInt, Int64.reduceToInt, t64] at cc)); (all_goals (try simp only [hkt, hkt] at cc)); (all_goals (try simp only [not_true_eq_false, eq_self] at cc)); all_goals omega)) (fun c19 => ?_)
    refine WP_aload_n dX11_pass_22 rfl ?_
    refine WP_dup dX11_pass_23 rfl ?_
    refine WP_getl dX11_pass_24 fX11_346 rfl (ly_is hy _ _ rfl) ?_
    refine WP_aload_n dX11_pass_27 rfl ?_
    refine WP_aload_n dX11_pass_28 rfl ?_
    refine WP_getr dX11_pass_29 fX11_283 rfl (ly_is hy _ _ rfl) (rf hr 0 59 38 (by decide)) ?_
    refine WP_callV1d (k := 11) dX11_pass_32 ⟨⟨⟨by decide, by decide⟩, zX11_dayOf⟩, lX11_484, by decide, rfl, vX11_dayOf.1, vX11_dayOf.2⟩ (ly_is hy _ _ rfl) (s_dayOf hy hr hv.1 P_o_now rfl rfl (by decide)) (Nat.le_of_ble_eq_true rfl) ?_
    refine WP_ladd dX11_pass_35 ?_
    refine WP_putl dX11_pass_36 fX11_346 rfl rfl (ly_is hy _ _ rfl) ?_
    refine WP_iinc (ls' := [(0, _), (1, _), (2, _)]) dX11_pass_39 rfl (by decide) rfl ?_
    refine WP_goto 17 dX11_pass_42 rfl ?_
    refine WP_sub (ls' := [(0, .ref (ad g P_o)), (1, .int a), (2, .int (nI (k + 1)))]) (fc rfl (fc rfl (fc (by rw [← nI_1]; rfl) fn))) (ih (k + 1) _ _ (by omega) ?_)
    exact ⟨MC_pp hy hv.1 (by decide) (by decide) (Or.inl (by decide)), by rw [pp_self, hv.2, nI_1]⟩
set_option maxHeartbeats 4000000 in
set_option maxRecDepth 100000 in
theorem fr_pass {g : GG} {I : pI} {J : pJ} {R : pR} (hy : Ly g) (hr : Rf g R) (hf : MF g I J) (a : Int32) : SP g mX11_pass [.ref (ad g P_o), .int a] I J R (rq (if 0 ≤ a.toInt ∧ a.toInt ≤ 70 then a else -2)) := by
  refine SP_of ⟨by decide, rfl⟩ (Nat.le_of_ble_eq_true rfl) ?_
  have c0 : True := trivial
  obtain ⟨hmc, h_taped, h_fault, h_faultAt, h_clauses, h_turnsTold, h_held, h_now, h_kept⟩ := hf
  have hmc0 := hmc
  obtain ⟨h_sorts, h_things, h_chestSort, h_storedThing, h_rot⟩ := hmc
  refine WP_iload_n dX11_pass_0 rfl ?_
  refine WP_i2l dX11_pass_1 ?_
  refine WP_lconst (0) dX11_pass_2 rfl ?_
  refine WP_ldc2 (70) dX11_pass_3 klX11_482 ?_
  refine WP_callS3p dX11_pass_6 ⟨⟨⟨by decide, by decide⟩, zX11_in⟩, lX11_52, tX11_in⟩ (s_in _ _ _) (Nat.le_of_ble_eq_true rfl) ?_
  refine WP_ifb_ne 15 dX11_pass_9 rfl (fun c9 => ?_) (fun c9 => ?_)
  · refine WP_iconst (0) dX11_pass_15 rfl ?_
    refine WP_istore_n (ls' := [(0, _), (1, _), (2, _)]) dX11_pass_16 (by decide) rfl ?_
    rw [if_pos (by simp only [t64, Int64.reduceToInt] at c9; omega)]
    refine WP_sub (ls' := [(0, .ref (ad g P_o)), (1, .int a), (2, .int (nI 0))]) (fc rfl (fc rfl (fc rfl fn))) (l_pass (I := I) (J := J) hy hr a a.toInt.toNat (by simp only [t64, Int64.reduceToInt] at c9; omega) a.toInt.toNat 0 _ _ (by omega) ?_)
    exact ⟨hmc0, h_now 33 (by decide)⟩
  · refine WP_bipush (-2) dX11_pass_12 rfl ?_
    exact WP_iret dX11_pass_14 rfl (by unfold rq; (try simp only [h_taped, h_fault, h_faultAt, h_clauses, h_turnsTold, h_held, h_sorts, h_things, h_chestSort, h_storedThing, h_rot] at c0 c9 ⊢); (all_goals (try simp only [cmp_lt, cmp_gt] at c0 c9 ⊢)); (all_goals (try simp only [le32, lt32, eq32, t64, vp_in_iff, Int32.reduceToInt, Int64.reduceToInt] at c0 c9)); (all_goals (try simp (disch := ((try simp (disch := ((try simp (disch := omega) only [ia, is', im, ja, js, ir, idv, Int32.reduceToInt, Int64.reduceToInt, t64]); omega)) only [ia, is', im, ja, js, ir, idv, Int32.reduceToInt, Int64.reduceToInt, t64]); omega)) only [ia, is', im, ja, js, ir, idv, Int32.reduceToInt, Int64.reduceToInt, t64] at c0 c9 ⊢)); (all_goals (try simp only [h_taped, h_fault, h_faultAt, h_clauses, h_turnsTold, h_held, h_sorts, h_things, h_chestSort, h_storedThing, h_rot] at c0 c9 ⊢)); (all_goals (first | rfl | (rw [if_pos (by omega)]; done) | (rw [if_neg (by omega)]; done) | (rw [if_neg (by omega), if_pos (by omega)]; done) | (rw [if_neg (by omega), if_neg (by omega)]; done) | (exfalso; omega))))
set_option maxHeartbeats 4000000 in
set_option maxRecDepth 100000 in
theorem fr_anew {g : GG} {I : pI} {J : pJ} {R : pR} (hy : Ly g) (hr : Rf g R) (hf : MF g I J)  : SP g mX11_anew [.ref (ad g P_o)] I J R (rq 0) := by
  refine SP_of ⟨by decide, rfl⟩ (Nat.le_of_ble_eq_true rfl) ?_
  have c0 : True := trivial
  obtain ⟨hmc, h_taped, h_fault, h_faultAt, h_clauses, h_turnsTold, h_held, h_now, h_kept⟩ := hf
  have hmc0 := hmc
  obtain ⟨h_sorts, h_things, h_chestSort, h_storedThing, h_rot⟩ := hmc
  refine WP_aload_n dX11_anew_0 rfl ?_
  refine WP_getr dX11_anew_1 fX11_283 rfl (ly_is hy _ _ rfl) (rf hr 0 59 38 (by decide)) ?_
  refine WP_bipush (33) dX11_anew_4 rfl ?_
  refine WP_iald dX11_anew_6 (ly_is hy _ _ rfl) (ly_in hy _ _ rfl (by (try simp only [h_taped, h_fault, h_faultAt, h_clauses, h_turnsTold, h_held, h_sorts, h_things, h_chestSort, h_storedThing, h_rot] at c0 ⊢); (all_goals (try simp only [cmp_lt, cmp_gt] at c0 ⊢)); (all_goals (try simp only [le32, lt32, eq32, t64, vp_in_iff, Int32.reduceToInt, Int64.reduceToInt] at c0 ⊢)); (all_goals (try simp (disch := ((try simp (disch := ((try simp (disch := omega) only [ia, is', im, ja, js, ir, idv, Int32.reduceToInt, Int64.reduceToInt, t64]); omega)) only [ia, is', im, ja, js, ir, idv, Int32.reduceToInt, Int64.reduceToInt, t64]); omega)) only [ia, is', im, ja, js, ir, idv, Int32.reduceToInt, Int64.reduceToInt, t64] at c0 ⊢)); (all_goals (try simp only [h_taped, h_fault, h_faultAt, h_clauses, h_turnsTold, h_held, h_sorts, h_things, h_chestSort, h_storedThing, h_rot] at c0 ⊢)); all_goals (first | (constructor <;> omega) | (exfalso; omega)))) ?_
  refine WP_istore_n (ls' := [(0, _), (1, _)]) dX11_anew_7 (by decide) rfl ?_
  refine WP_aload_n dX11_anew_8 rfl ?_
  refine WP_aload_n dX11_anew_9 rfl ?_
  refine WP_getr dX11_anew_10 fX11_283 rfl (ly_is hy _ _ rfl) (rf hr 0 59 38 (by decide)) ?_
  refine WP_callV1 (k := 11) dX11_anew_13 ⟨⟨⟨by decide, by decide⟩, zX11_begin⟩, lX11_342, by decide, rfl, vX11_begin.1, vX11_begin.2⟩ (ly_is hy _ _ rfl) (s_begin hy hr h_sorts P_o_now rfl rfl (by decide)) (Nat.le_of_ble_eq_true rfl) ?_
  rintro r I3 J3 R3 ⟨rfl, hx3, eJ, eR⟩
  rw [eJ, eR]
  simp only [Option.toList, List.cons_append, List.nil_append]
  refine WP_aload_n dX11_anew_16 rfl ?_
  refine WP_lconst (0) dX11_anew_17 rfl ?_
  refine WP_putl dX11_anew_18 fX11_346 rfl rfl (ly_is hy _ _ rfl) ?_
  refine WP_iload_n dX11_anew_21 rfl ?_
  exact WP_iret dX11_anew_22 rfl (by unfold rq; rw [h_now _ (by decide)])
set_option maxHeartbeats 4000000 in
set_option maxRecDepth 100000 in
theorem l_keep {g : GG} {I : pI} {J : pJ} {R : pR} (hy : Ly g) (hr : Rf g R) (a : Int32) (ha : 0 ≤ a.toInt ∧ a.toInt ≤ 2) (hz : I (ad g P_o_now) 33 = 0) : ∀ (m k : Nat) (I2 : pI), k + m = 35 → fx g [P_o_kept] I I2 → WP g mX11_keep 12 [(0, .ref (ad g P_o)), (1, .int a), (2, .int (nI k))] [] I2 J R (rq 0) := by
  intro m
  induction m with
  | zero =>
    intro k I2 hk hv
    have hkt : (nI k).toInt = (k : Int) := nI_toInt (by omega)
    have c0 : True := trivial
    refine WP_iload_n dX11_keep_12 rfl ?_
    refine WP_bipush (35) dX11_keep_13 rfl ?_
    refine WP_icmp_ge 41 dX11_keep_15 rfl (fun c15 => ?_) (fun c15 => absurd c15 (by intro cc; (try simp only [hkt, hkt] at cc); (all_goals (try simp only [cmp_lt, cmp_gt] at cc)); (all_goals (try simp only [le32, lt32, eq32, t64, Int32.reduceToInt, Int64.reduceToInt] at cc)); (all_goals (try simp (disch := ((try simp (disch := ((try simp (disch := omega) only [ia, is', im, ja, js, ir, idv, Int32.reduceToInt, Int64.reduceToInt, t64]); omega)) only [ia, is', im, ja, js, ir, idv, Int32.reduceToInt, Int64.reduceToInt, t64]); omega)) only [ia, is', im, ja, js, ir, idv, Int32.reduceToInt, Int64.reduceToInt, t64] at cc)); (all_goals (try simp only [hkt, hkt] at cc)); (all_goals (try simp only [not_true_eq_false, eq_self] at cc)); all_goals omega))
    refine WP_aload_n dX11_keep_41 rfl ?_
    refine WP_getr dX11_keep_42 fX11_298 rfl (ly_is hy _ _ rfl) (rf hr 0 66 43 (by decide)) ?_
    refine WP_iload_n dX11_keep_45 rfl ?_
    refine WP_aload_n dX11_keep_46 rfl ?_
    refine WP_getl dX11_keep_47 fX11_346 rfl (ly_is hy _ _ rfl) ?_
    refine WP_last dX11_keep_50 (ly_is hy _ _ rfl) (ly_in hy _ _ rfl (by (try simp only [hkt, hkt] at c0 c15 ⊢); (all_goals (try simp only [cmp_lt, cmp_gt] at c0 c15 ⊢)); (all_goals (try simp only [le32, lt32, eq32, t64, vp_in_iff, Int32.reduceToInt, Int64.reduceToInt] at c0 c15 ⊢)); (all_goals (try simp (disch := ((try simp (disch := ((try simp (disch := omega) only [ia, is', im, ja, js, ir, idv, Int32.reduceToInt, Int64.reduceToInt, t64]); omega)) only [ia, is', im, ja, js, ir, idv, Int32.reduceToInt, Int64.reduceToInt, t64]); omega)) only [ia, is', im, ja, js, ir, idv, Int32.reduceToInt, Int64.reduceToInt, t64] at c0 c15 ⊢)); (all_goals (try simp only [hkt, hkt] at c0 c15 ⊢)); all_goals (first | (constructor <;> omega) | (exfalso; omega)))) ?_
    refine WP_aload_n dX11_keep_51 rfl ?_
    refine WP_getr dX11_keep_52 fX11_301 rfl (ly_is hy _ _ rfl) (rf hr 0 67 44 (by decide)) ?_
    refine WP_iload_n dX11_keep_55 rfl ?_
    refine WP_iconst (1) dX11_keep_56 rfl ?_
    refine WP_zast dX11_keep_57 (ly_is hy _ _ rfl) (ly_in hy _ _ rfl (by (try simp only [hkt, hkt] at c0 c15 ⊢); (all_goals (try simp only [cmp_lt, cmp_gt] at c0 c15 ⊢)); (all_goals (try simp only [le32, lt32, eq32, t64, vp_in_iff, Int32.reduceToInt, Int64.reduceToInt] at c0 c15 ⊢)); (all_goals (try simp (disch := ((try simp (disch := ((try simp (disch := omega) only [ia, is', im, ja, js, ir, idv, Int32.reduceToInt, Int64.reduceToInt, t64]); omega)) only [ia, is', im, ja, js, ir, idv, Int32.reduceToInt, Int64.reduceToInt, t64]); omega)) only [ia, is', im, ja, js, ir, idv, Int32.reduceToInt, Int64.reduceToInt, t64] at c0 c15 ⊢)); (all_goals (try simp only [hkt, hkt] at c0 c15 ⊢)); all_goals (first | (constructor <;> omega) | (exfalso; omega)))) ?_
    refine WP_aload_n dX11_keep_58 rfl ?_
    refine WP_getr dX11_keep_59 fX11_283 rfl (ly_is hy _ _ rfl) (rf hr 0 59 38 (by decide)) ?_
    refine WP_bipush (33) dX11_keep_62 rfl ?_
    refine WP_iald dX11_keep_64 (ly_is hy _ _ rfl) (ly_in hy _ _ rfl (by (try simp only [hkt, hkt] at c0 c15 ⊢); (all_goals (try simp only [cmp_lt, cmp_gt] at c0 c15 ⊢)); (all_goals (try simp only [le32, lt32, eq32, t64, vp_in_iff, Int32.reduceToInt, Int64.reduceToInt] at c0 c15 ⊢)); (all_goals (try simp (disch := ((try simp (disch := ((try simp (disch := omega) only [ia, is', im, ja, js, ir, idv, Int32.reduceToInt, Int64.reduceToInt, t64]); omega)) only [ia, is', im, ja, js, ir, idv, Int32.reduceToInt, Int64.reduceToInt, t64]); omega)) only [ia, is', im, ja, js, ir, idv, Int32.reduceToInt, Int64.reduceToInt, t64] at c0 c15 ⊢)); (all_goals (try simp only [hkt, hkt] at c0 c15 ⊢)); all_goals (first | (constructor <;> omega) | (exfalso; omega)))) ?_
    exact WP_iret dX11_keep_65 rfl (by unfold rq; rw [pp_off _ _ (ly_ne hy (by decide) (by decide) (by decide)), hv P_o_now (by decide) (by decide)]; exact congrArg (fun z => some (Value.int z)) hz)
  | succ m ih =>
    intro k I2 hk hv
    have hkt : (nI k).toInt = (k : Int) := nI_toInt (by omega)
    have c0 : True := trivial
    refine WP_iload_n dX11_keep_12 rfl ?_
    refine WP_bipush (35) dX11_keep_13 rfl ?_
    refine WP_icmp_ge 41 dX11_keep_15 rfl (fun c15 => absurd c15 (by intro cc; (try simp only [hkt, hkt] at cc); (all_goals (try simp only [cmp_lt, cmp_gt] at cc)); (all_goals (try simp only [le32, lt32, eq32, t64, Int32.reduceToInt, Int64.reduceToInt] at cc)); (all_goals (try simp (disch := ((try simp (disch := ((try simp (disch := omega) only [ia, is', im, ja, js, ir, idv, Int32.reduceToInt, Int64.reduceToInt, t64]); omega)) only [ia, is', im, ja, js, ir, idv, Int32.reduceToInt, Int64.reduceToInt, t64]); omega)) only [ia, is', im, ja, js, ir, idv, Int32.reduceToInt, Int64.reduceToInt, t64] at cc)); (all_goals (try simp only [hkt, hkt] at cc)); (all_goals (try simp only [not_true_eq_false, eq_self] at cc)); all_goals omega)) (fun c15 => ?_)
    refine WP_aload_n dX11_keep_18 rfl ?_
    refine WP_getr dX11_keep_19 fX11_295 rfl (ly_is hy _ _ rfl) (rf hr 0 65 42 (by decide)) ?_
    refine WP_bipush (35) dX11_keep_22 rfl ?_
    refine WP_iload_n dX11_keep_24 rfl ?_
    refine WP_imul dX11_keep_25 ?_
    refine WP_iload_n dX11_keep_26 rfl ?_
    refine WP_iadd dX11_keep_27 ?_
    refine WP_aload_n dX11_keep_28 rfl ?_
    refine WP_getr dX11_keep_29 fX11_283 rfl (ly_is hy _ _ rfl) (rf hr 0 59 38 (by decide)) ?_
    refine WP_iload_n dX11_keep_32 rfl ?_
    refine WP_iald dX11_keep_33 (ly_is hy _ _ rfl) (ly_in hy _ _ rfl (by (try simp only [hkt, hkt] at c0 c15 ⊢); (all_goals (try simp only [cmp_lt, cmp_gt] at c0 c15 ⊢)); (all_goals (try simp only [le32, lt32, eq32, t64, vp_in_iff, Int32.reduceToInt, Int64.reduceToInt] at c0 c15 ⊢)); (all_goals (try simp (disch := ((try simp (disch := ((try simp (disch := omega) only [ia, is', im, ja, js, ir, idv, Int32.reduceToInt, Int64.reduceToInt, t64]); omega)) only [ia, is', im, ja, js, ir, idv, Int32.reduceToInt, Int64.reduceToInt, t64]); omega)) only [ia, is', im, ja, js, ir, idv, Int32.reduceToInt, Int64.reduceToInt, t64] at c0 c15 ⊢)); (all_goals (try simp only [hkt, hkt] at c0 c15 ⊢)); all_goals (first | (constructor <;> omega) | (exfalso; omega)))) ?_
    refine WP_iast dX11_keep_34 (ly_is hy _ _ rfl) (ly_in hy _ _ rfl (by (try simp only [hkt, hkt] at c0 c15 ⊢); (all_goals (try simp only [cmp_lt, cmp_gt] at c0 c15 ⊢)); (all_goals (try simp only [le32, lt32, eq32, t64, vp_in_iff, Int32.reduceToInt, Int64.reduceToInt] at c0 c15 ⊢)); (all_goals (try simp (disch := ((try simp (disch := ((try simp (disch := omega) only [ia, is', im, ja, js, ir, idv, Int32.reduceToInt, Int64.reduceToInt, t64]); omega)) only [ia, is', im, ja, js, ir, idv, Int32.reduceToInt, Int64.reduceToInt, t64]); omega)) only [ia, is', im, ja, js, ir, idv, Int32.reduceToInt, Int64.reduceToInt, t64] at c0 c15 ⊢)); (all_goals (try simp only [hkt, hkt] at c0 c15 ⊢)); all_goals (first | (constructor <;> omega) | (exfalso; omega)))) ?_
    refine WP_iinc (ls' := [(0, _), (1, _), (2, _)]) dX11_keep_35 rfl (by decide) rfl ?_
    refine WP_goto 12 dX11_keep_38 rfl ?_
    refine WP_sub (ls' := [(0, .ref (ad g P_o)), (1, .int a), (2, .int (nI (k + 1)))]) (fc rfl (fc rfl (fc (by rw [← nI_1]; rfl) fn))) (ih (k + 1) _ (by omega) ?_)
    exact fx_pp hy hv (by decide) (by decide)
set_option maxHeartbeats 4000000 in
set_option maxRecDepth 100000 in
theorem fr_keep {g : GG} {I : pI} {J : pJ} {R : pR} (hy : Ly g) (hr : Rf g R) (hf : MF g I J) (a : Int32) : SP g mX11_keep [.ref (ad g P_o), .int a] I J R (rq (if 0 ≤ a.toInt ∧ a.toInt ≤ 2 then 0 else -2)) := by
  refine SP_of ⟨by decide, rfl⟩ (Nat.le_of_ble_eq_true rfl) ?_
  have c0 : True := trivial
  obtain ⟨hmc, h_taped, h_fault, h_faultAt, h_clauses, h_turnsTold, h_held, h_now, h_kept⟩ := hf
  have hmc0 := hmc
  obtain ⟨h_sorts, h_things, h_chestSort, h_storedThing, h_rot⟩ := hmc
  refine WP_iload_n dX11_keep_0 rfl ?_
  refine WP_callS1p dX11_keep_1 ⟨⟨⟨by decide, by decide⟩, zX11_isSlot⟩, lX11_494, tX11_isSlot⟩ (s_isSlot _) (Nat.le_of_ble_eq_true rfl) ?_
  refine WP_ifb_ne 10 dX11_keep_4 rfl (fun c4 => ?_) (fun c4 => ?_)
  · refine WP_iconst (0) dX11_keep_10 rfl ?_
    refine WP_istore_n (ls' := [(0, _), (1, _), (2, _)]) dX11_keep_11 (by decide) rfl ?_
    rw [if_pos c4]
    refine WP_sub (ls' := [(0, .ref (ad g P_o)), (1, .int a), (2, .int (nI 0))]) (fc rfl (fc rfl (fc rfl fn))) (l_keep (I := I) (J := J) hy hr a c4 (h_now 33 (by decide)) 35 0 _ (by omega) ?_)
    exact fx_rf
  · refine WP_bipush (-2) dX11_keep_7 rfl ?_
    exact WP_iret dX11_keep_9 rfl (by unfold rq; (try simp only [h_taped, h_fault, h_faultAt, h_clauses, h_turnsTold, h_held, h_sorts, h_things, h_chestSort, h_storedThing, h_rot] at c0 c4 ⊢); (all_goals (try simp only [cmp_lt, cmp_gt] at c0 c4 ⊢)); (all_goals (try simp only [le32, lt32, eq32, t64, vp_in_iff, Int32.reduceToInt, Int64.reduceToInt] at c0 c4)); (all_goals (try simp (disch := ((try simp (disch := ((try simp (disch := omega) only [ia, is', im, ja, js, ir, idv, Int32.reduceToInt, Int64.reduceToInt, t64]); omega)) only [ia, is', im, ja, js, ir, idv, Int32.reduceToInt, Int64.reduceToInt, t64]); omega)) only [ia, is', im, ja, js, ir, idv, Int32.reduceToInt, Int64.reduceToInt, t64] at c0 c4 ⊢)); (all_goals (try simp only [h_taped, h_fault, h_faultAt, h_clauses, h_turnsTold, h_held, h_sorts, h_things, h_chestSort, h_storedThing, h_rot] at c0 c4 ⊢)); (all_goals (first | rfl | (rw [if_pos (by omega)]; done) | (rw [if_neg (by omega)]; done) | (rw [if_neg (by omega), if_pos (by omega)]; done) | (rw [if_neg (by omega), if_neg (by omega)]; done) | (exfalso; omega))))
set_option maxHeartbeats 4000000 in
set_option maxRecDepth 100000 in
theorem fr_take {g : GG} {I : pI} {J : pJ} {R : pR} (hy : Ly g) (hr : Rf g R) (hf : MF g I J) (a : Int32) : SP g mX11_take [.ref (ad g P_o), .int a] I J R (rq (if 0 ≤ a.toInt ∧ a.toInt ≤ 2 then -4 else -2)) := by
  refine SP_of ⟨by decide, rfl⟩ (Nat.le_of_ble_eq_true rfl) ?_
  have c0 : True := trivial
  obtain ⟨hmc, h_taped, h_fault, h_faultAt, h_clauses, h_turnsTold, h_held, h_now, h_kept⟩ := hf
  have hmc0 := hmc
  obtain ⟨h_sorts, h_things, h_chestSort, h_storedThing, h_rot⟩ := hmc
  refine WP_iload_n dX11_take_0 rfl ?_
  refine WP_callS1p dX11_take_1 ⟨⟨⟨by decide, by decide⟩, zX11_isSlot⟩, lX11_494, tX11_isSlot⟩ (s_isSlot _) (Nat.le_of_ble_eq_true rfl) ?_
  refine WP_ifb_ne 10 dX11_take_4 rfl (fun c4 => ?_) (fun c4 => ?_)
  · refine WP_aload_n dX11_take_10 rfl ?_
    refine WP_getr dX11_take_11 fX11_301 rfl (ly_is hy _ _ rfl) (rf hr 0 67 44 (by decide)) ?_
    refine WP_iload_n dX11_take_14 rfl ?_
    refine WP_zald dX11_take_15 (ly_is hy _ _ rfl) (ly_in hy _ _ rfl (by (try simp only [h_taped, h_fault, h_faultAt, h_clauses, h_turnsTold, h_held, h_sorts, h_things, h_chestSort, h_storedThing, h_rot] at c0 c4 ⊢); (all_goals (try simp only [cmp_lt, cmp_gt] at c0 c4 ⊢)); (all_goals (try simp only [le32, lt32, eq32, t64, vp_in_iff, Int32.reduceToInt, Int64.reduceToInt] at c0 c4 ⊢)); (all_goals (try simp (disch := ((try simp (disch := ((try simp (disch := omega) only [ia, is', im, ja, js, ir, idv, Int32.reduceToInt, Int64.reduceToInt, t64]); omega)) only [ia, is', im, ja, js, ir, idv, Int32.reduceToInt, Int64.reduceToInt, t64]); omega)) only [ia, is', im, ja, js, ir, idv, Int32.reduceToInt, Int64.reduceToInt, t64] at c0 c4 ⊢)); (all_goals (try simp only [h_taped, h_fault, h_faultAt, h_clauses, h_turnsTold, h_held, h_sorts, h_things, h_chestSort, h_storedThing, h_rot] at c0 c4 ⊢)); all_goals (first | (constructor <;> omega) | (exfalso; omega)))) ?_
    refine WP_if_ne 22 dX11_take_16 rfl (fun c16 => absurd c16 (by intro cc; exact cc (h_kept _))) (fun c16 => ?_)
    refine WP_bipush (-4) dX11_take_19 rfl ?_
    exact WP_iret dX11_take_21 rfl (by unfold rq; (try simp only [h_taped, h_fault, h_faultAt, h_clauses, h_turnsTold, h_held, h_sorts, h_things, h_chestSort, h_storedThing, h_rot] at c0 c4 c16 ⊢); (all_goals (try simp only [cmp_lt, cmp_gt] at c0 c4 c16 ⊢)); (all_goals (try simp only [le32, lt32, eq32, t64, vp_in_iff, Int32.reduceToInt, Int64.reduceToInt] at c0 c4 c16)); (all_goals (try simp (disch := ((try simp (disch := ((try simp (disch := omega) only [ia, is', im, ja, js, ir, idv, Int32.reduceToInt, Int64.reduceToInt, t64]); omega)) only [ia, is', im, ja, js, ir, idv, Int32.reduceToInt, Int64.reduceToInt, t64]); omega)) only [ia, is', im, ja, js, ir, idv, Int32.reduceToInt, Int64.reduceToInt, t64] at c0 c4 c16 ⊢)); (all_goals (try simp only [h_taped, h_fault, h_faultAt, h_clauses, h_turnsTold, h_held, h_sorts, h_things, h_chestSort, h_storedThing, h_rot] at c0 c4 c16 ⊢)); (all_goals (first | rfl | (rw [if_pos (by omega)]; done) | (rw [if_neg (by omega)]; done) | (rw [if_neg (by omega), if_pos (by omega)]; done) | (rw [if_neg (by omega), if_neg (by omega)]; done) | (exfalso; omega))))
  · refine WP_bipush (-2) dX11_take_7 rfl ?_
    exact WP_iret dX11_take_9 rfl (by unfold rq; (try simp only [h_taped, h_fault, h_faultAt, h_clauses, h_turnsTold, h_held, h_sorts, h_things, h_chestSort, h_storedThing, h_rot] at c0 c4 ⊢); (all_goals (try simp only [cmp_lt, cmp_gt] at c0 c4 ⊢)); (all_goals (try simp only [le32, lt32, eq32, t64, vp_in_iff, Int32.reduceToInt, Int64.reduceToInt] at c0 c4)); (all_goals (try simp (disch := ((try simp (disch := ((try simp (disch := omega) only [ia, is', im, ja, js, ir, idv, Int32.reduceToInt, Int64.reduceToInt, t64]); omega)) only [ia, is', im, ja, js, ir, idv, Int32.reduceToInt, Int64.reduceToInt, t64]); omega)) only [ia, is', im, ja, js, ir, idv, Int32.reduceToInt, Int64.reduceToInt, t64] at c0 c4 ⊢)); (all_goals (try simp only [h_taped, h_fault, h_faultAt, h_clauses, h_turnsTold, h_held, h_sorts, h_things, h_chestSort, h_storedThing, h_rot] at c0 c4 ⊢)); (all_goals (first | rfl | (rw [if_pos (by omega)]; done) | (rw [if_neg (by omega)]; done) | (rw [if_neg (by omega), if_pos (by omega)]; done) | (rw [if_neg (by omega), if_neg (by omega)]; done) | (exfalso; omega))))
