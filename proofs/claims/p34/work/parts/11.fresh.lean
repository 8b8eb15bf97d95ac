/-- what the reference holds when it is new -/
def MC (g : GG) (I : pI) : Prop := I (ad g P_o) 10 = 0 ∧ I (ad g P_o) 11 = 0 ∧ I (ad g P_o) 13 = (-1) ∧ I (ad g P_o) 14 = (-1) ∧ ∀ q, I (ad g P_o_rot) q = 0
def MF (g : GG) (I : pI) (J : pJ) : Prop := MC g I ∧ I (ad g P_o) 1 = 0 ∧ I (ad g P_o) 8 = 0 ∧ I (ad g P_o) 9 = (-1) ∧ I (ad g P_o) 12 = 0 ∧ I (ad g P_o) 68 = (-1) ∧ J (ad g P_o) 61 = 0 ∧ (∀ q, q < 28 ∨ 32 ≤ q → I (ad g P_o_now) q = 0) ∧ (∀ q, I (ad g P_o_isKept) q = 0)
theorem MC_pp {g : GG} (hy : Ly g) {I : pI} (h : MC g I) {i q : Nat} {v : Int32} (hi : i < 49) (h1 : i ≠ P_o_rot) (h2 : i ≠ P_o ∨ (q ≠ 10 ∧ q ≠ 11 ∧ q ≠ 13 ∧ q ≠ 14)) : MC g (pp I (ad g i) q v) := by
  obtain ⟨a1, a2, a3, a4, a5⟩ := h
  have ho : ∀ z, (z = 10 ∨ z = 11 ∨ z = 13 ∨ z = 14) → pp I (ad g i) q v (ad g P_o) z = I (ad g P_o) z := by
    intro z hz
    apply pp_ne
    rcases h2 with h | h
    · exact Or.inl (ly_ne hy (Ne.symm h) (by decide) hi)
    · exact Or.inr (by omega)
  refine ⟨?_, ?_, ?_, ?_, fun z => ?_⟩
  · rw [ho 10 (by omega), a1]
  · rw [ho 11 (by omega), a2]
  · rw [ho 13 (by omega), a3]
  · rw [ho 14 (by omega), a4]
  · rw [pp_off _ _ (ly_ne hy (Ne.symm h1) (by decide) hi), a5]
/-- the answer alone -/
def rq (v : Int32) : Post := fun r _ _ _ => r = some (.int v)
set_option maxHeartbeats 4000000 in
set_option maxRecDepth 100000 in
theorem fr_restTurns {g : GG} {I : pI} {J : pJ} {R : pR} (hy : Ly g) (hr : Rf g R) (hf : MF g I J)  : SP g mX11_restTurns [.ref (ad g P_o)] I J R (rq (-1)) := by
  refine SP_of ⟨by decide, rfl⟩ (Nat.le_of_ble_eq_true rfl) ?_
  have hf0 := hf
  obtain ⟨hmc, h_taped, h_fault, h_faultAt, h_clauses, h_turnsTold, h_held, h_now, h_kept⟩ := hf
  have hmc0 := hmc
  obtain ⟨h_sorts, h_things, h_chestSort, h_storedThing, h_rot⟩ := hmc
  have c0 : True := trivial
  refine WP_aload_n dX11_restTurns_0 rfl ?_
  refine WP_geti dX11_restTurns_1 fX11_304 rfl (ly_is hy _ _ rfl) ?_
  exact WP_iret dX11_restTurns_4 rfl (by unfold rq; (try simp only [h_taped, h_fault, h_faultAt, h_clauses, h_turnsTold, h_held, h_sorts, h_things, h_chestSort, h_storedThing, h_rot] at c0 ⊢); (all_goals (try simp only [cmp_lt, cmp_gt] at c0 ⊢)); (all_goals (try simp only [le32, lt32, eq32, t64, vp_in_iff, Int32.reduceToInt, Int64.reduceToInt] at c0)); (all_goals (try simp (disch := ((try simp (disch := ((try simp (disch := omega) only [ia, is', im, ja, js, ir, idv, Int32.reduceToInt, Int64.reduceToInt, t64]); omega)) only [ia, is', im, ja, js, ir, idv, Int32.reduceToInt, Int64.reduceToInt, t64]); omega)) only [ia, is', im, ja, js, ir, idv, Int32.reduceToInt, Int64.reduceToInt, t64] at c0 ⊢)); (all_goals (first | rfl | (rw [if_pos (by omega)]; done) | (rw [if_neg (by omega)]; done) | (rw [if_neg (by omega), if_pos (by omega)]; done) | (rw [if_neg (by omega), if_neg (by omega)]; done) | (exfalso; omega))))
set_option maxHeartbeats 4000000 in
set_option maxRecDepth 100000 in
theorem fr_count {g : GG} {I : pI} {J : pJ} {R : pR} (hy : Ly g) (hr : Rf g R) (hf : MF g I J) (a : Int32) : SP g mX11_count [.ref (ad g P_o), .int a] I J R (rq (if a.toInt = 0 ∨ a.toInt = 1 then 0 else -1)) := by
  refine SP_of ⟨by decide, rfl⟩ (Nat.le_of_ble_eq_true rfl) ?_
  have hf0 := hf
  obtain ⟨hmc, h_taped, h_fault, h_faultAt, h_clauses, h_turnsTold, h_held, h_now, h_kept⟩ := hf
  have hmc0 := hmc
  obtain ⟨h_sorts, h_things, h_chestSort, h_storedThing, h_rot⟩ := hmc
  have c0 : True := trivial
  refine WP_iload_n dX11_count_0 rfl ?_
  refine WP_if_ne 11 dX11_count_1 rfl (fun c1 => ?_) (fun c1 => ?_)
  · refine WP_iload_n dX11_count_11 rfl ?_
    refine WP_iconst (1) dX11_count_12 rfl ?_
    refine WP_icmp_ne 23 dX11_count_13 rfl (fun c13 => ?_) (fun c13 => ?_)
    · refine WP_iconst (-1) dX11_count_23 rfl ?_
      exact WP_iret dX11_count_24 rfl (by unfold rq; (try simp only [h_taped, h_fault, h_faultAt, h_clauses, h_turnsTold, h_held, h_sorts, h_things, h_chestSort, h_storedThing, h_rot] at c0 c1 c13 ⊢); (all_goals (try simp only [cmp_lt, cmp_gt] at c0 c1 c13 ⊢)); (all_goals (try simp only [le32, lt32, eq32, t64, vp_in_iff, Int32.reduceToInt, Int64.reduceToInt] at c0 c1 c13)); (all_goals (try simp (disch := ((try simp (disch := ((try simp (disch := omega) only [ia, is', im, ja, js, ir, idv, Int32.reduceToInt, Int64.reduceToInt, t64]); omega)) only [ia, is', im, ja, js, ir, idv, Int32.reduceToInt, Int64.reduceToInt, t64]); omega)) only [ia, is', im, ja, js, ir, idv, Int32.reduceToInt, Int64.reduceToInt, t64] at c0 c1 c13 ⊢)); (all_goals (first | rfl | (rw [if_pos (by omega)]; done) | (rw [if_neg (by omega)]; done) | (rw [if_neg (by omega), if_pos (by omega)]; done) | (rw [if_neg (by omega), if_neg (by omega)]; done) | (exfalso; omega))))
    · refine WP_aload_n dX11_count_16 rfl ?_
      refine WP_geti dX11_count_17 fX11_75 rfl (ly_is hy _ _ rfl) ?_
      refine WP_goto 24 dX11_count_20 rfl ?_
      exact WP_iret dX11_count_24 rfl (by unfold rq; (try simp only [h_taped, h_fault, h_faultAt, h_clauses, h_turnsTold, h_held, h_sorts, h_things, h_chestSort, h_storedThing, h_rot] at c0 c1 c13 ⊢); (all_goals (try simp only [cmp_lt, cmp_gt] at c0 c1 c13 ⊢)); (all_goals (try simp only [le32, lt32, eq32, t64, vp_in_iff, Int32.reduceToInt, Int64.reduceToInt] at c0 c1 c13)); (all_goals (try simp (disch := ((try simp (disch := ((try simp (disch := omega) only [ia, is', im, ja, js, ir, idv, Int32.reduceToInt, Int64.reduceToInt, t64]); omega)) only [ia, is', im, ja, js, ir, idv, Int32.reduceToInt, Int64.reduceToInt, t64]); omega)) only [ia, is', im, ja, js, ir, idv, Int32.reduceToInt, Int64.reduceToInt, t64] at c0 c1 c13 ⊢)); (all_goals (first | rfl | (rw [if_pos (by omega)]; done) | (rw [if_neg (by omega)]; done) | (rw [if_neg (by omega), if_pos (by omega)]; done) | (rw [if_neg (by omega), if_neg (by omega)]; done) | (exfalso; omega))))
  · refine WP_aload_n dX11_count_4 rfl ?_
    refine WP_geti dX11_count_5 fX11_335 rfl (ly_is hy _ _ rfl) ?_
    refine WP_goto 24 dX11_count_8 rfl ?_
    exact WP_iret dX11_count_24 rfl (by unfold rq; (try simp only [h_taped, h_fault, h_faultAt, h_clauses, h_turnsTold, h_held, h_sorts, h_things, h_chestSort, h_storedThing, h_rot] at c0 c1 ⊢); (all_goals (try simp only [cmp_lt, cmp_gt] at c0 c1 ⊢)); (all_goals (try simp only [le32, lt32, eq32, t64, vp_in_iff, Int32.reduceToInt, Int64.reduceToInt] at c0 c1)); (all_goals (try simp (disch := ((try simp (disch := ((try simp (disch := omega) only [ia, is', im, ja, js, ir, idv, Int32.reduceToInt, Int64.reduceToInt, t64]); omega)) only [ia, is', im, ja, js, ir, idv, Int32.reduceToInt, Int64.reduceToInt, t64]); omega)) only [ia, is', im, ja, js, ir, idv, Int32.reduceToInt, Int64.reduceToInt, t64] at c0 c1 ⊢)); (all_goals (first | rfl | (rw [if_pos (by omega)]; done) | (rw [if_neg (by omega)]; done) | (rw [if_neg (by omega), if_pos (by omega)]; done) | (rw [if_neg (by omega), if_neg (by omega)]; done) | (exfalso; omega))))
set_option maxHeartbeats 4000000 in
set_option maxRecDepth 100000 in
theorem fr_fault {g : GG} {I : pI} {J : pJ} {R : pR} (hy : Ly g) (hr : Rf g R) (hf : MF g I J) (a : Int32) : SP g mX11_fault [.ref (ad g P_o), .int a] I J R (rq (if a.toInt = 0 then 0 else -1)) := by
  refine SP_of ⟨by decide, rfl⟩ (Nat.le_of_ble_eq_true rfl) ?_
  have hf0 := hf
  obtain ⟨hmc, h_taped, h_fault, h_faultAt, h_clauses, h_turnsTold, h_held, h_now, h_kept⟩ := hf
  have hmc0 := hmc
  obtain ⟨h_sorts, h_things, h_chestSort, h_storedThing, h_rot⟩ := hmc
  have c0 : True := trivial
  refine WP_iload_n dX11_fault_0 rfl ?_
  refine WP_if_ne 11 dX11_fault_1 rfl (fun c1 => ?_) (fun c1 => ?_)
  · refine WP_iload_n dX11_fault_11 rfl ?_
    refine WP_iconst (1) dX11_fault_12 rfl ?_
    refine WP_icmp_ne 23 dX11_fault_13 rfl (fun c13 => ?_) (fun c13 => ?_)
    · refine WP_iconst (-1) dX11_fault_23 rfl ?_
      exact WP_iret dX11_fault_24 rfl (by unfold rq; (try simp only [h_taped, h_fault, h_faultAt, h_clauses, h_turnsTold, h_held, h_sorts, h_things, h_chestSort, h_storedThing, h_rot] at c0 c1 c13 ⊢); (all_goals (try simp only [cmp_lt, cmp_gt] at c0 c1 c13 ⊢)); (all_goals (try simp only [le32, lt32, eq32, t64, vp_in_iff, Int32.reduceToInt, Int64.reduceToInt] at c0 c1 c13)); (all_goals (try simp (disch := ((try simp (disch := ((try simp (disch := omega) only [ia, is', im, ja, js, ir, idv, Int32.reduceToInt, Int64.reduceToInt, t64]); omega)) only [ia, is', im, ja, js, ir, idv, Int32.reduceToInt, Int64.reduceToInt, t64]); omega)) only [ia, is', im, ja, js, ir, idv, Int32.reduceToInt, Int64.reduceToInt, t64] at c0 c1 c13 ⊢)); (all_goals (first | rfl | (rw [if_pos (by omega)]; done) | (rw [if_neg (by omega)]; done) | (rw [if_neg (by omega), if_pos (by omega)]; done) | (rw [if_neg (by omega), if_neg (by omega)]; done) | (exfalso; omega))))
    · refine WP_aload_n dX11_fault_16 rfl ?_
      refine WP_geti dX11_fault_17 fX11_10 rfl (ly_is hy _ _ rfl) ?_
      refine WP_goto 24 dX11_fault_20 rfl ?_
      exact WP_iret dX11_fault_24 rfl (by unfold rq; (try simp only [h_taped, h_fault, h_faultAt, h_clauses, h_turnsTold, h_held, h_sorts, h_things, h_chestSort, h_storedThing, h_rot] at c0 c1 c13 ⊢); (all_goals (try simp only [cmp_lt, cmp_gt] at c0 c1 c13 ⊢)); (all_goals (try simp only [le32, lt32, eq32, t64, vp_in_iff, Int32.reduceToInt, Int64.reduceToInt] at c0 c1 c13)); (all_goals (try simp (disch := ((try simp (disch := ((try simp (disch := omega) only [ia, is', im, ja, js, ir, idv, Int32.reduceToInt, Int64.reduceToInt, t64]); omega)) only [ia, is', im, ja, js, ir, idv, Int32.reduceToInt, Int64.reduceToInt, t64]); omega)) only [ia, is', im, ja, js, ir, idv, Int32.reduceToInt, Int64.reduceToInt, t64] at c0 c1 c13 ⊢)); (all_goals (first | rfl | (rw [if_pos (by omega)]; done) | (rw [if_neg (by omega)]; done) | (rw [if_neg (by omega), if_pos (by omega)]; done) | (rw [if_neg (by omega), if_neg (by omega)]; done) | (exfalso; omega))))
  · refine WP_aload_n dX11_fault_4 rfl ?_
    refine WP_geti dX11_fault_5 fX11_3 rfl (ly_is hy _ _ rfl) ?_
    refine WP_goto 24 dX11_fault_8 rfl ?_
    exact WP_iret dX11_fault_24 rfl (by unfold rq; (try simp only [h_taped, h_fault, h_faultAt, h_clauses, h_turnsTold, h_held, h_sorts, h_things, h_chestSort, h_storedThing, h_rot] at c0 c1 ⊢); (all_goals (try simp only [cmp_lt, cmp_gt] at c0 c1 ⊢)); (all_goals (try simp only [le32, lt32, eq32, t64, vp_in_iff, Int32.reduceToInt, Int64.reduceToInt] at c0 c1)); (all_goals (try simp (disch := ((try simp (disch := ((try simp (disch := omega) only [ia, is', im, ja, js, ir, idv, Int32.reduceToInt, Int64.reduceToInt, t64]); omega)) only [ia, is', im, ja, js, ir, idv, Int32.reduceToInt, Int64.reduceToInt, t64]); omega)) only [ia, is', im, ja, js, ir, idv, Int32.reduceToInt, Int64.reduceToInt, t64] at c0 c1 ⊢)); (all_goals (first | rfl | (rw [if_pos (by omega)]; done) | (rw [if_neg (by omega)]; done) | (rw [if_neg (by omega), if_pos (by omega)]; done) | (rw [if_neg (by omega), if_neg (by omega)]; done) | (exfalso; omega))))
set_option maxHeartbeats 4000000 in
set_option maxRecDepth 100000 in
theorem fr_end {g : GG} {I : pI} {J : pJ} {R : pR} (hy : Ly g) (hr : Rf g R) (hf : MF g I J) (a : Int32) : SP g mX11_end [.ref (ad g P_o), .int a] I J R (rq (if a.toInt = 0 then 0 else -1)) := by
  refine SP_of ⟨by decide, rfl⟩ (Nat.le_of_ble_eq_true rfl) ?_
  have hf0 := hf
  obtain ⟨hmc, h_taped, h_fault, h_faultAt, h_clauses, h_turnsTold, h_held, h_now, h_kept⟩ := hf
  have hmc0 := hmc
  obtain ⟨h_sorts, h_things, h_chestSort, h_storedThing, h_rot⟩ := hmc
  have c0 : True := trivial
  refine WP_iload_n dX11_end_0 rfl ?_
  refine WP_i2l dX11_end_1 ?_
  refine WP_lconst (0) dX11_end_2 rfl ?_
  refine WP_aload_n dX11_end_3 rfl ?_
  refine WP_geti dX11_end_4 fX11_75 rfl (ly_is hy _ _ rfl) ?_
  refine WP_i2l dX11_end_7 ?_
  refine WP_callS3p dX11_end_8 ⟨⟨⟨by decide, by decide⟩, zX11_in⟩, lX11_52, tX11_in⟩ (s_in _ _ _) (Nat.le_of_ble_eq_true rfl) ?_
  refine WP_ifb_ne 16 dX11_end_11 rfl (fun c11 => ?_) (fun c11 => ?_)
  · refine WP_aload_n dX11_end_16 rfl ?_
    refine WP_iload_n dX11_end_17 rfl ?_
    refine WP_puti dX11_end_18 fX11_75 rfl rfl (ly_is hy _ _ rfl) ?_
    refine WP_iload_n dX11_end_21 rfl ?_
    exact WP_iret dX11_end_22 rfl (by have e : a = 0 := (eq32 _ _).mpr (by (try simp only [h_taped, h_fault, h_faultAt, h_clauses, h_turnsTold, h_held, h_sorts, h_things, h_chestSort, h_storedThing, h_rot] at c0 c11 ⊢); (all_goals (try simp only [le32, lt32, eq32, t64, vp_in_iff, Int32.reduceToInt, Int64.reduceToInt] at c0 c11 ⊢)); (all_goals (try simp (disch := ((try simp (disch := ((try simp (disch := omega) only [ia, is', im, ja, js, ir, idv, Int32.reduceToInt, Int64.reduceToInt, t64]); omega)) only [ia, is', im, ja, js, ir, idv, Int32.reduceToInt, Int64.reduceToInt, t64]); omega)) only [ia, is', im, ja, js, ir, idv, Int32.reduceToInt, Int64.reduceToInt, t64] at c0 c11 ⊢)); omega); subst e; rfl)
  · refine WP_iconst (-1) dX11_end_14 rfl ?_
    exact WP_iret dX11_end_15 rfl (by unfold rq; (try simp only [h_taped, h_fault, h_faultAt, h_clauses, h_turnsTold, h_held, h_sorts, h_things, h_chestSort, h_storedThing, h_rot] at c0 c11 ⊢); (all_goals (try simp only [cmp_lt, cmp_gt] at c0 c11 ⊢)); (all_goals (try simp only [le32, lt32, eq32, t64, vp_in_iff, Int32.reduceToInt, Int64.reduceToInt] at c0 c11)); (all_goals (try simp (disch := ((try simp (disch := ((try simp (disch := omega) only [ia, is', im, ja, js, ir, idv, Int32.reduceToInt, Int64.reduceToInt, t64]); omega)) only [ia, is', im, ja, js, ir, idv, Int32.reduceToInt, Int64.reduceToInt, t64]); omega)) only [ia, is', im, ja, js, ir, idv, Int32.reduceToInt, Int64.reduceToInt, t64] at c0 c11 ⊢)); (all_goals (first | rfl | (rw [if_pos (by omega)]; done) | (rw [if_neg (by omega)]; done) | (rw [if_neg (by omega), if_pos (by omega)]; done) | (rw [if_neg (by omega), if_neg (by omega)]; done) | (exfalso; omega))))
set_option maxHeartbeats 4000000 in
set_option maxRecDepth 100000 in
theorem fr_earns {g : GG} {I : pI} {J : pJ} {R : pR} (hy : Ly g) (hr : Rf g R) (hf : MF g I J) (a b : Int32) : SP g mX11_earns [.ref (ad g P_o), .int a, .int b] I J R (rq (-2)) := by
  refine SP_of ⟨by decide, rfl⟩ (Nat.le_of_ble_eq_true rfl) ?_
  have hf0 := hf
  obtain ⟨hmc, h_taped, h_fault, h_faultAt, h_clauses, h_turnsTold, h_held, h_now, h_kept⟩ := hf
  have hmc0 := hmc
  obtain ⟨h_sorts, h_things, h_chestSort, h_storedThing, h_rot⟩ := hmc
  have c0 : True := trivial
  refine WP_aload_n dX11_earns_0 rfl ?_
  refine WP_iload_n dX11_earns_1 rfl ?_
  refine WP_callV1p (k := 11) dX11_earns_2 ⟨⟨⟨by decide, by decide⟩, zX11_isSort⟩, lX11_367, by decide, rfl, vX11_isSort.1, vX11_isSort.2⟩ (ly_is hy _ _ rfl) (s_isSort hy hr _) (Nat.le_of_ble_eq_true rfl) ?_
  refine WP_ifb_eq 29 dX11_earns_5 rfl (fun c5 => ?_) (fun c5 => ?_)
  · refine WP_bipush (-2) dX11_earns_29 rfl ?_
    exact WP_iret dX11_earns_31 rfl (by unfold rq; (try simp only [h_taped, h_fault, h_faultAt, h_clauses, h_turnsTold, h_held, h_sorts, h_things, h_chestSort, h_storedThing, h_rot] at c0 c5 ⊢); (all_goals (try simp only [cmp_lt, cmp_gt] at c0 c5 ⊢)); (all_goals (try simp only [le32, lt32, eq32, t64, vp_in_iff, Int32.reduceToInt, Int64.reduceToInt] at c0 c5)); (all_goals (try simp (disch := ((try simp (disch := ((try simp (disch := omega) only [ia, is', im, ja, js, ir, idv, Int32.reduceToInt, Int64.reduceToInt, t64]); omega)) only [ia, is', im, ja, js, ir, idv, Int32.reduceToInt, Int64.reduceToInt, t64]); omega)) only [ia, is', im, ja, js, ir, idv, Int32.reduceToInt, Int64.reduceToInt, t64] at c0 c5 ⊢)); (all_goals (first | rfl | (rw [if_pos (by omega)]; done) | (rw [if_neg (by omega)]; done) | (rw [if_neg (by omega), if_pos (by omega)]; done) | (rw [if_neg (by omega), if_neg (by omega)]; done) | (exfalso; omega))))
  · refine WP_iload_n dX11_earns_8 rfl ?_
    refine WP_callS1p dX11_earns_9 ⟨⟨⟨by decide, by decide⟩, zX11_isDay⟩, lX11_370, tX11_isDay⟩ (s_isDay _) (Nat.le_of_ble_eq_true rfl) ?_
    refine WP_ifb_eq 29 dX11_earns_12 rfl (fun c12 => ?_) (fun c12 => ?_)
    · refine WP_bipush (-2) dX11_earns_29 rfl ?_
      exact WP_iret dX11_earns_31 rfl (by unfold rq; (try simp only [h_taped, h_fault, h_faultAt, h_clauses, h_turnsTold, h_held, h_sorts, h_things, h_chestSort, h_storedThing, h_rot] at c0 c5 c12 ⊢); (all_goals (try simp only [cmp_lt, cmp_gt] at c0 c5 c12 ⊢)); (all_goals (try simp only [le32, lt32, eq32, t64, vp_in_iff, Int32.reduceToInt, Int64.reduceToInt] at c0 c5 c12)); (all_goals (try simp (disch := ((try simp (disch := ((try simp (disch := omega) only [ia, is', im, ja, js, ir, idv, Int32.reduceToInt, Int64.reduceToInt, t64]); omega)) only [ia, is', im, ja, js, ir, idv, Int32.reduceToInt, Int64.reduceToInt, t64]); omega)) only [ia, is', im, ja, js, ir, idv, Int32.reduceToInt, Int64.reduceToInt, t64] at c0 c5 c12 ⊢)); (all_goals (first | rfl | (rw [if_pos (by omega)]; done) | (rw [if_neg (by omega)]; done) | (rw [if_neg (by omega), if_pos (by omega)]; done) | (rw [if_neg (by omega), if_neg (by omega)]; done) | (exfalso; omega))))
    · refine WP_aload_n dX11_earns_15 rfl ?_
      refine WP_getr dX11_earns_16 fX11_252 rfl (ly_is hy _ _ rfl) (rf hr 0 38 20 (by decide)) ?_
      refine WP_bipush (7) dX11_earns_19 rfl ?_
      refine WP_iload_n dX11_earns_21 rfl ?_
      refine WP_imul dX11_earns_22 ?_
      refine WP_iload_n dX11_earns_23 rfl ?_
      refine WP_iadd dX11_earns_24 ?_
      refine WP_iald dX11_earns_25 (ly_is hy _ _ rfl) (ly_in hy _ _ rfl (by (try simp only [h_taped, h_fault, h_faultAt, h_clauses, h_turnsTold, h_held, h_sorts, h_things, h_chestSort, h_storedThing, h_rot] at c0 c5 c12 ⊢); (all_goals (try simp only [cmp_lt, cmp_gt] at c0 c5 c12 ⊢)); (all_goals (try simp only [le32, lt32, eq32, t64, vp_in_iff, Int32.reduceToInt, Int64.reduceToInt] at c0 c5 c12 ⊢)); (all_goals (try simp (disch := ((try simp (disch := ((try simp (disch := omega) only [ia, is', im, ja, js, ir, idv, Int32.reduceToInt, Int64.reduceToInt, t64]); omega)) only [ia, is', im, ja, js, ir, idv, Int32.reduceToInt, Int64.reduceToInt, t64]); omega)) only [ia, is', im, ja, js, ir, idv, Int32.reduceToInt, Int64.reduceToInt, t64] at c0 c5 c12 ⊢)); all_goals (first | (constructor <;> omega) | (exfalso; omega)))) ?_
      refine WP_goto 31 dX11_earns_26 rfl ?_
      exact WP_iret dX11_earns_31 rfl (by unfold rq; (try simp only [h_taped, h_fault, h_faultAt, h_clauses, h_turnsTold, h_held, h_sorts, h_things, h_chestSort, h_storedThing, h_rot] at c0 c5 c12 ⊢); (all_goals (try simp only [cmp_lt, cmp_gt] at c0 c5 c12 ⊢)); (all_goals (try simp only [le32, lt32, eq32, t64, vp_in_iff, Int32.reduceToInt, Int64.reduceToInt] at c0 c5 c12)); (all_goals (try simp (disch := ((try simp (disch := ((try simp (disch := omega) only [ia, is', im, ja, js, ir, idv, Int32.reduceToInt, Int64.reduceToInt, t64]); omega)) only [ia, is', im, ja, js, ir, idv, Int32.reduceToInt, Int64.reduceToInt, t64]); omega)) only [ia, is', im, ja, js, ir, idv, Int32.reduceToInt, Int64.reduceToInt, t64] at c0 c5 c12 ⊢)); (all_goals (first | rfl | (rw [if_pos (by omega)]; done) | (rw [if_neg (by omega)]; done) | (rw [if_neg (by omega), if_pos (by omega)]; done) | (rw [if_neg (by omega), if_neg (by omega)]; done) | (exfalso; omega))))
set_option maxHeartbeats 4000000 in
set_option maxRecDepth 100000 in
theorem fr_price {g : GG} {I : pI} {J : pJ} {R : pR} (hy : Ly g) (hr : Rf g R) (hf : MF g I J) (a b : Int32) : SP g mX11_price [.ref (ad g P_o), .int a, .int b] I J R (rq (-2)) := by
  refine SP_of ⟨by decide, rfl⟩ (Nat.le_of_ble_eq_true rfl) ?_
  have hf0 := hf
  obtain ⟨hmc, h_taped, h_fault, h_faultAt, h_clauses, h_turnsTold, h_held, h_now, h_kept⟩ := hf
  have hmc0 := hmc
  obtain ⟨h_sorts, h_things, h_chestSort, h_storedThing, h_rot⟩ := hmc
  have c0 : True := trivial
  refine WP_aload_n dX11_price_0 rfl ?_
  refine WP_iload_n dX11_price_1 rfl ?_
  refine WP_callV1p (k := 11) dX11_price_2 ⟨⟨⟨by decide, by decide⟩, zX11_isThing⟩, lX11_373, by decide, rfl, vX11_isThing.1, vX11_isThing.2⟩ (ly_is hy _ _ rfl) (s_isThing hy hr _) (Nat.le_of_ble_eq_true rfl) ?_
  refine WP_ifb_eq 29 dX11_price_5 rfl (fun c5 => ?_) (fun c5 => ?_)
  · refine WP_bipush (-2) dX11_price_29 rfl ?_
    exact WP_iret dX11_price_31 rfl (by unfold rq; (try simp only [h_taped, h_fault, h_faultAt, h_clauses, h_turnsTold, h_held, h_sorts, h_things, h_chestSort, h_storedThing, h_rot] at c0 c5 ⊢); (all_goals (try simp only [cmp_lt, cmp_gt] at c0 c5 ⊢)); (all_goals (try simp only [le32, lt32, eq32, t64, vp_in_iff, Int32.reduceToInt, Int64.reduceToInt] at c0 c5)); (all_goals (try simp (disch := ((try simp (disch := ((try simp (disch := omega) only [ia, is', im, ja, js, ir, idv, Int32.reduceToInt, Int64.reduceToInt, t64]); omega)) only [ia, is', im, ja, js, ir, idv, Int32.reduceToInt, Int64.reduceToInt, t64]); omega)) only [ia, is', im, ja, js, ir, idv, Int32.reduceToInt, Int64.reduceToInt, t64] at c0 c5 ⊢)); (all_goals (first | rfl | (rw [if_pos (by omega)]; done) | (rw [if_neg (by omega)]; done) | (rw [if_neg (by omega), if_pos (by omega)]; done) | (rw [if_neg (by omega), if_neg (by omega)]; done) | (exfalso; omega))))
  · refine WP_iload_n dX11_price_8 rfl ?_
    refine WP_callS1p dX11_price_9 ⟨⟨⟨by decide, by decide⟩, zX11_isDay⟩, lX11_370, tX11_isDay⟩ (s_isDay _) (Nat.le_of_ble_eq_true rfl) ?_
    refine WP_ifb_eq 29 dX11_price_12 rfl (fun c12 => ?_) (fun c12 => ?_)
    · refine WP_bipush (-2) dX11_price_29 rfl ?_
      exact WP_iret dX11_price_31 rfl (by unfold rq; (try simp only [h_taped, h_fault, h_faultAt, h_clauses, h_turnsTold, h_held, h_sorts, h_things, h_chestSort, h_storedThing, h_rot] at c0 c5 c12 ⊢); (all_goals (try simp only [cmp_lt, cmp_gt] at c0 c5 c12 ⊢)); (all_goals (try simp only [le32, lt32, eq32, t64, vp_in_iff, Int32.reduceToInt, Int64.reduceToInt] at c0 c5 c12)); (all_goals (try simp (disch := ((try simp (disch := ((try simp (disch := omega) only [ia, is', im, ja, js, ir, idv, Int32.reduceToInt, Int64.reduceToInt, t64]); omega)) only [ia, is', im, ja, js, ir, idv, Int32.reduceToInt, Int64.reduceToInt, t64]); omega)) only [ia, is', im, ja, js, ir, idv, Int32.reduceToInt, Int64.reduceToInt, t64] at c0 c5 c12 ⊢)); (all_goals (first | rfl | (rw [if_pos (by omega)]; done) | (rw [if_neg (by omega)]; done) | (rw [if_neg (by omega), if_pos (by omega)]; done) | (rw [if_neg (by omega), if_neg (by omega)]; done) | (exfalso; omega))))
    · refine WP_aload_n dX11_price_15 rfl ?_
      refine WP_getr dX11_price_16 fX11_257 rfl (ly_is hy _ _ rfl) (rf hr 0 40 22 (by decide)) ?_
      refine WP_bipush (7) dX11_price_19 rfl ?_
      refine WP_iload_n dX11_price_21 rfl ?_
      refine WP_imul dX11_price_22 ?_
      refine WP_iload_n dX11_price_23 rfl ?_
      refine WP_iadd dX11_price_24 ?_
      refine WP_iald dX11_price_25 (ly_is hy _ _ rfl) (ly_in hy _ _ rfl (by (try simp only [h_taped, h_fault, h_faultAt, h_clauses, h_turnsTold, h_held, h_sorts, h_things, h_chestSort, h_storedThing, h_rot] at c0 c5 c12 ⊢); (all_goals (try simp only [cmp_lt, cmp_gt] at c0 c5 c12 ⊢)); (all_goals (try simp only [le32, lt32, eq32, t64, vp_in_iff, Int32.reduceToInt, Int64.reduceToInt] at c0 c5 c12 ⊢)); (all_goals (try simp (disch := ((try simp (disch := ((try simp (disch := omega) only [ia, is', im, ja, js, ir, idv, Int32.reduceToInt, Int64.reduceToInt, t64]); omega)) only [ia, is', im, ja, js, ir, idv, Int32.reduceToInt, Int64.reduceToInt, t64]); omega)) only [ia, is', im, ja, js, ir, idv, Int32.reduceToInt, Int64.reduceToInt, t64] at c0 c5 c12 ⊢)); all_goals (first | (constructor <;> omega) | (exfalso; omega)))) ?_
      refine WP_goto 31 dX11_price_26 rfl ?_
      exact WP_iret dX11_price_31 rfl (by unfold rq; (try simp only [h_taped, h_fault, h_faultAt, h_clauses, h_turnsTold, h_held, h_sorts, h_things, h_chestSort, h_storedThing, h_rot] at c0 c5 c12 ⊢); (all_goals (try simp only [cmp_lt, cmp_gt] at c0 c5 c12 ⊢)); (all_goals (try simp only [le32, lt32, eq32, t64, vp_in_iff, Int32.reduceToInt, Int64.reduceToInt] at c0 c5 c12)); (all_goals (try simp (disch := ((try simp (disch := ((try simp (disch := omega) only [ia, is', im, ja, js, ir, idv, Int32.reduceToInt, Int64.reduceToInt, t64]); omega)) only [ia, is', im, ja, js, ir, idv, Int32.reduceToInt, Int64.reduceToInt, t64]); omega)) only [ia, is', im, ja, js, ir, idv, Int32.reduceToInt, Int64.reduceToInt, t64] at c0 c5 c12 ⊢)); (all_goals (first | rfl | (rw [if_pos (by omega)]; done) | (rw [if_neg (by omega)]; done) | (rw [if_neg (by omega), if_pos (by omega)]; done) | (rw [if_neg (by omega), if_neg (by omega)]; done) | (exfalso; omega))))
set_option maxHeartbeats 4000000 in
set_option maxRecDepth 100000 in
theorem fr_made {g : GG} {I : pI} {J : pJ} {R : pR} (hy : Ly g) (hr : Rf g R) (hf : MF g I J) (a b : Int32) : SP g mX11_made [.ref (ad g P_o), .int a, .int b] I J R (rq (-2)) := by
  refine SP_of ⟨by decide, rfl⟩ (Nat.le_of_ble_eq_true rfl) ?_
  have hf0 := hf
  obtain ⟨hmc, h_taped, h_fault, h_faultAt, h_clauses, h_turnsTold, h_held, h_now, h_kept⟩ := hf
  have hmc0 := hmc
  obtain ⟨h_sorts, h_things, h_chestSort, h_storedThing, h_rot⟩ := hmc
  have c0 : True := trivial
  refine WP_aload_n dX11_made_0 rfl ?_
  refine WP_iload_n dX11_made_1 rfl ?_
  refine WP_callV1p (k := 11) dX11_made_2 ⟨⟨⟨by decide, by decide⟩, zX11_isThing⟩, lX11_373, by decide, rfl, vX11_isThing.1, vX11_isThing.2⟩ (ly_is hy _ _ rfl) (s_isThing hy hr _) (Nat.le_of_ble_eq_true rfl) ?_
  refine WP_ifb_eq 29 dX11_made_5 rfl (fun c5 => ?_) (fun c5 => ?_)
  · refine WP_bipush (-2) dX11_made_29 rfl ?_
    exact WP_iret dX11_made_31 rfl (by unfold rq; (try simp only [h_taped, h_fault, h_faultAt, h_clauses, h_turnsTold, h_held, h_sorts, h_things, h_chestSort, h_storedThing, h_rot] at c0 c5 ⊢); (all_goals (try simp only [cmp_lt, cmp_gt] at c0 c5 ⊢)); (all_goals (try simp only [le32, lt32, eq32, t64, vp_in_iff, Int32.reduceToInt, Int64.reduceToInt] at c0 c5)); (all_goals (try simp (disch := ((try simp (disch := ((try simp (disch := omega) only [ia, is', im, ja, js, ir, idv, Int32.reduceToInt, Int64.reduceToInt, t64]); omega)) only [ia, is', im, ja, js, ir, idv, Int32.reduceToInt, Int64.reduceToInt, t64]); omega)) only [ia, is', im, ja, js, ir, idv, Int32.reduceToInt, Int64.reduceToInt, t64] at c0 c5 ⊢)); (all_goals (first | rfl | (rw [if_pos (by omega)]; done) | (rw [if_neg (by omega)]; done) | (rw [if_neg (by omega), if_pos (by omega)]; done) | (rw [if_neg (by omega), if_neg (by omega)]; done) | (exfalso; omega))))
  · refine WP_iload_n dX11_made_8 rfl ?_
    refine WP_callS1p dX11_made_9 ⟨⟨⟨by decide, by decide⟩, zX11_isDay⟩, lX11_370, tX11_isDay⟩ (s_isDay _) (Nat.le_of_ble_eq_true rfl) ?_
    refine WP_ifb_eq 29 dX11_made_12 rfl (fun c12 => ?_) (fun c12 => ?_)
    · refine WP_bipush (-2) dX11_made_29 rfl ?_
      exact WP_iret dX11_made_31 rfl (by unfold rq; (try simp only [h_taped, h_fault, h_faultAt, h_clauses, h_turnsTold, h_held, h_sorts, h_things, h_chestSort, h_storedThing, h_rot] at c0 c5 c12 ⊢); (all_goals (try simp only [cmp_lt, cmp_gt] at c0 c5 c12 ⊢)); (all_goals (try simp only [le32, lt32, eq32, t64, vp_in_iff, Int32.reduceToInt, Int64.reduceToInt] at c0 c5 c12)); (all_goals (try simp (disch := ((try simp (disch := ((try simp (disch := omega) only [ia, is', im, ja, js, ir, idv, Int32.reduceToInt, Int64.reduceToInt, t64]); omega)) only [ia, is', im, ja, js, ir, idv, Int32.reduceToInt, Int64.reduceToInt, t64]); omega)) only [ia, is', im, ja, js, ir, idv, Int32.reduceToInt, Int64.reduceToInt, t64] at c0 c5 c12 ⊢)); (all_goals (first | rfl | (rw [if_pos (by omega)]; done) | (rw [if_neg (by omega)]; done) | (rw [if_neg (by omega), if_pos (by omega)]; done) | (rw [if_neg (by omega), if_neg (by omega)]; done) | (exfalso; omega))))
    · refine WP_aload_n dX11_made_15 rfl ?_
      refine WP_getr dX11_made_16 fX11_259 rfl (ly_is hy _ _ rfl) (rf hr 0 41 23 (by decide)) ?_
      refine WP_bipush (7) dX11_made_19 rfl ?_
      refine WP_iload_n dX11_made_21 rfl ?_
      refine WP_imul dX11_made_22 ?_
      refine WP_iload_n dX11_made_23 rfl ?_
      refine WP_iadd dX11_made_24 ?_
      refine WP_iald dX11_made_25 (ly_is hy _ _ rfl) (ly_in hy _ _ rfl (by (try simp only [h_taped, h_fault, h_faultAt, h_clauses, h_turnsTold, h_held, h_sorts, h_things, h_chestSort, h_storedThing, h_rot] at c0 c5 c12 ⊢); (all_goals (try simp only [cmp_lt, cmp_gt] at c0 c5 c12 ⊢)); (all_goals (try simp only [le32, lt32, eq32, t64, vp_in_iff, Int32.reduceToInt, Int64.reduceToInt] at c0 c5 c12 ⊢)); (all_goals (try simp (disch := ((try simp (disch := ((try simp (disch := omega) only [ia, is', im, ja, js, ir, idv, Int32.reduceToInt, Int64.reduceToInt, t64]); omega)) only [ia, is', im, ja, js, ir, idv, Int32.reduceToInt, Int64.reduceToInt, t64]); omega)) only [ia, is', im, ja, js, ir, idv, Int32.reduceToInt, Int64.reduceToInt, t64] at c0 c5 c12 ⊢)); all_goals (first | (constructor <;> omega) | (exfalso; omega)))) ?_
      refine WP_goto 31 dX11_made_26 rfl ?_
      exact WP_iret dX11_made_31 rfl (by unfold rq; (try simp only [h_taped, h_fault, h_faultAt, h_clauses, h_turnsTold, h_held, h_sorts, h_things, h_chestSort, h_storedThing, h_rot] at c0 c5 c12 ⊢); (all_goals (try simp only [cmp_lt, cmp_gt] at c0 c5 c12 ⊢)); (all_goals (try simp only [le32, lt32, eq32, t64, vp_in_iff, Int32.reduceToInt, Int64.reduceToInt] at c0 c5 c12)); (all_goals (try simp (disch := ((try simp (disch := ((try simp (disch := omega) only [ia, is', im, ja, js, ir, idv, Int32.reduceToInt, Int64.reduceToInt, t64]); omega)) only [ia, is', im, ja, js, ir, idv, Int32.reduceToInt, Int64.reduceToInt, t64]); omega)) only [ia, is', im, ja, js, ir, idv, Int32.reduceToInt, Int64.reduceToInt, t64] at c0 c5 c12 ⊢)); (all_goals (first | rfl | (rw [if_pos (by omega)]; done) | (rw [if_neg (by omega)]; done) | (rw [if_neg (by omega), if_pos (by omega)]; done) | (rw [if_neg (by omega), if_neg (by omega)]; done) | (exfalso; omega))))
set_option maxHeartbeats 4000000 in
set_option maxRecDepth 100000 in
theorem fr_wants {g : GG} {I : pI} {J : pJ} {R : pR} (hy : Ly g) (hr : Rf g R) (hf : MF g I J) (a b c : Int32) : SP g mX11_wants [.ref (ad g P_o), .int a, .int b, .int c] I J R (rq (-2)) := by
  refine SP_of ⟨by decide, rfl⟩ (Nat.le_of_ble_eq_true rfl) ?_
  have hf0 := hf
  obtain ⟨hmc, h_taped, h_fault, h_faultAt, h_clauses, h_turnsTold, h_held, h_now, h_kept⟩ := hf
  have hmc0 := hmc
  obtain ⟨h_sorts, h_things, h_chestSort, h_storedThing, h_rot⟩ := hmc
  have c0 : True := trivial
  refine WP_aload_n dX11_wants_0 rfl ?_
  refine WP_iload_n dX11_wants_1 rfl ?_
  refine WP_callV1p (k := 11) dX11_wants_2 ⟨⟨⟨by decide, by decide⟩, zX11_isSort⟩, lX11_367, by decide, rfl, vX11_isSort.1, vX11_isSort.2⟩ (ly_is hy _ _ rfl) (s_isSort hy hr _) (Nat.le_of_ble_eq_true rfl) ?_
  refine WP_ifb_eq 27 dX11_wants_5 rfl (fun c5 => ?_) (fun c5 => ?_)
  · refine WP_bipush (-2) dX11_wants_27 rfl ?_
    exact WP_iret dX11_wants_29 rfl (by unfold rq; (try simp only [h_taped, h_fault, h_faultAt, h_clauses, h_turnsTold, h_held, h_sorts, h_things, h_chestSort, h_storedThing, h_rot] at c0 c5 ⊢); (all_goals (try simp only [cmp_lt, cmp_gt] at c0 c5 ⊢)); (all_goals (try simp only [le32, lt32, eq32, t64, vp_in_iff, Int32.reduceToInt, Int64.reduceToInt] at c0 c5)); (all_goals (try simp (disch := ((try simp (disch := ((try simp (disch := omega) only [ia, is', im, ja, js, ir, idv, Int32.reduceToInt, Int64.reduceToInt, t64]); omega)) only [ia, is', im, ja, js, ir, idv, Int32.reduceToInt, Int64.reduceToInt, t64]); omega)) only [ia, is', im, ja, js, ir, idv, Int32.reduceToInt, Int64.reduceToInt, t64] at c0 c5 ⊢)); (all_goals (first | rfl | (rw [if_pos (by omega)]; done) | (rw [if_neg (by omega)]; done) | (rw [if_neg (by omega), if_pos (by omega)]; done) | (rw [if_neg (by omega), if_neg (by omega)]; done) | (exfalso; omega))))
  · refine WP_iload_n dX11_wants_8 rfl ?_
    refine WP_callS1p dX11_wants_9 ⟨⟨⟨by decide, by decide⟩, zX11_isDay⟩, lX11_370, tX11_isDay⟩ (s_isDay _) (Nat.le_of_ble_eq_true rfl) ?_
    refine WP_ifb_eq 27 dX11_wants_12 rfl (fun c12 => ?_) (fun c12 => ?_)
    · refine WP_bipush (-2) dX11_wants_27 rfl ?_
      exact WP_iret dX11_wants_29 rfl (by unfold rq; (try simp only [h_taped, h_fault, h_faultAt, h_clauses, h_turnsTold, h_held, h_sorts, h_things, h_chestSort, h_storedThing, h_rot] at c0 c5 c12 ⊢); (all_goals (try simp only [cmp_lt, cmp_gt] at c0 c5 c12 ⊢)); (all_goals (try simp only [le32, lt32, eq32, t64, vp_in_iff, Int32.reduceToInt, Int64.reduceToInt] at c0 c5 c12)); (all_goals (try simp (disch := ((try simp (disch := ((try simp (disch := omega) only [ia, is', im, ja, js, ir, idv, Int32.reduceToInt, Int64.reduceToInt, t64]); omega)) only [ia, is', im, ja, js, ir, idv, Int32.reduceToInt, Int64.reduceToInt, t64]); omega)) only [ia, is', im, ja, js, ir, idv, Int32.reduceToInt, Int64.reduceToInt, t64] at c0 c5 c12 ⊢)); (all_goals (first | rfl | (rw [if_pos (by omega)]; done) | (rw [if_neg (by omega)]; done) | (rw [if_neg (by omega), if_pos (by omega)]; done) | (rw [if_neg (by omega), if_neg (by omega)]; done) | (exfalso; omega))))
    · refine WP_iload_n dX11_wants_15 rfl ?_
      refine WP_i2l dX11_wants_16 ?_
      refine WP_lconst (0) dX11_wants_17 rfl ?_
      refine WP_ldc2 (2) dX11_wants_18 klX11_376 ?_
      refine WP_callS3p dX11_wants_21 ⟨⟨⟨by decide, by decide⟩, zX11_in⟩, lX11_52, tX11_in⟩ (s_in _ _ _) (Nat.le_of_ble_eq_true rfl) ?_
      refine WP_ifb_ne 30 dX11_wants_24 rfl (fun c24 => ?_) (fun c24 => ?_)
      · refine WP_bipush (7) dX11_wants_30 rfl ?_
        refine WP_iload_n dX11_wants_32 rfl ?_
        refine WP_imul dX11_wants_33 ?_
        refine WP_iload_n dX11_wants_34 rfl ?_
        refine WP_iadd dX11_wants_35 ?_
        refine WP_istore (ls' := [(0, _), (1, _), (2, _), (3, _), (4, _)]) dX11_wants_36 (by decide) rfl ?_
        refine WP_iload_n dX11_wants_38 rfl ?_
        refine WP_if_ne 52 dX11_wants_39 rfl (fun c39 => ?_) (fun c39 => ?_)
        · refine WP_iload_n dX11_wants_52 rfl ?_
          refine WP_iconst (1) dX11_wants_53 rfl ?_
          refine WP_icmp_ne 67 dX11_wants_54 rfl (fun c54 => ?_) (fun c54 => ?_)
          · refine WP_aload_n dX11_wants_67 rfl ?_
            refine WP_getr dX11_wants_68 fX11_267 rfl (ly_is hy _ _ rfl) (rf hr 0 44 26 (by decide)) ?_
            refine WP_iload dX11_wants_71 rfl ?_
            refine WP_iald dX11_wants_73 (ly_is hy _ _ rfl) (ly_in hy _ _ rfl (by (try simp only [h_taped, h_fault, h_faultAt, h_clauses, h_turnsTold, h_held, h_sorts, h_things, h_chestSort, h_storedThing, h_rot] at c0 c5 c12 c24 c39 c54 ⊢); (all_goals (try simp only [cmp_lt, cmp_gt] at c0 c5 c12 c24 c39 c54 ⊢)); (all_goals (try simp only [le32, lt32, eq32, t64, vp_in_iff, Int32.reduceToInt, Int64.reduceToInt] at c0 c5 c12 c24 c39 c54 ⊢)); (all_goals (try simp (disch := ((try simp (disch := ((try simp (disch := omega) only [ia, is', im, ja, js, ir, idv, Int32.reduceToInt, Int64.reduceToInt, t64]); omega)) only [ia, is', im, ja, js, ir, idv, Int32.reduceToInt, Int64.reduceToInt, t64]); omega)) only [ia, is', im, ja, js, ir, idv, Int32.reduceToInt, Int64.reduceToInt, t64] at c0 c5 c12 c24 c39 c54 ⊢)); all_goals (first | (constructor <;> omega) | (exfalso; omega)))) ?_
            exact WP_iret dX11_wants_74 rfl (by unfold rq; (try simp only [h_taped, h_fault, h_faultAt, h_clauses, h_turnsTold, h_held, h_sorts, h_things, h_chestSort, h_storedThing, h_rot] at c0 c5 c12 c24 c39 c54 ⊢); (all_goals (try simp only [cmp_lt, cmp_gt] at c0 c5 c12 c24 c39 c54 ⊢)); (all_goals (try simp only [le32, lt32, eq32, t64, vp_in_iff, Int32.reduceToInt, Int64.reduceToInt] at c0 c5 c12 c24 c39 c54)); (all_goals (try simp (disch := ((try simp (disch := ((try simp (disch := omega) only [ia, is', im, ja, js, ir, idv, Int32.reduceToInt, Int64.reduceToInt, t64]); omega)) only [ia, is', im, ja, js, ir, idv, Int32.reduceToInt, Int64.reduceToInt, t64]); omega)) only [ia, is', im, ja, js, ir, idv, Int32.reduceToInt, Int64.reduceToInt, t64] at c0 c5 c12 c24 c39 c54 ⊢)); (all_goals (first | rfl | (rw [if_pos (by omega)]; done) | (rw [if_neg (by omega)]; done) | (rw [if_neg (by omega), if_pos (by omega)]; done) | (rw [if_neg (by omega), if_neg (by omega)]; done) | (exfalso; omega))))
          · refine WP_aload_n dX11_wants_57 rfl ?_
            refine WP_getr dX11_wants_58 fX11_264 rfl (ly_is hy _ _ rfl) (rf hr 0 43 25 (by decide)) ?_
            refine WP_iload dX11_wants_61 rfl ?_
            refine WP_iald dX11_wants_63 (ly_is hy _ _ rfl) (ly_in hy _ _ rfl (by (try simp only [h_taped, h_fault, h_faultAt, h_clauses, h_turnsTold, h_held, h_sorts, h_things, h_chestSort, h_storedThing, h_rot] at c0 c5 c12 c24 c39 c54 ⊢); (all_goals (try simp only [cmp_lt, cmp_gt] at c0 c5 c12 c24 c39 c54 ⊢)); (all_goals (try simp only [le32, lt32, eq32, t64, vp_in_iff, Int32.reduceToInt, Int64.reduceToInt] at c0 c5 c12 c24 c39 c54 ⊢)); (all_goals (try simp (disch := ((try simp (disch := ((try simp (disch := omega) only [ia, is', im, ja, js, ir, idv, Int32.reduceToInt, Int64.reduceToInt, t64]); omega)) only [ia, is', im, ja, js, ir, idv, Int32.reduceToInt, Int64.reduceToInt, t64]); omega)) only [ia, is', im, ja, js, ir, idv, Int32.reduceToInt, Int64.reduceToInt, t64] at c0 c5 c12 c24 c39 c54 ⊢)); all_goals (first | (constructor <;> omega) | (exfalso; omega)))) ?_
            refine WP_goto 74 dX11_wants_64 rfl ?_
            exact WP_iret dX11_wants_74 rfl (by unfold rq; (try simp only [h_taped, h_fault, h_faultAt, h_clauses, h_turnsTold, h_held, h_sorts, h_things, h_chestSort, h_storedThing, h_rot] at c0 c5 c12 c24 c39 c54 ⊢); (all_goals (try simp only [cmp_lt, cmp_gt] at c0 c5 c12 c24 c39 c54 ⊢)); (all_goals (try simp only [le32, lt32, eq32, t64, vp_in_iff, Int32.reduceToInt, Int64.reduceToInt] at c0 c5 c12 c24 c39 c54)); (all_goals (try simp (disch := ((try simp (disch := ((try simp (disch := omega) only [ia, is', im, ja, js, ir, idv, Int32.reduceToInt, Int64.reduceToInt, t64]); omega)) only [ia, is', im, ja, js, ir, idv, Int32.reduceToInt, Int64.reduceToInt, t64]); omega)) only [ia, is', im, ja, js, ir, idv, Int32.reduceToInt, Int64.reduceToInt, t64] at c0 c5 c12 c24 c39 c54 ⊢)); (all_goals (first | rfl | (rw [if_pos (by omega)]; done) | (rw [if_neg (by omega)]; done) | (rw [if_neg (by omega), if_pos (by omega)]; done) | (rw [if_neg (by omega), if_neg (by omega)]; done) | (exfalso; omega))))
        · refine WP_aload_n dX11_wants_42 rfl ?_
          refine WP_getr dX11_wants_43 fX11_261 rfl (ly_is hy _ _ rfl) (rf hr 0 42 24 (by decide)) ?_
          refine WP_iload dX11_wants_46 rfl ?_
          refine WP_iald dX11_wants_48 (ly_is hy _ _ rfl) (ly_in hy _ _ rfl (by (try simp only [h_taped, h_fault, h_faultAt, h_clauses, h_turnsTold, h_held, h_sorts, h_things, h_chestSort, h_storedThing, h_rot] at c0 c5 c12 c24 c39 ⊢); (all_goals (try simp only [cmp_lt, cmp_gt] at c0 c5 c12 c24 c39 ⊢)); (all_goals (try simp only [le32, lt32, eq32, t64, vp_in_iff, Int32.reduceToInt, Int64.reduceToInt] at c0 c5 c12 c24 c39 ⊢)); (all_goals (try simp (disch := ((try simp (disch := ((try simp (disch := omega) only [ia, is', im, ja, js, ir, idv, Int32.reduceToInt, Int64.reduceToInt, t64]); omega)) only [ia, is', im, ja, js, ir, idv, Int32.reduceToInt, Int64.reduceToInt, t64]); omega)) only [ia, is', im, ja, js, ir, idv, Int32.reduceToInt, Int64.reduceToInt, t64] at c0 c5 c12 c24 c39 ⊢)); all_goals (first | (constructor <;> omega) | (exfalso; omega)))) ?_
          refine WP_goto 74 dX11_wants_49 rfl ?_
          exact WP_iret dX11_wants_74 rfl (by unfold rq; (try simp only [h_taped, h_fault, h_faultAt, h_clauses, h_turnsTold, h_held, h_sorts, h_things, h_chestSort, h_storedThing, h_rot] at c0 c5 c12 c24 c39 ⊢); (all_goals (try simp only [cmp_lt, cmp_gt] at c0 c5 c12 c24 c39 ⊢)); (all_goals (try simp only [le32, lt32, eq32, t64, vp_in_iff, Int32.reduceToInt, Int64.reduceToInt] at c0 c5 c12 c24 c39)); (all_goals (try simp (disch := ((try simp (disch := ((try simp (disch := omega) only [ia, is', im, ja, js, ir, idv, Int32.reduceToInt, Int64.reduceToInt, t64]); omega)) only [ia, is', im, ja, js, ir, idv, Int32.reduceToInt, Int64.reduceToInt, t64]); omega)) only [ia, is', im, ja, js, ir, idv, Int32.reduceToInt, Int64.reduceToInt, t64] at c0 c5 c12 c24 c39 ⊢)); (all_goals (first | rfl | (rw [if_pos (by omega)]; done) | (rw [if_neg (by omega)]; done) | (rw [if_neg (by omega), if_pos (by omega)]; done) | (rw [if_neg (by omega), if_neg (by omega)]; done) | (exfalso; omega))))
      · refine WP_bipush (-2) dX11_wants_27 rfl ?_
        exact WP_iret dX11_wants_29 rfl (by unfold rq; (try simp only [h_taped, h_fault, h_faultAt, h_clauses, h_turnsTold, h_held, h_sorts, h_things, h_chestSort, h_storedThing, h_rot] at c0 c5 c12 c24 ⊢); (all_goals (try simp only [cmp_lt, cmp_gt] at c0 c5 c12 c24 ⊢)); (all_goals (try simp only [le32, lt32, eq32, t64, vp_in_iff, Int32.reduceToInt, Int64.reduceToInt] at c0 c5 c12 c24)); (all_goals (try simp (disch := ((try simp (disch := ((try simp (disch := omega) only [ia, is', im, ja, js, ir, idv, Int32.reduceToInt, Int64.reduceToInt, t64]); omega)) only [ia, is', im, ja, js, ir, idv, Int32.reduceToInt, Int64.reduceToInt, t64]); omega)) only [ia, is', im, ja, js, ir, idv, Int32.reduceToInt, Int64.reduceToInt, t64] at c0 c5 c12 c24 ⊢)); (all_goals (first | rfl | (rw [if_pos (by omega)]; done) | (rw [if_neg (by omega)]; done) | (rw [if_neg (by omega), if_pos (by omega)]; done) | (rw [if_neg (by omega), if_neg (by omega)]; done) | (exfalso; omega))))
set_option maxHeartbeats 4000000 in
set_option maxRecDepth 100000 in
theorem fr_told {g : GG} {I : pI} {J : pJ} {R : pR} (hy : Ly g) (hr : Rf g R) (hf : MF g I J) (a : Int32) : SP g mX11_told [.ref (ad g P_o), .int a] I J R (rq (if (10 ≤ a.toInt ∧ a.toInt ≤ 16) ∨ a.toInt = 0 ∨ a.toInt = 1 then 0 else -1)) := by
  refine SP_of ⟨by decide, rfl⟩ (Nat.le_of_ble_eq_true rfl) ?_
  have hf0 := hf
  obtain ⟨hmc, h_taped, h_fault, h_faultAt, h_clauses, h_turnsTold, h_held, h_now, h_kept⟩ := hf
  have hmc0 := hmc
  obtain ⟨h_sorts, h_things, h_chestSort, h_storedThing, h_rot⟩ := hmc
  have c0 : True := trivial
  refine WP_iload_n dX11_told_0 rfl ?_
  refine WP_bipush (10) dX11_told_1 rfl ?_
  refine WP_irem dX11_told_3 (by decide) ?_
  refine WP_istore_n (ls' := [(0, _), (1, _), (2, _)]) dX11_told_4 (by decide) rfl ?_
  refine WP_iload_n dX11_told_5 rfl ?_
  refine WP_i2l dX11_told_6 ?_
  refine WP_ldc2 (10) dX11_told_7 klX11_353 ?_
  refine WP_ldc2 (16) dX11_told_10 klX11_355 ?_
  refine WP_callS3p dX11_told_13 ⟨⟨⟨by decide, by decide⟩, zX11_in⟩, lX11_52, tX11_in⟩ (s_in _ _ _) (Nat.le_of_ble_eq_true rfl) ?_
  refine WP_ifb_eq 29 dX11_told_16 rfl (fun c16 => ?_) (fun c16 => ?_)
  · refine WP_iload_n dX11_told_29 rfl ?_
    refine WP_i2l dX11_told_30 ?_
    refine WP_ldc2 (20) dX11_told_31 klX11_357 ?_
    refine WP_ldc2 (59) dX11_told_34 klX11_359 ?_
    refine WP_callS3p dX11_told_37 ⟨⟨⟨by decide, by decide⟩, zX11_in⟩, lX11_52, tX11_in⟩ (s_in _ _ _) (Nat.le_of_ble_eq_true rfl) ?_
    refine WP_ifb_eq 107 dX11_told_40 rfl (fun c40 => ?_) (fun c40 => ?_)
    · refine WP_iload_n dX11_told_107 rfl ?_
      refine WP_i2l dX11_told_108 ?_
      refine WP_ldc2 (60) dX11_told_109 klX11_361 ?_
      refine WP_ldc2 (79) dX11_told_112 klX11_363 ?_
      refine WP_callS3p dX11_told_115 ⟨⟨⟨by decide, by decide⟩, zX11_in⟩, lX11_52, tX11_in⟩ (s_in _ _ _) (Nat.le_of_ble_eq_true rfl) ?_
      refine WP_ifb_eq 155 dX11_told_118 rfl (fun c118 => ?_) (fun c118 => ?_)
      · refine WP_iload_n dX11_told_155 rfl ?_
        refine WP_tab 208 dX11_told_156 rfl rfl (fun c156 => ?_) (fun j off c156 hj => ?_) (by decide)
        · refine WP_iconst (-1) dX11_told_208 rfl ?_
          exact WP_iret dX11_told_209 rfl (by unfold rq; (try simp only [h_taped, h_fault, h_faultAt, h_clauses, h_turnsTold, h_held, h_sorts, h_things, h_chestSort, h_storedThing, h_rot] at c0 c16 c40 c118 c156 ⊢); (all_goals (try simp only [cmp_lt, cmp_gt] at c0 c16 c40 c118 c156 ⊢)); (all_goals (try simp only [le32, lt32, eq32, t64, vp_in_iff, Int32.reduceToInt, Int64.reduceToInt] at c0 c16 c40 c118 c156)); (all_goals (try simp (disch := ((try simp (disch := ((try simp (disch := omega) only [ia, is', im, ja, js, ir, idv, Int32.reduceToInt, Int64.reduceToInt, t64]); omega)) only [ia, is', im, ja, js, ir, idv, Int32.reduceToInt, Int64.reduceToInt, t64]); omega)) only [ia, is', im, ja, js, ir, idv, Int32.reduceToInt, Int64.reduceToInt, t64] at c0 c16 c40 c118 c156 ⊢)); (all_goals (first | rfl | (rw [if_pos (by omega)]; done) | (rw [if_neg (by omega)]; done) | (rw [if_neg (by omega), if_pos (by omega)]; done) | (rw [if_neg (by omega), if_neg (by omega)]; done) | (exfalso; omega))))
        · have hlt : j < 4 := by have := (Array.getElem?_eq_some_iff.mp hj).1; simpa using this
          have hcs : (j = 0 ∧ off = 32) ∨ (j = 1 ∧ off = 37) ∨ (j = 2 ∧ off = 42) ∨ (j = 3 ∧ off = 47) := by
            match j, hlt, hj with
            | 0, _, hj => exact Or.inl ⟨rfl, (Option.some.inj hj).symm⟩
            | 1, _, hj => exact Or.inr (Or.inl ⟨rfl, (Option.some.inj hj).symm⟩)
            | 2, _, hj => exact Or.inr (Or.inr (Or.inl ⟨rfl, (Option.some.inj hj).symm⟩))
            | 3, _, hj => exact Or.inr (Or.inr (Or.inr (⟨rfl, (Option.some.inj hj).symm⟩)))
          clear hj hlt
          rcases hcs with ⟨rfl, rfl⟩ | ⟨rfl, rfl⟩ | ⟨rfl, rfl⟩ | ⟨rfl, rfl⟩
          · show WP _ _ 188 _ _ _ _ _ _
            refine WP_aload_n dX11_told_188 rfl ?_
            refine WP_geti dX11_told_189 fX11_329 rfl (ly_is hy _ _ rfl) ?_
            exact WP_iret dX11_told_192 rfl (by unfold rq; (try simp only [h_taped, h_fault, h_faultAt, h_clauses, h_turnsTold, h_held, h_sorts, h_things, h_chestSort, h_storedThing, h_rot] at c0 c16 c40 c118 c156 ⊢); (all_goals (try simp only [cmp_lt, cmp_gt] at c0 c16 c40 c118 c156 ⊢)); (all_goals (try simp only [le32, lt32, eq32, t64, vp_in_iff, Int32.reduceToInt, Int64.reduceToInt] at c0 c16 c40 c118 c156)); (all_goals (try simp (disch := ((try simp (disch := ((try simp (disch := omega) only [ia, is', im, ja, js, ir, idv, Int32.reduceToInt, Int64.reduceToInt, t64]); omega)) only [ia, is', im, ja, js, ir, idv, Int32.reduceToInt, Int64.reduceToInt, t64]); omega)) only [ia, is', im, ja, js, ir, idv, Int32.reduceToInt, Int64.reduceToInt, t64] at c0 c16 c40 c118 c156 ⊢)); (all_goals (first | rfl | (rw [if_pos (by omega)]; done) | (rw [if_neg (by omega)]; done) | (rw [if_neg (by omega), if_pos (by omega)]; done) | (rw [if_neg (by omega), if_neg (by omega)]; done) | (exfalso; omega))))
          · show WP _ _ 193 _ _ _ _ _ _
            refine WP_aload_n dX11_told_193 rfl ?_
            refine WP_geti dX11_told_194 fX11_332 rfl (ly_is hy _ _ rfl) ?_
            exact WP_iret dX11_told_197 rfl (by unfold rq; (try simp only [h_taped, h_fault, h_faultAt, h_clauses, h_turnsTold, h_held, h_sorts, h_things, h_chestSort, h_storedThing, h_rot] at c0 c16 c40 c118 c156 ⊢); (all_goals (try simp only [cmp_lt, cmp_gt] at c0 c16 c40 c118 c156 ⊢)); (all_goals (try simp only [le32, lt32, eq32, t64, vp_in_iff, Int32.reduceToInt, Int64.reduceToInt] at c0 c16 c40 c118 c156)); (all_goals (try simp (disch := ((try simp (disch := ((try simp (disch := omega) only [ia, is', im, ja, js, ir, idv, Int32.reduceToInt, Int64.reduceToInt, t64]); omega)) only [ia, is', im, ja, js, ir, idv, Int32.reduceToInt, Int64.reduceToInt, t64]); omega)) only [ia, is', im, ja, js, ir, idv, Int32.reduceToInt, Int64.reduceToInt, t64] at c0 c16 c40 c118 c156 ⊢)); (all_goals (first | rfl | (rw [if_pos (by omega)]; done) | (rw [if_neg (by omega)]; done) | (rw [if_neg (by omega), if_pos (by omega)]; done) | (rw [if_neg (by omega), if_neg (by omega)]; done) | (exfalso; omega))))
          · show WP _ _ 198 _ _ _ _ _ _
            refine WP_aload_n dX11_told_198 rfl ?_
            refine WP_geti dX11_told_199 fX11_221 rfl (ly_is hy _ _ rfl) ?_
            exact WP_iret dX11_told_202 rfl (by unfold rq; (try simp only [h_taped, h_fault, h_faultAt, h_clauses, h_turnsTold, h_held, h_sorts, h_things, h_chestSort, h_storedThing, h_rot] at c0 c16 c40 c118 c156 ⊢); (all_goals (try simp only [cmp_lt, cmp_gt] at c0 c16 c40 c118 c156 ⊢)); (all_goals (try simp only [le32, lt32, eq32, t64, vp_in_iff, Int32.reduceToInt, Int64.reduceToInt] at c0 c16 c40 c118 c156)); (all_goals (try simp (disch := ((try simp (disch := ((try simp (disch := omega) only [ia, is', im, ja, js, ir, idv, Int32.reduceToInt, Int64.reduceToInt, t64]); omega)) only [ia, is', im, ja, js, ir, idv, Int32.reduceToInt, Int64.reduceToInt, t64]); omega)) only [ia, is', im, ja, js, ir, idv, Int32.reduceToInt, Int64.reduceToInt, t64] at c0 c16 c40 c118 c156 ⊢)); (all_goals (first | rfl | (rw [if_pos (by omega)]; done) | (rw [if_neg (by omega)]; done) | (rw [if_neg (by omega), if_pos (by omega)]; done) | (rw [if_neg (by omega), if_neg (by omega)]; done) | (exfalso; omega))))
          · show WP _ _ 203 _ _ _ _ _ _
            refine WP_aload_n dX11_told_203 rfl ?_
            refine WP_geti dX11_told_204 fX11_224 rfl (ly_is hy _ _ rfl) ?_
            exact WP_iret dX11_told_207 rfl (by unfold rq; (try simp only [h_taped, h_fault, h_faultAt, h_clauses, h_turnsTold, h_held, h_sorts, h_things, h_chestSort, h_storedThing, h_rot] at c0 c16 c40 c118 c156 ⊢); (all_goals (try simp only [cmp_lt, cmp_gt] at c0 c16 c40 c118 c156 ⊢)); (all_goals (try simp only [le32, lt32, eq32, t64, vp_in_iff, Int32.reduceToInt, Int64.reduceToInt] at c0 c16 c40 c118 c156)); (all_goals (try simp (disch := ((try simp (disch := ((try simp (disch := omega) only [ia, is', im, ja, js, ir, idv, Int32.reduceToInt, Int64.reduceToInt, t64]); omega)) only [ia, is', im, ja, js, ir, idv, Int32.reduceToInt, Int64.reduceToInt, t64]); omega)) only [ia, is', im, ja, js, ir, idv, Int32.reduceToInt, Int64.reduceToInt, t64] at c0 c16 c40 c118 c156 ⊢)); (all_goals (first | rfl | (rw [if_pos (by omega)]; done) | (rw [if_neg (by omega)]; done) | (rw [if_neg (by omega), if_pos (by omega)]; done) | (rw [if_neg (by omega), if_neg (by omega)]; done) | (exfalso; omega))))
      · refine WP_iload_n dX11_told_121 rfl ?_
        refine WP_aload_n dX11_told_122 rfl ?_
        refine WP_geti dX11_told_123 fX11_332 rfl (ly_is hy _ _ rfl) ?_
        refine WP_icmp_lt 133 dX11_told_126 rfl (fun c126 => ?_) (fun c126 => ?_)
        · refine WP_iload_n dX11_told_133 rfl ?_
          refine WP_bipush (70) dX11_told_134 rfl ?_
          refine WP_icmp_ge 148 dX11_told_136 rfl (fun c136 => ?_) (fun c136 => ?_)
          · refine WP_aload_n dX11_told_148 rfl ?_
            refine WP_getr dX11_told_149 fX11_249 rfl (ly_is hy _ _ rfl) (rf hr 0 31 13 (by decide)) ?_
            refine WP_iload_n dX11_told_152 rfl ?_
            refine WP_iald dX11_told_153 (ly_is hy _ _ rfl) (ly_in hy _ _ rfl (by (try simp only [h_taped, h_fault, h_faultAt, h_clauses, h_turnsTold, h_held, h_sorts, h_things, h_chestSort, h_storedThing, h_rot] at c0 c16 c40 c118 c126 c136 ⊢); (all_goals (try simp only [cmp_lt, cmp_gt] at c0 c16 c40 c118 c126 c136 ⊢)); (all_goals (try simp only [le32, lt32, eq32, t64, vp_in_iff, Int32.reduceToInt, Int64.reduceToInt] at c0 c16 c40 c118 c126 c136 ⊢)); (all_goals (try simp (disch := ((try simp (disch := ((try simp (disch := omega) only [ia, is', im, ja, js, ir, idv, Int32.reduceToInt, Int64.reduceToInt, t64]); omega)) only [ia, is', im, ja, js, ir, idv, Int32.reduceToInt, Int64.reduceToInt, t64]); omega)) only [ia, is', im, ja, js, ir, idv, Int32.reduceToInt, Int64.reduceToInt, t64] at c0 c16 c40 c118 c126 c136 ⊢)); all_goals (first | (constructor <;> omega) | (exfalso; omega)))) ?_
            exact WP_iret dX11_told_154 rfl (by unfold rq; (try simp only [h_taped, h_fault, h_faultAt, h_clauses, h_turnsTold, h_held, h_sorts, h_things, h_chestSort, h_storedThing, h_rot] at c0 c16 c40 c118 c126 c136 ⊢); (all_goals (try simp only [cmp_lt, cmp_gt] at c0 c16 c40 c118 c126 c136 ⊢)); (all_goals (try simp only [le32, lt32, eq32, t64, vp_in_iff, Int32.reduceToInt, Int64.reduceToInt] at c0 c16 c40 c118 c126 c136)); (all_goals (try simp (disch := ((try simp (disch := ((try simp (disch := omega) only [ia, is', im, ja, js, ir, idv, Int32.reduceToInt, Int64.reduceToInt, t64]); omega)) only [ia, is', im, ja, js, ir, idv, Int32.reduceToInt, Int64.reduceToInt, t64]); omega)) only [ia, is', im, ja, js, ir, idv, Int32.reduceToInt, Int64.reduceToInt, t64] at c0 c16 c40 c118 c126 c136 ⊢)); (all_goals (first | rfl | (rw [if_pos (by omega)]; done) | (rw [if_neg (by omega)]; done) | (rw [if_neg (by omega), if_pos (by omega)]; done) | (rw [if_neg (by omega), if_neg (by omega)]; done) | (exfalso; omega))))
          · refine WP_aload_n dX11_told_139 rfl ?_
            refine WP_getr dX11_told_140 fX11_246 rfl (ly_is hy _ _ rfl) (rf hr 0 30 12 (by decide)) ?_
            refine WP_iload_n dX11_told_143 rfl ?_
            refine WP_iald dX11_told_144 (ly_is hy _ _ rfl) (ly_in hy _ _ rfl (by (try simp only [h_taped, h_fault, h_faultAt, h_clauses, h_turnsTold, h_held, h_sorts, h_things, h_chestSort, h_storedThing, h_rot] at c0 c16 c40 c118 c126 c136 ⊢); (all_goals (try simp only [cmp_lt, cmp_gt] at c0 c16 c40 c118 c126 c136 ⊢)); (all_goals (try simp only [le32, lt32, eq32, t64, vp_in_iff, Int32.reduceToInt, Int64.reduceToInt] at c0 c16 c40 c118 c126 c136 ⊢)); (all_goals (try simp (disch := ((try simp (disch := ((try simp (disch := omega) only [ia, is', im, ja, js, ir, idv, Int32.reduceToInt, Int64.reduceToInt, t64]); omega)) only [ia, is', im, ja, js, ir, idv, Int32.reduceToInt, Int64.reduceToInt, t64]); omega)) only [ia, is', im, ja, js, ir, idv, Int32.reduceToInt, Int64.reduceToInt, t64] at c0 c16 c40 c118 c126 c136 ⊢)); all_goals (first | (constructor <;> omega) | (exfalso; omega)))) ?_
            refine WP_goto 154 dX11_told_145 rfl ?_
            exact WP_iret dX11_told_154 rfl (by unfold rq; (try simp only [h_taped, h_fault, h_faultAt, h_clauses, h_turnsTold, h_held, h_sorts, h_things, h_chestSort, h_storedThing, h_rot] at c0 c16 c40 c118 c126 c136 ⊢); (all_goals (try simp only [cmp_lt, cmp_gt] at c0 c16 c40 c118 c126 c136 ⊢)); (all_goals (try simp only [le32, lt32, eq32, t64, vp_in_iff, Int32.reduceToInt, Int64.reduceToInt] at c0 c16 c40 c118 c126 c136)); (all_goals (try simp (disch := ((try simp (disch := ((try simp (disch := omega) only [ia, is', im, ja, js, ir, idv, Int32.reduceToInt, Int64.reduceToInt, t64]); omega)) only [ia, is', im, ja, js, ir, idv, Int32.reduceToInt, Int64.reduceToInt, t64]); omega)) only [ia, is', im, ja, js, ir, idv, Int32.reduceToInt, Int64.reduceToInt, t64] at c0 c16 c40 c118 c126 c136 ⊢)); (all_goals (first | rfl | (rw [if_pos (by omega)]; done) | (rw [if_neg (by omega)]; done) | (rw [if_neg (by omega), if_pos (by omega)]; done) | (rw [if_neg (by omega), if_neg (by omega)]; done) | (exfalso; omega))))
        · refine WP_iconst (-1) dX11_told_129 rfl ?_
          refine WP_goto 154 dX11_told_130 rfl ?_
          exact WP_iret dX11_told_154 rfl (by unfold rq; (try simp only [h_taped, h_fault, h_faultAt, h_clauses, h_turnsTold, h_held, h_sorts, h_things, h_chestSort, h_storedThing, h_rot] at c0 c16 c40 c118 c126 ⊢); (all_goals (try simp only [cmp_lt, cmp_gt] at c0 c16 c40 c118 c126 ⊢)); (all_goals (try simp only [le32, lt32, eq32, t64, vp_in_iff, Int32.reduceToInt, Int64.reduceToInt] at c0 c16 c40 c118 c126)); (all_goals (try simp (disch := ((try simp (disch := ((try simp (disch := omega) only [ia, is', im, ja, js, ir, idv, Int32.reduceToInt, Int64.reduceToInt, t64]); omega)) only [ia, is', im, ja, js, ir, idv, Int32.reduceToInt, Int64.reduceToInt, t64]); omega)) only [ia, is', im, ja, js, ir, idv, Int32.reduceToInt, Int64.reduceToInt, t64] at c0 c16 c40 c118 c126 ⊢)); (all_goals (first | rfl | (rw [if_pos (by omega)]; done) | (rw [if_neg (by omega)]; done) | (rw [if_neg (by omega), if_pos (by omega)]; done) | (rw [if_neg (by omega), if_neg (by omega)]; done) | (exfalso; omega))))
    · refine WP_iload_n dX11_told_43 rfl ?_
      refine WP_aload_n dX11_told_44 rfl ?_
      refine WP_geti dX11_told_45 fX11_329 rfl (ly_is hy _ _ rfl) ?_
      refine WP_icmp_lt 55 dX11_told_48 rfl (fun c48 => ?_) (fun c48 => ?_)
      · refine WP_iload_n dX11_told_55 rfl ?_
        refine WP_bipush (30) dX11_told_56 rfl ?_
        refine WP_icmp_ge 70 dX11_told_58 rfl (fun c58 => ?_) (fun c58 => ?_)
        · refine WP_iload_n dX11_told_70 rfl ?_
          refine WP_bipush (40) dX11_told_71 rfl ?_
          refine WP_icmp_ge 85 dX11_told_73 rfl (fun c73 => ?_) (fun c73 => ?_)
          · refine WP_iload_n dX11_told_85 rfl ?_
            refine WP_bipush (50) dX11_told_86 rfl ?_
            refine WP_icmp_ge 100 dX11_told_88 rfl (fun c88 => ?_) (fun c88 => ?_)
            · refine WP_aload_n dX11_told_100 rfl ?_
              refine WP_getr dX11_told_101 fX11_244 rfl (ly_is hy _ _ rfl) (rf hr 0 29 11 (by decide)) ?_
              refine WP_iload_n dX11_told_104 rfl ?_
              refine WP_iald dX11_told_105 (ly_is hy _ _ rfl) (ly_in hy _ _ rfl (by (try simp only [h_taped, h_fault, h_faultAt, h_clauses, h_turnsTold, h_held, h_sorts, h_things, h_chestSort, h_storedThing, h_rot] at c0 c16 c40 c48 c58 c73 c88 ⊢); (all_goals (try simp only [cmp_lt, cmp_gt] at c0 c16 c40 c48 c58 c73 c88 ⊢)); (all_goals (try simp only [le32, lt32, eq32, t64, vp_in_iff, Int32.reduceToInt, Int64.reduceToInt] at c0 c16 c40 c48 c58 c73 c88 ⊢)); (all_goals (try simp (disch := ((try simp (disch := ((try simp (disch := omega) only [ia, is', im, ja, js, ir, idv, Int32.reduceToInt, Int64.reduceToInt, t64]); omega)) only [ia, is', im, ja, js, ir, idv, Int32.reduceToInt, Int64.reduceToInt, t64]); omega)) only [ia, is', im, ja, js, ir, idv, Int32.reduceToInt, Int64.reduceToInt, t64] at c0 c16 c40 c48 c58 c73 c88 ⊢)); all_goals (first | (constructor <;> omega) | (exfalso; omega)))) ?_
              exact WP_iret dX11_told_106 rfl (by unfold rq; (try simp only [h_taped, h_fault, h_faultAt, h_clauses, h_turnsTold, h_held, h_sorts, h_things, h_chestSort, h_storedThing, h_rot] at c0 c16 c40 c48 c58 c73 c88 ⊢); (all_goals (try simp only [cmp_lt, cmp_gt] at c0 c16 c40 c48 c58 c73 c88 ⊢)); (all_goals (try simp only [le32, lt32, eq32, t64, vp_in_iff, Int32.reduceToInt, Int64.reduceToInt] at c0 c16 c40 c48 c58 c73 c88)); (all_goals (try simp (disch := ((try simp (disch := ((try simp (disch := omega) only [ia, is', im, ja, js, ir, idv, Int32.reduceToInt, Int64.reduceToInt, t64]); omega)) only [ia, is', im, ja, js, ir, idv, Int32.reduceToInt, Int64.reduceToInt, t64]); omega)) only [ia, is', im, ja, js, ir, idv, Int32.reduceToInt, Int64.reduceToInt, t64] at c0 c16 c40 c48 c58 c73 c88 ⊢)); (all_goals (first | rfl | (rw [if_pos (by omega)]; done) | (rw [if_neg (by omega)]; done) | (rw [if_neg (by omega), if_pos (by omega)]; done) | (rw [if_neg (by omega), if_neg (by omega)]; done) | (exfalso; omega))))
            · refine WP_aload_n dX11_told_91 rfl ?_
              refine WP_getr dX11_told_92 fX11_241 rfl (ly_is hy _ _ rfl) (rf hr 0 28 10 (by decide)) ?_
              refine WP_iload_n dX11_told_95 rfl ?_
              refine WP_iald dX11_told_96 (ly_is hy _ _ rfl) (ly_in hy _ _ rfl (by (try simp only [h_taped, h_fault, h_faultAt, h_clauses, h_turnsTold, h_held, h_sorts, h_things, h_chestSort, h_storedThing, h_rot] at c0 c16 c40 c48 c58 c73 c88 ⊢); (all_goals (try simp only [cmp_lt, cmp_gt] at c0 c16 c40 c48 c58 c73 c88 ⊢)); (all_goals (try simp only [le32, lt32, eq32, t64, vp_in_iff, Int32.reduceToInt, Int64.reduceToInt] at c0 c16 c40 c48 c58 c73 c88 ⊢)); (all_goals (try simp (disch := ((try simp (disch := ((try simp (disch := omega) only [ia, is', im, ja, js, ir, idv, Int32.reduceToInt, Int64.reduceToInt, t64]); omega)) only [ia, is', im, ja, js, ir, idv, Int32.reduceToInt, Int64.reduceToInt, t64]); omega)) only [ia, is', im, ja, js, ir, idv, Int32.reduceToInt, Int64.reduceToInt, t64] at c0 c16 c40 c48 c58 c73 c88 ⊢)); all_goals (first | (constructor <;> omega) | (exfalso; omega)))) ?_
              refine WP_goto 106 dX11_told_97 rfl ?_
              exact WP_iret dX11_told_106 rfl (by unfold rq; (try simp only [h_taped, h_fault, h_faultAt, h_clauses, h_turnsTold, h_held, h_sorts, h_things, h_chestSort, h_storedThing, h_rot] at c0 c16 c40 c48 c58 c73 c88 ⊢); (all_goals (try simp only [cmp_lt, cmp_gt] at c0 c16 c40 c48 c58 c73 c88 ⊢)); (all_goals (try simp only [le32, lt32, eq32, t64, vp_in_iff, Int32.reduceToInt, Int64.reduceToInt] at c0 c16 c40 c48 c58 c73 c88)); (all_goals (try simp (disch := ((try simp (disch := ((try simp (disch := omega) only [ia, is', im, ja, js, ir, idv, Int32.reduceToInt, Int64.reduceToInt, t64]); omega)) only [ia, is', im, ja, js, ir, idv, Int32.reduceToInt, Int64.reduceToInt, t64]); omega)) only [ia, is', im, ja, js, ir, idv, Int32.reduceToInt, Int64.reduceToInt, t64] at c0 c16 c40 c48 c58 c73 c88 ⊢)); (all_goals (first | rfl | (rw [if_pos (by omega)]; done) | (rw [if_neg (by omega)]; done) | (rw [if_neg (by omega), if_pos (by omega)]; done) | (rw [if_neg (by omega), if_neg (by omega)]; done) | (exfalso; omega))))
          · refine WP_aload_n dX11_told_76 rfl ?_
            refine WP_getr dX11_told_77 fX11_238 rfl (ly_is hy _ _ rfl) (rf hr 0 27 9 (by decide)) ?_
            refine WP_iload_n dX11_told_80 rfl ?_
            refine WP_iald dX11_told_81 (ly_is hy _ _ rfl) (ly_in hy _ _ rfl (by (try simp only [h_taped, h_fault, h_faultAt, h_clauses, h_turnsTold, h_held, h_sorts, h_things, h_chestSort, h_storedThing, h_rot] at c0 c16 c40 c48 c58 c73 ⊢); (all_goals (try simp only [cmp_lt, cmp_gt] at c0 c16 c40 c48 c58 c73 ⊢)); (all_goals (try simp only [le32, lt32, eq32, t64, vp_in_iff, Int32.reduceToInt, Int64.reduceToInt] at c0 c16 c40 c48 c58 c73 ⊢)); (all_goals (try simp (disch := ((try simp (disch := ((try simp (disch := omega) only [ia, is', im, ja, js, ir, idv, Int32.reduceToInt, Int64.reduceToInt, t64]); omega)) only [ia, is', im, ja, js, ir, idv, Int32.reduceToInt, Int64.reduceToInt, t64]); omega)) only [ia, is', im, ja, js, ir, idv, Int32.reduceToInt, Int64.reduceToInt, t64] at c0 c16 c40 c48 c58 c73 ⊢)); all_goals (first | (constructor <;> omega) | (exfalso; omega)))) ?_
            refine WP_goto 106 dX11_told_82 rfl ?_
            exact WP_iret dX11_told_106 rfl (by unfold rq; (try simp only [h_taped, h_fault, h_faultAt, h_clauses, h_turnsTold, h_held, h_sorts, h_things, h_chestSort, h_storedThing, h_rot] at c0 c16 c40 c48 c58 c73 ⊢); (all_goals (try simp only [cmp_lt, cmp_gt] at c0 c16 c40 c48 c58 c73 ⊢)); (all_goals (try simp only [le32, lt32, eq32, t64, vp_in_iff, Int32.reduceToInt, Int64.reduceToInt] at c0 c16 c40 c48 c58 c73)); (all_goals (try simp (disch := ((try simp (disch := ((try simp (disch := omega) only [ia, is', im, ja, js, ir, idv, Int32.reduceToInt, Int64.reduceToInt, t64]); omega)) only [ia, is', im, ja, js, ir, idv, Int32.reduceToInt, Int64.reduceToInt, t64]); omega)) only [ia, is', im, ja, js, ir, idv, Int32.reduceToInt, Int64.reduceToInt, t64] at c0 c16 c40 c48 c58 c73 ⊢)); (all_goals (first | rfl | (rw [if_pos (by omega)]; done) | (rw [if_neg (by omega)]; done) | (rw [if_neg (by omega), if_pos (by omega)]; done) | (rw [if_neg (by omega), if_neg (by omega)]; done) | (exfalso; omega))))
        · refine WP_aload_n dX11_told_61 rfl ?_
          refine WP_getr dX11_told_62 fX11_235 rfl (ly_is hy _ _ rfl) (rf hr 0 26 8 (by decide)) ?_
          refine WP_iload_n dX11_told_65 rfl ?_
          refine WP_iald dX11_told_66 (ly_is hy _ _ rfl) (ly_in hy _ _ rfl (by (try simp only [h_taped, h_fault, h_faultAt, h_clauses, h_turnsTold, h_held, h_sorts, h_things, h_chestSort, h_storedThing, h_rot] at c0 c16 c40 c48 c58 ⊢); (all_goals (try simp only [cmp_lt, cmp_gt] at c0 c16 c40 c48 c58 ⊢)); (all_goals (try simp only [le32, lt32, eq32, t64, vp_in_iff, Int32.reduceToInt, Int64.reduceToInt] at c0 c16 c40 c48 c58 ⊢)); (all_goals (try simp (disch := ((try simp (disch := ((try simp (disch := omega) only [ia, is', im, ja, js, ir, idv, Int32.reduceToInt, Int64.reduceToInt, t64]); omega)) only [ia, is', im, ja, js, ir, idv, Int32.reduceToInt, Int64.reduceToInt, t64]); omega)) only [ia, is', im, ja, js, ir, idv, Int32.reduceToInt, Int64.reduceToInt, t64] at c0 c16 c40 c48 c58 ⊢)); all_goals (first | (constructor <;> omega) | (exfalso; omega)))) ?_
          refine WP_goto 106 dX11_told_67 rfl ?_
          exact WP_iret dX11_told_106 rfl (by unfold rq; (try simp only [h_taped, h_fault, h_faultAt, h_clauses, h_turnsTold, h_held, h_sorts, h_things, h_chestSort, h_storedThing, h_rot] at c0 c16 c40 c48 c58 ⊢); (all_goals (try simp only [cmp_lt, cmp_gt] at c0 c16 c40 c48 c58 ⊢)); (all_goals (try simp only [le32, lt32, eq32, t64, vp_in_iff, Int32.reduceToInt, Int64.reduceToInt] at c0 c16 c40 c48 c58)); (all_goals (try simp (disch := ((try simp (disch := ((try simp (disch := omega) only [ia, is', im, ja, js, ir, idv, Int32.reduceToInt, Int64.reduceToInt, t64]); omega)) only [ia, is', im, ja, js, ir, idv, Int32.reduceToInt, Int64.reduceToInt, t64]); omega)) only [ia, is', im, ja, js, ir, idv, Int32.reduceToInt, Int64.reduceToInt, t64] at c0 c16 c40 c48 c58 ⊢)); (all_goals (first | rfl | (rw [if_pos (by omega)]; done) | (rw [if_neg (by omega)]; done) | (rw [if_neg (by omega), if_pos (by omega)]; done) | (rw [if_neg (by omega), if_neg (by omega)]; done) | (exfalso; omega))))
      · refine WP_iconst (-1) dX11_told_51 rfl ?_
        refine WP_goto 106 dX11_told_52 rfl ?_
        exact WP_iret dX11_told_106 rfl (by unfold rq; (try simp only [h_taped, h_fault, h_faultAt, h_clauses, h_turnsTold, h_held, h_sorts, h_things, h_chestSort, h_storedThing, h_rot] at c0 c16 c40 c48 ⊢); (all_goals (try simp only [cmp_lt, cmp_gt] at c0 c16 c40 c48 ⊢)); (all_goals (try simp only [le32, lt32, eq32, t64, vp_in_iff, Int32.reduceToInt, Int64.reduceToInt] at c0 c16 c40 c48)); (all_goals (try simp (disch := ((try simp (disch := ((try simp (disch := omega) only [ia, is', im, ja, js, ir, idv, Int32.reduceToInt, Int64.reduceToInt, t64]); omega)) only [ia, is', im, ja, js, ir, idv, Int32.reduceToInt, Int64.reduceToInt, t64]); omega)) only [ia, is', im, ja, js, ir, idv, Int32.reduceToInt, Int64.reduceToInt, t64] at c0 c16 c40 c48 ⊢)); (all_goals (first | rfl | (rw [if_pos (by omega)]; done) | (rw [if_neg (by omega)]; done) | (rw [if_neg (by omega), if_pos (by omega)]; done) | (rw [if_neg (by omega), if_neg (by omega)]; done) | (exfalso; omega))))
  · refine WP_aload_n dX11_told_19 rfl ?_
    refine WP_getr dX11_told_20 fX11_233 rfl (ly_is hy _ _ rfl) (rf hr 0 24 6 (by decide)) ?_
    refine WP_iload_n dX11_told_23 rfl ?_
    refine WP_bipush (10) dX11_told_24 rfl ?_
    refine WP_isub dX11_told_26 ?_
    refine WP_iald dX11_told_27 (ly_is hy _ _ rfl) (ly_in hy _ _ rfl (by (try simp only [h_taped, h_fault, h_faultAt, h_clauses, h_turnsTold, h_held, h_sorts, h_things, h_chestSort, h_storedThing, h_rot] at c0 c16 ⊢); (all_goals (try simp only [cmp_lt, cmp_gt] at c0 c16 ⊢)); (all_goals (try simp only [le32, lt32, eq32, t64, vp_in_iff, Int32.reduceToInt, Int64.reduceToInt] at c0 c16 ⊢)); (all_goals (try simp (disch := ((try simp (disch := ((try simp (disch := omega) only [ia, is', im, ja, js, ir, idv, Int32.reduceToInt, Int64.reduceToInt, t64]); omega)) only [ia, is', im, ja, js, ir, idv, Int32.reduceToInt, Int64.reduceToInt, t64]); omega)) only [ia, is', im, ja, js, ir, idv, Int32.reduceToInt, Int64.reduceToInt, t64] at c0 c16 ⊢)); all_goals (first | (constructor <;> omega) | (exfalso; omega)))) ?_
    exact WP_iret dX11_told_28 rfl (by unfold rq; (try simp only [h_taped, h_fault, h_faultAt, h_clauses, h_turnsTold, h_held, h_sorts, h_things, h_chestSort, h_storedThing, h_rot] at c0 c16 ⊢); (all_goals (try simp only [cmp_lt, cmp_gt] at c0 c16 ⊢)); (all_goals (try simp only [le32, lt32, eq32, t64, vp_in_iff, Int32.reduceToInt, Int64.reduceToInt] at c0 c16)); (all_goals (try simp (disch := ((try simp (disch := ((try simp (disch := omega) only [ia, is', im, ja, js, ir, idv, Int32.reduceToInt, Int64.reduceToInt, t64]); omega)) only [ia, is', im, ja, js, ir, idv, Int32.reduceToInt, Int64.reduceToInt, t64]); omega)) only [ia, is', im, ja, js, ir, idv, Int32.reduceToInt, Int64.reduceToInt, t64] at c0 c16 ⊢)); (all_goals (first | rfl | (rw [if_pos (by omega)]; done) | (rw [if_neg (by omega)]; done) | (rw [if_neg (by omega), if_pos (by omega)]; done) | (rw [if_neg (by omega), if_neg (by omega)]; done) | (exfalso; omega))))
set_option maxHeartbeats 4000000 in
theorem s_areCoins {g : GG} {I : pI} {J : pJ} {R : pR} (s : Int32) : SP g mX11_areCoins [.int s] I J R (pq (.int (if 0 ≤ s.toInt ∧ s.toInt ≤ 60 then 1 else 0)) I J R) := by
  refine SP_of ⟨by decide, rfl⟩ (Nat.le_of_ble_eq_true rfl) ?_
  refine WP_iload_n dX11_areCoins_0 rfl ?_
  refine WP_i2l dX11_areCoins_1 ?_
  refine WP_lconst (0) dX11_areCoins_2 rfl ?_
  refine WP_ldc2 (60) dX11_areCoins_3 klX11_361 ?_
  refine WP_callS3p dX11_areCoins_6 ⟨⟨⟨by decide, by decide⟩, zX11_in⟩, lX11_52, tX11_in⟩ (s_in _ _ _) (Nat.le_of_ble_eq_true rfl) ?_
  exact WP_zret dX11_areCoins_9 rfl (by split <;> rfl) ⟨(by simp only [t64, Int64.reduceToInt]), rfl, rfl, rfl⟩
set_option maxHeartbeats 4000000 in
theorem s_isStore {g : GG} {I : pI} {J : pJ} {R : pR} (s : Int32) : SP g mX11_isStore [.int s] I J R (pq (.int (if 0 ≤ s.toInt ∧ s.toInt ≤ 5 then 1 else 0)) I J R) := by
  refine SP_of ⟨by decide, rfl⟩ (Nat.le_of_ble_eq_true rfl) ?_
  refine WP_iload_n dX11_isStore_0 rfl ?_
  refine WP_i2l dX11_isStore_1 ?_
  refine WP_lconst (0) dX11_isStore_2 rfl ?_
  refine WP_ldc2 (5) dX11_isStore_3 klX11_378 ?_
  refine WP_callS3p dX11_isStore_6 ⟨⟨⟨by decide, by decide⟩, zX11_in⟩, lX11_52, tX11_in⟩ (s_in _ _ _) (Nat.le_of_ble_eq_true rfl) ?_
  exact WP_zret dX11_isStore_9 rfl (by split <;> rfl) ⟨(by simp only [t64, Int64.reduceToInt]), rfl, rfl, rfl⟩
set_option maxHeartbeats 4000000 in
theorem s_isSlot {g : GG} {I : pI} {J : pJ} {R : pR} (s : Int32) : SP g mX11_isSlot [.int s] I J R (pq (.int (if 0 ≤ s.toInt ∧ s.toInt ≤ 2 then 1 else 0)) I J R) := by
  refine SP_of ⟨by decide, rfl⟩ (Nat.le_of_ble_eq_true rfl) ?_
  refine WP_iload_n dX11_isSlot_0 rfl ?_
  refine WP_i2l dX11_isSlot_1 ?_
  refine WP_lconst (0) dX11_isSlot_2 rfl ?_
  refine WP_ldc2 (2) dX11_isSlot_3 klX11_376 ?_
  refine WP_callS3p dX11_isSlot_6 ⟨⟨⟨by decide, by decide⟩, zX11_in⟩, lX11_52, tX11_in⟩ (s_in _ _ _) (Nat.le_of_ble_eq_true rfl) ?_
  exact WP_zret dX11_isSlot_9 rfl (by split <;> rfl) ⟨(by simp only [t64, Int64.reduceToInt]), rfl, rfl, rfl⟩
set_option maxHeartbeats 4000000 in
theorem s_isWay {g : GG} {I : pI} {J : pJ} {R : pR} (s : Int32) : SP g mX11_isWay [.int s] I J R (pq (.int (if 0 ≤ s.toInt ∧ s.toInt ≤ 4 then 1 else 0)) I J R) := by
  refine SP_of ⟨by decide, rfl⟩ (Nat.le_of_ble_eq_true rfl) ?_
  refine WP_iload_n dX11_isWay_0 rfl ?_
  refine WP_i2l dX11_isWay_1 ?_
  refine WP_lconst (0) dX11_isWay_2 rfl ?_
  refine WP_ldc2 (4) dX11_isWay_3 klX11_452 ?_
  refine WP_callS3p dX11_isWay_6 ⟨⟨⟨by decide, by decide⟩, zX11_in⟩, lX11_52, tX11_in⟩ (s_in _ _ _) (Nat.le_of_ble_eq_true rfl) ?_
  exact WP_zret dX11_isWay_9 rfl (by split <;> rfl) ⟨(by simp only [t64, Int64.reduceToInt]), rfl, rfl, rfl⟩
set_option maxHeartbeats 4000000 in
set_option maxRecDepth 100000 in
theorem fr_may {g : GG} {I : pI} {J : pJ} {R : pR} (hy : Ly g) (hr : Rf g R) (hf : MF g I J) (a b c e f : Int32) : SP g mX11_may [.ref (ad g P_o), .int a, .int b, .int c, .int e, .int f] I J R (rq (-2)) := by
  refine SP_of ⟨by decide, rfl⟩ (Nat.le_of_ble_eq_true rfl) ?_
  have hf0 := hf
  obtain ⟨hmc, h_taped, h_fault, h_faultAt, h_clauses, h_turnsTold, h_held, h_now, h_kept⟩ := hf
  have hmc0 := hmc
  obtain ⟨h_sorts, h_things, h_chestSort, h_storedThing, h_rot⟩ := hmc
  have c0 : True := trivial
  refine WP_aload_n dX11_may_0 rfl ?_
  refine WP_iload_n dX11_may_1 rfl ?_
  refine WP_callV1p (k := 11) dX11_may_2 ⟨⟨⟨by decide, by decide⟩, zX11_isSort⟩, lX11_367, by decide, rfl, vX11_isSort.1, vX11_isSort.2⟩ (ly_is hy _ _ rfl) (s_isSort hy hr _) (Nat.le_of_ble_eq_true rfl) ?_
  refine WP_ifb_eq 43 dX11_may_5 rfl (fun c5 => ?_) (fun c5 => absurd c5 (by intro cc; (try simp only [h_taped, h_fault, h_faultAt, h_clauses, h_turnsTold, h_held, h_sorts, h_things, h_chestSort, h_storedThing, h_rot] at cc); (all_goals (try simp only [cmp_lt, cmp_gt] at cc)); (all_goals (try simp only [le32, lt32, eq32, t64, Int32.reduceToInt, Int64.reduceToInt] at cc)); (all_goals (try simp (disch := ((try simp (disch := ((try simp (disch := omega) only [ia, is', im, ja, js, ir, idv, Int32.reduceToInt, Int64.reduceToInt, t64]); omega)) only [ia, is', im, ja, js, ir, idv, Int32.reduceToInt, Int64.reduceToInt, t64]); omega)) only [ia, is', im, ja, js, ir, idv, Int32.reduceToInt, Int64.reduceToInt, t64] at cc)); all_goals omega))
  refine WP_bipush (-2) dX11_may_43 rfl ?_
  refine WP_goto 67 dX11_may_45 rfl ?_
  exact WP_iret dX11_may_67 rfl (by unfold rq; (try simp only [h_taped, h_fault, h_faultAt, h_clauses, h_turnsTold, h_held, h_sorts, h_things, h_chestSort, h_storedThing, h_rot] at c0 c5 ⊢); (all_goals (try simp only [cmp_lt, cmp_gt] at c0 c5 ⊢)); (all_goals (try simp only [le32, lt32, eq32, t64, vp_in_iff, Int32.reduceToInt, Int64.reduceToInt] at c0 c5)); (all_goals (try simp (disch := ((try simp (disch := ((try simp (disch := omega) only [ia, is', im, ja, js, ir, idv, Int32.reduceToInt, Int64.reduceToInt, t64]); omega)) only [ia, is', im, ja, js, ir, idv, Int32.reduceToInt, Int64.reduceToInt, t64]); omega)) only [ia, is', im, ja, js, ir, idv, Int32.reduceToInt, Int64.reduceToInt, t64] at c0 c5 ⊢)); (all_goals (first | rfl | (rw [if_pos (by omega)]; done) | (rw [if_neg (by omega)]; done) | (rw [if_neg (by omega), if_pos (by omega)]; done) | (rw [if_neg (by omega), if_neg (by omega)]; done) | (exfalso; omega))))
set_option maxHeartbeats 4000000 in
theorem s_isBest0 {g : GG} {I : pI} {J : pJ} {R : pR} (hy : Ly g) (hr : Rf g R) (hf : MF g I J) (a b c e f : Int32) : SP g mX11_isBest [.ref (ad g P_o), .int a, .int b, .int c, .int e, .int f] I J R (pq (.int 0) I J R) := by
  refine SP_of ⟨by decide, rfl⟩ (Nat.le_of_ble_eq_true rfl) ?_
  obtain ⟨hmc, h_taped, h_fault, h_faultAt, h_clauses, h_turnsTold, h_held, h_now, h_kept⟩ := hf
  have hmc0 := hmc
  obtain ⟨h_sorts, h_things, h_chestSort, h_storedThing, h_rot⟩ := hmc
  refine WP_aload_n dX11_isBest_0 rfl ?_
  refine WP_iload_n dX11_isBest_1 rfl ?_
  refine WP_callV1p (k := 11) dX11_isBest_2 ⟨⟨⟨by decide, by decide⟩, zX11_isSort⟩, lX11_367, by decide, rfl, vX11_isSort.1, vX11_isSort.2⟩ (ly_is hy _ _ rfl) (s_isSort hy hr _) (Nat.le_of_ble_eq_true rfl) ?_
  refine WP_ifb_eq 47 dX11_isBest_5 rfl (fun c5 => ?_) (fun c5 => absurd c5 (by intro cc; (try simp only [h_taped, h_fault, h_faultAt, h_clauses, h_turnsTold, h_held, h_sorts, h_things, h_chestSort, h_storedThing, h_rot] at cc); (all_goals (try simp only [cmp_lt, cmp_gt] at cc)); (all_goals (try simp only [le32, lt32, eq32, t64, Int32.reduceToInt, Int64.reduceToInt] at cc)); (all_goals (try simp (disch := ((try simp (disch := ((try simp (disch := omega) only [ia, is', im, ja, js, ir, idv, Int32.reduceToInt, Int64.reduceToInt, t64]); omega)) only [ia, is', im, ja, js, ir, idv, Int32.reduceToInt, Int64.reduceToInt, t64]); omega)) only [ia, is', im, ja, js, ir, idv, Int32.reduceToInt, Int64.reduceToInt, t64] at cc)); all_goals omega))
  refine WP_iconst (0) dX11_isBest_47 rfl ?_
  exact WP_zret dX11_isBest_48 rfl rfl ⟨rfl, rfl, rfl, rfl⟩
set_option maxHeartbeats 4000000 in
set_option maxRecDepth 100000 in
theorem fr_best {g : GG} {I : pI} {J : pJ} {R : pR} (hy : Ly g) (hr : Rf g R) (hf : MF g I J) (a b c e f : Int32) : SP g mX11_best [.ref (ad g P_o), .int a, .int b, .int c, .int e, .int f] I J R (rq (-2)) := by
  refine SP_of ⟨by decide, rfl⟩ (Nat.le_of_ble_eq_true rfl) ?_
  have hf0 := hf
  obtain ⟨hmc, h_taped, h_fault, h_faultAt, h_clauses, h_turnsTold, h_held, h_now, h_kept⟩ := hf
  have hmc0 := hmc
  obtain ⟨h_sorts, h_things, h_chestSort, h_storedThing, h_rot⟩ := hmc
  have c0 : True := trivial
  refine WP_aload_n dX11_best_0 rfl ?_
  refine WP_iload_n dX11_best_1 rfl ?_
  refine WP_iload_n dX11_best_2 rfl ?_
  refine WP_iload_n dX11_best_3 rfl ?_
  refine WP_iload dX11_best_4 rfl ?_
  refine WP_iload dX11_best_6 rfl ?_
  refine WP_callV5p (k := 11) dX11_best_8 ⟨⟨⟨by decide, by decide⟩, zX11_isBest⟩, lX11_435, by decide, rfl, vX11_isBest.1, vX11_isBest.2⟩ (ly_is hy _ _ rfl) (s_isBest0 hy hr hf0 _ _ _ _ _) (Nat.le_of_ble_eq_true rfl) ?_
  refine WP_if_ne 17 dX11_best_11 rfl (fun c11 => absurd c11 (fun h => h rfl)) (fun c11 => ?_)
  refine WP_bipush (-2) dX11_best_14 rfl ?_
  exact WP_iret dX11_best_16 rfl (by unfold rq; (try simp only [h_taped, h_fault, h_faultAt, h_clauses, h_turnsTold, h_held, h_sorts, h_things, h_chestSort, h_storedThing, h_rot] at c0 c11 ⊢); (all_goals (try simp only [cmp_lt, cmp_gt] at c0 c11 ⊢)); (all_goals (try simp only [le32, lt32, eq32, t64, vp_in_iff, Int32.reduceToInt, Int64.reduceToInt] at c0 c11)); (all_goals (try simp (disch := ((try simp (disch := ((try simp (disch := omega) only [ia, is', im, ja, js, ir, idv, Int32.reduceToInt, Int64.reduceToInt, t64]); omega)) only [ia, is', im, ja, js, ir, idv, Int32.reduceToInt, Int64.reduceToInt, t64]); omega)) only [ia, is', im, ja, js, ir, idv, Int32.reduceToInt, Int64.reduceToInt, t64] at c0 c11 ⊢)); (all_goals (first | rfl | (rw [if_pos (by omega)]; done) | (rw [if_neg (by omega)]; done) | (rw [if_neg (by omega), if_pos (by omega)]; done) | (rw [if_neg (by omega), if_neg (by omega)]; done) | (exfalso; omega))))
set_option maxHeartbeats 4000000 in
set_option maxRecDepth 100000 in
theorem fr_bestAct {g : GG} {I : pI} {J : pJ} {R : pR} (hy : Ly g) (hr : Rf g R) (hf : MF g I J) (a b c e f : Int32) : SP g mX11_bestAct [.ref (ad g P_o), .int a, .int b, .int c, .int e, .int f] I J R (rq (-2)) := by
  refine SP_of ⟨by decide, rfl⟩ (Nat.le_of_ble_eq_true rfl) ?_
  have hf0 := hf
  obtain ⟨hmc, h_taped, h_fault, h_faultAt, h_clauses, h_turnsTold, h_held, h_now, h_kept⟩ := hf
  have hmc0 := hmc
  obtain ⟨h_sorts, h_things, h_chestSort, h_storedThing, h_rot⟩ := hmc
  have c0 : True := trivial
  refine WP_aload_n dX11_bestAct_0 rfl ?_
  refine WP_iload_n dX11_bestAct_1 rfl ?_
  refine WP_iload_n dX11_bestAct_2 rfl ?_
  refine WP_iload_n dX11_bestAct_3 rfl ?_
  refine WP_iload dX11_bestAct_4 rfl ?_
  refine WP_iload dX11_bestAct_6 rfl ?_
  refine WP_callV5p (k := 11) dX11_bestAct_8 ⟨⟨⟨by decide, by decide⟩, zX11_isBest⟩, lX11_435, by decide, rfl, vX11_isBest.1, vX11_isBest.2⟩ (ly_is hy _ _ rfl) (s_isBest0 hy hr hf0 _ _ _ _ _) (Nat.le_of_ble_eq_true rfl) ?_
  refine WP_if_ne 17 dX11_bestAct_11 rfl (fun c11 => absurd c11 (fun h => h rfl)) (fun c11 => ?_)
  refine WP_bipush (-2) dX11_bestAct_14 rfl ?_
  exact WP_iret dX11_bestAct_16 rfl (by unfold rq; (try simp only [h_taped, h_fault, h_faultAt, h_clauses, h_turnsTold, h_held, h_sorts, h_things, h_chestSort, h_storedThing, h_rot] at c0 c11 ⊢); (all_goals (try simp only [cmp_lt, cmp_gt] at c0 c11 ⊢)); (all_goals (try simp only [le32, lt32, eq32, t64, vp_in_iff, Int32.reduceToInt, Int64.reduceToInt] at c0 c11)); (all_goals (try simp (disch := ((try simp (disch := ((try simp (disch := omega) only [ia, is', im, ja, js, ir, idv, Int32.reduceToInt, Int64.reduceToInt, t64]); omega)) only [ia, is', im, ja, js, ir, idv, Int32.reduceToInt, Int64.reduceToInt, t64]); omega)) only [ia, is', im, ja, js, ir, idv, Int32.reduceToInt, Int64.reduceToInt, t64] at c0 c11 ⊢)); (all_goals (first | rfl | (rw [if_pos (by omega)]; done) | (rw [if_neg (by omega)]; done) | (rw [if_neg (by omega), if_pos (by omega)]; done) | (rw [if_neg (by omega), if_neg (by omega)]; done) | (exfalso; omega))))
set_option maxHeartbeats 4000000 in
set_option maxRecDepth 100000 in
theorem fr_wayAct {g : GG} {I : pI} {J : pJ} {R : pR} (hy : Ly g) (hr : Rf g R) (hf : MF g I J) (a b c e f : Int32) : SP g mX11_wayAct [.ref (ad g P_o), .int a, .int b, .int c, .int e, .int f] I J R (rq (-2)) := by
  refine SP_of ⟨by decide, rfl⟩ (Nat.le_of_ble_eq_true rfl) ?_
  have hf0 := hf
  obtain ⟨hmc, h_taped, h_fault, h_faultAt, h_clauses, h_turnsTold, h_held, h_now, h_kept⟩ := hf
  have hmc0 := hmc
  obtain ⟨h_sorts, h_things, h_chestSort, h_storedThing, h_rot⟩ := hmc
  have c0 : True := trivial
  refine WP_iload_n dX11_wayAct_0 rfl ?_
  refine WP_callS1p dX11_wayAct_1 ⟨⟨⟨by decide, by decide⟩, zX11_isWay⟩, lX11_454, tX11_isWay⟩ (s_isWay _) (Nat.le_of_ble_eq_true rfl) ?_
  refine WP_ifb_eq 52 dX11_wayAct_4 rfl (fun c4 => ?_) (fun c4 => ?_)
  · refine WP_bipush (-2) dX11_wayAct_52 rfl ?_
    exact WP_iret dX11_wayAct_54 rfl (by unfold rq; (try simp only [h_taped, h_fault, h_faultAt, h_clauses, h_turnsTold, h_held, h_sorts, h_things, h_chestSort, h_storedThing, h_rot] at c0 c4 ⊢); (all_goals (try simp only [cmp_lt, cmp_gt] at c0 c4 ⊢)); (all_goals (try simp only [le32, lt32, eq32, t64, vp_in_iff, Int32.reduceToInt, Int64.reduceToInt] at c0 c4)); (all_goals (try simp (disch := ((try simp (disch := ((try simp (disch := omega) only [ia, is', im, ja, js, ir, idv, Int32.reduceToInt, Int64.reduceToInt, t64]); omega)) only [ia, is', im, ja, js, ir, idv, Int32.reduceToInt, Int64.reduceToInt, t64]); omega)) only [ia, is', im, ja, js, ir, idv, Int32.reduceToInt, Int64.reduceToInt, t64] at c0 c4 ⊢)); (all_goals (first | rfl | (rw [if_pos (by omega)]; done) | (rw [if_neg (by omega)]; done) | (rw [if_neg (by omega), if_pos (by omega)]; done) | (rw [if_neg (by omega), if_neg (by omega)]; done) | (exfalso; omega))))
  · refine WP_aload_n dX11_wayAct_7 rfl ?_
    refine WP_iload_n dX11_wayAct_8 rfl ?_
    refine WP_callV1p (k := 11) dX11_wayAct_9 ⟨⟨⟨by decide, by decide⟩, zX11_isSort⟩, lX11_367, by decide, rfl, vX11_isSort.1, vX11_isSort.2⟩ (ly_is hy _ _ rfl) (s_isSort hy hr _) (Nat.le_of_ble_eq_true rfl) ?_
    refine WP_ifb_eq 52 dX11_wayAct_12 rfl (fun c12 => ?_) (fun c12 => absurd c12 (by intro cc; (try simp only [h_taped, h_fault, h_faultAt, h_clauses, h_turnsTold, h_held, h_sorts, h_things, h_chestSort, h_storedThing, h_rot] at cc); (all_goals (try simp only [cmp_lt, cmp_gt] at cc)); (all_goals (try simp only [le32, lt32, eq32, t64, Int32.reduceToInt, Int64.reduceToInt] at cc)); (all_goals (try simp (disch := ((try simp (disch := ((try simp (disch := omega) only [ia, is', im, ja, js, ir, idv, Int32.reduceToInt, Int64.reduceToInt, t64]); omega)) only [ia, is', im, ja, js, ir, idv, Int32.reduceToInt, Int64.reduceToInt, t64]); omega)) only [ia, is', im, ja, js, ir, idv, Int32.reduceToInt, Int64.reduceToInt, t64] at cc)); all_goals omega))
    refine WP_bipush (-2) dX11_wayAct_52 rfl ?_
    exact WP_iret dX11_wayAct_54 rfl (by unfold rq; (try simp only [h_taped, h_fault, h_faultAt, h_clauses, h_turnsTold, h_held, h_sorts, h_things, h_chestSort, h_storedThing, h_rot] at c0 c4 c12 ⊢); (all_goals (try simp only [cmp_lt, cmp_gt] at c0 c4 c12 ⊢)); (all_goals (try simp only [le32, lt32, eq32, t64, vp_in_iff, Int32.reduceToInt, Int64.reduceToInt] at c0 c4 c12)); (all_goals (try simp (disch := ((try simp (disch := ((try simp (disch := omega) only [ia, is', im, ja, js, ir, idv, Int32.reduceToInt, Int64.reduceToInt, t64]); omega)) only [ia, is', im, ja, js, ir, idv, Int32.reduceToInt, Int64.reduceToInt, t64]); omega)) only [ia, is', im, ja, js, ir, idv, Int32.reduceToInt, Int64.reduceToInt, t64] at c0 c4 c12 ⊢)); (all_goals (first | rfl | (rw [if_pos (by omega)]; done) | (rw [if_neg (by omega)]; done) | (rw [if_neg (by omega), if_pos (by omega)]; done) | (rw [if_neg (by omega), if_neg (by omega)]; done) | (exfalso; omega))))
set_option maxHeartbeats 4000000 in
set_option maxRecDepth 100000 in
theorem fr_way {g : GG} {I : pI} {J : pJ} {R : pR} (hy : Ly g) (hr : Rf g R) (hf : MF g I J) (a b : Int32) : SP g mX11_way [.ref (ad g P_o), .int a, .int b] I J R (rq (-2)) := by
  refine SP_of ⟨by decide, rfl⟩ (Nat.le_of_ble_eq_true rfl) ?_
  have hf0 := hf
  obtain ⟨hmc, h_taped, h_fault, h_faultAt, h_clauses, h_turnsTold, h_held, h_now, h_kept⟩ := hf
  have hmc0 := hmc
  obtain ⟨h_sorts, h_things, h_chestSort, h_storedThing, h_rot⟩ := hmc
  have c0 : True := trivial
  refine WP_aload_n dX11_way_0 rfl ?_
  refine WP_iload_n dX11_way_1 rfl ?_
  refine WP_callV1p (k := 11) dX11_way_2 ⟨⟨⟨by decide, by decide⟩, zX11_isSort⟩, lX11_367, by decide, rfl, vX11_isSort.1, vX11_isSort.2⟩ (ly_is hy _ _ rfl) (s_isSort hy hr _) (Nat.le_of_ble_eq_true rfl) ?_
  refine WP_ifb_eq 15 dX11_way_5 rfl (fun c5 => ?_) (fun c5 => absurd c5 (by intro cc; (try simp only [h_taped, h_fault, h_faultAt, h_clauses, h_turnsTold, h_held, h_sorts, h_things, h_chestSort, h_storedThing, h_rot] at cc); (all_goals (try simp only [cmp_lt, cmp_gt] at cc)); (all_goals (try simp only [le32, lt32, eq32, t64, Int32.reduceToInt, Int64.reduceToInt] at cc)); (all_goals (try simp (disch := ((try simp (disch := ((try simp (disch := omega) only [ia, is', im, ja, js, ir, idv, Int32.reduceToInt, Int64.reduceToInt, t64]); omega)) only [ia, is', im, ja, js, ir, idv, Int32.reduceToInt, Int64.reduceToInt, t64]); omega)) only [ia, is', im, ja, js, ir, idv, Int32.reduceToInt, Int64.reduceToInt, t64] at cc)); all_goals omega))
  refine WP_bipush (-2) dX11_way_15 rfl ?_
  exact WP_iret dX11_way_17 rfl (by unfold rq; (try simp only [h_taped, h_fault, h_faultAt, h_clauses, h_turnsTold, h_held, h_sorts, h_things, h_chestSort, h_storedThing, h_rot] at c0 c5 ⊢); (all_goals (try simp only [cmp_lt, cmp_gt] at c0 c5 ⊢)); (all_goals (try simp only [le32, lt32, eq32, t64, vp_in_iff, Int32.reduceToInt, Int64.reduceToInt] at c0 c5)); (all_goals (try simp (disch := ((try simp (disch := ((try simp (disch := omega) only [ia, is', im, ja, js, ir, idv, Int32.reduceToInt, Int64.reduceToInt, t64]); omega)) only [ia, is', im, ja, js, ir, idv, Int32.reduceToInt, Int64.reduceToInt, t64]); omega)) only [ia, is', im, ja, js, ir, idv, Int32.reduceToInt, Int64.reduceToInt, t64] at c0 c5 ⊢)); (all_goals (first | rfl | (rw [if_pos (by omega)]; done) | (rw [if_neg (by omega)]; done) | (rw [if_neg (by omega), if_pos (by omega)]; done) | (rw [if_neg (by omega), if_neg (by omega)]; done) | (exfalso; omega))))
set_option maxHeartbeats 4000000 in
set_option maxRecDepth 100000 in
theorem fr_run {g : GG} {I : pI} {J : pJ} {R : pR} (hy : Ly g) (hr : Rf g R) (hf : MF g I J) (a b : Int32) : SP g mX11_run [.ref (ad g P_o), .int a, .int b] I J R (rq (-2)) := by
  refine SP_of ⟨by decide, rfl⟩ (Nat.le_of_ble_eq_true rfl) ?_
  have hf0 := hf
  obtain ⟨hmc, h_taped, h_fault, h_faultAt, h_clauses, h_turnsTold, h_held, h_now, h_kept⟩ := hf
  have hmc0 := hmc
  obtain ⟨h_sorts, h_things, h_chestSort, h_storedThing, h_rot⟩ := hmc
  have c0 : True := trivial
  refine WP_aload_n dX11_run_0 rfl ?_
  refine WP_iload_n dX11_run_1 rfl ?_
  refine WP_callV1p (k := 11) dX11_run_2 ⟨⟨⟨by decide, by decide⟩, zX11_isSort⟩, lX11_367, by decide, rfl, vX11_isSort.1, vX11_isSort.2⟩ (ly_is hy _ _ rfl) (s_isSort hy hr _) (Nat.le_of_ble_eq_true rfl) ?_
  refine WP_ifb_eq 20 dX11_run_5 rfl (fun c5 => ?_) (fun c5 => absurd c5 (by intro cc; (try simp only [h_taped, h_fault, h_faultAt, h_clauses, h_turnsTold, h_held, h_sorts, h_things, h_chestSort, h_storedThing, h_rot] at cc); (all_goals (try simp only [cmp_lt, cmp_gt] at cc)); (all_goals (try simp only [le32, lt32, eq32, t64, Int32.reduceToInt, Int64.reduceToInt] at cc)); (all_goals (try simp (disch := ((try simp (disch := ((try simp (disch := omega) only [ia, is', im, ja, js, ir, idv, Int32.reduceToInt, Int64.reduceToInt, t64]); omega)) only [ia, is', im, ja, js, ir, idv, Int32.reduceToInt, Int64.reduceToInt, t64]); omega)) only [ia, is', im, ja, js, ir, idv, Int32.reduceToInt, Int64.reduceToInt, t64] at cc)); all_goals omega))
  refine WP_bipush (-2) dX11_run_20 rfl ?_
  exact WP_iret dX11_run_22 rfl (by unfold rq; (try simp only [h_taped, h_fault, h_faultAt, h_clauses, h_turnsTold, h_held, h_sorts, h_things, h_chestSort, h_storedThing, h_rot] at c0 c5 ⊢); (all_goals (try simp only [cmp_lt, cmp_gt] at c0 c5 ⊢)); (all_goals (try simp only [le32, lt32, eq32, t64, vp_in_iff, Int32.reduceToInt, Int64.reduceToInt] at c0 c5)); (all_goals (try simp (disch := ((try simp (disch := ((try simp (disch := omega) only [ia, is', im, ja, js, ir, idv, Int32.reduceToInt, Int64.reduceToInt, t64]); omega)) only [ia, is', im, ja, js, ir, idv, Int32.reduceToInt, Int64.reduceToInt, t64]); omega)) only [ia, is', im, ja, js, ir, idv, Int32.reduceToInt, Int64.reduceToInt, t64] at c0 c5 ⊢)); (all_goals (first | rfl | (rw [if_pos (by omega)]; done) | (rw [if_neg (by omega)]; done) | (rw [if_neg (by omega), if_pos (by omega)]; done) | (rw [if_neg (by omega), if_neg (by omega)]; done) | (exfalso; omega))))
set_option maxHeartbeats 4000000 in
set_option maxRecDepth 100000 in
theorem fr_meet {g : GG} {I : pI} {J : pJ} {R : pR} (hy : Ly g) (hr : Rf g R) (hf : MF g I J) (a b c e f h : Int32) : SP g mX11_meet [.ref (ad g P_o), .int a, .int b, .int c, .int e, .int f, .int h] I J R (rq (-1000000)) := by
  refine SP_of ⟨by decide, rfl⟩ (Nat.le_of_ble_eq_true rfl) ?_
  have hf0 := hf
  obtain ⟨hmc, h_taped, h_fault, h_faultAt, h_clauses, h_turnsTold, h_held, h_now, h_kept⟩ := hf
  have hmc0 := hmc
  obtain ⟨h_sorts, h_things, h_chestSort, h_storedThing, h_rot⟩ := hmc
  have c0 : True := trivial
  refine WP_aload_n dX11_meet_0 rfl ?_
  refine WP_iload_n dX11_meet_1 rfl ?_
  refine WP_callV1p (k := 11) dX11_meet_2 ⟨⟨⟨by decide, by decide⟩, zX11_isSort⟩, lX11_367, by decide, rfl, vX11_isSort.1, vX11_isSort.2⟩ (ly_is hy _ _ rfl) (s_isSort hy hr _) (Nat.le_of_ble_eq_true rfl) ?_
  refine WP_ifb_eq 47 dX11_meet_5 rfl (fun c5 => ?_) (fun c5 => absurd c5 (by intro cc; (try simp only [h_taped, h_fault, h_faultAt, h_clauses, h_turnsTold, h_held, h_sorts, h_things, h_chestSort, h_storedThing, h_rot] at cc); (all_goals (try simp only [cmp_lt, cmp_gt] at cc)); (all_goals (try simp only [le32, lt32, eq32, t64, Int32.reduceToInt, Int64.reduceToInt] at cc)); (all_goals (try simp (disch := ((try simp (disch := ((try simp (disch := omega) only [ia, is', im, ja, js, ir, idv, Int32.reduceToInt, Int64.reduceToInt, t64]); omega)) only [ia, is', im, ja, js, ir, idv, Int32.reduceToInt, Int64.reduceToInt, t64]); omega)) only [ia, is', im, ja, js, ir, idv, Int32.reduceToInt, Int64.reduceToInt, t64] at cc)); all_goals omega))
  refine WP_ldcw (-1000000) dX11_meet_47 kX11_544 ?_
  exact WP_iret dX11_meet_50 rfl (by unfold rq; (try simp only [h_taped, h_fault, h_faultAt, h_clauses, h_turnsTold, h_held, h_sorts, h_things, h_chestSort, h_storedThing, h_rot] at c0 c5 ⊢); (all_goals (try simp only [cmp_lt, cmp_gt] at c0 c5 ⊢)); (all_goals (try simp only [le32, lt32, eq32, t64, vp_in_iff, Int32.reduceToInt, Int64.reduceToInt] at c0 c5)); (all_goals (try simp (disch := ((try simp (disch := ((try simp (disch := omega) only [ia, is', im, ja, js, ir, idv, Int32.reduceToInt, Int64.reduceToInt, t64]); omega)) only [ia, is', im, ja, js, ir, idv, Int32.reduceToInt, Int64.reduceToInt, t64]); omega)) only [ia, is', im, ja, js, ir, idv, Int32.reduceToInt, Int64.reduceToInt, t64] at c0 c5 ⊢)); (all_goals (first | rfl | (rw [if_pos (by omega)]; done) | (rw [if_neg (by omega)]; done) | (rw [if_neg (by omega), if_pos (by omega)]; done) | (rw [if_neg (by omega), if_neg (by omega)]; done) | (exfalso; omega))))
set_option maxHeartbeats 4000000 in
set_option maxRecDepth 100000 in
theorem fr_all {g : GG} {I : pI} {J : pJ} {R : pR} (hy : Ly g) (hr : Rf g R) (hf : MF g I J) (a : Int32) : SP g mX11_all [.ref (ad g P_o), .int a] I J R (rq (if a.toInt = 0 ∨ a.toInt = 1 ∨ a.toInt = 3 then 0 else -1)) := by
  refine SP_of ⟨by decide, rfl⟩ (Nat.le_of_ble_eq_true rfl) ?_
  have hf0 := hf
  obtain ⟨hmc, h_taped, h_fault, h_faultAt, h_clauses, h_turnsTold, h_held, h_now, h_kept⟩ := hf
  have hmc0 := hmc
  obtain ⟨h_sorts, h_things, h_chestSort, h_storedThing, h_rot⟩ := hmc
  have c0 : True := trivial
  refine WP_iload_n dX11_all_0 rfl ?_
  refine WP_tab 89 dX11_all_1 rfl rfl (fun c1 => ?_) (fun j off c1 hj => ?_) (by decide)
  · refine WP_iconst (-1) dX11_all_89 rfl ?_
    exact WP_iret dX11_all_90 rfl (by unfold rq; rw [if_neg (by omega)])
  · have hlt : j < 4 := by have := (Array.getElem?_eq_some_iff.mp hj).1; simpa using this
    have hcs : (j = 0 ∧ off = 31) ∨ (j = 1 ∧ off = 39) ∨ (j = 2 ∧ off = 47) ∨ (j = 3 ∧ off = 80) := by
      match j, hlt, hj with
      | 0, _, hj => exact Or.inl ⟨rfl, (Option.some.inj hj).symm⟩
      | 1, _, hj => exact Or.inr (Or.inl ⟨rfl, (Option.some.inj hj).symm⟩)
      | 2, _, hj => exact Or.inr (Or.inr (Or.inl ⟨rfl, (Option.some.inj hj).symm⟩))
      | 3, _, hj => exact Or.inr (Or.inr (Or.inr (⟨rfl, (Option.some.inj hj).symm⟩)))
    clear hj hlt
    rcases hcs with ⟨rfl, rfl⟩ | ⟨rfl, rfl⟩ | ⟨rfl, rfl⟩ | ⟨rfl, rfl⟩
    · show WP _ _ 32 _ _ _ _ _ _
      refine WP_aload_n dX11_all_32 rfl ?_
      refine WP_getr dX11_all_33 fX11_283 rfl (ly_is hy _ _ rfl) (rf hr 0 59 38 (by decide)) ?_
      refine WP_bipush (32) dX11_all_36 rfl ?_
      refine WP_iald dX11_all_38 (ly_is hy _ _ rfl) (ly_in hy _ _ rfl (by (try simp only [h_taped, h_fault, h_faultAt, h_clauses, h_turnsTold, h_held, h_sorts, h_things, h_chestSort, h_storedThing, h_rot] at c0 c1 ⊢); (all_goals (try simp only [cmp_lt, cmp_gt] at c0 c1 ⊢)); (all_goals (try simp only [le32, lt32, eq32, t64, vp_in_iff, Int32.reduceToInt, Int64.reduceToInt] at c0 c1 ⊢)); (all_goals (try simp (disch := ((try simp (disch := ((try simp (disch := omega) only [ia, is', im, ja, js, ir, idv, Int32.reduceToInt, Int64.reduceToInt, t64]); omega)) only [ia, is', im, ja, js, ir, idv, Int32.reduceToInt, Int64.reduceToInt, t64]); omega)) only [ia, is', im, ja, js, ir, idv, Int32.reduceToInt, Int64.reduceToInt, t64] at c0 c1 ⊢)); all_goals (first | (constructor <;> omega) | (exfalso; omega)))) ?_
      exact WP_iret dX11_all_39 rfl (by unfold rq; rw [h_now _ (by decide), if_pos (by omega)])
    · show WP _ _ 40 _ _ _ _ _ _
      refine WP_aload_n dX11_all_40 rfl ?_
      refine WP_getr dX11_all_41 fX11_283 rfl (ly_is hy _ _ rfl) (rf hr 0 59 38 (by decide)) ?_
      refine WP_bipush (33) dX11_all_44 rfl ?_
      refine WP_iald dX11_all_46 (ly_is hy _ _ rfl) (ly_in hy _ _ rfl (by (try simp only [h_taped, h_fault, h_faultAt, h_clauses, h_turnsTold, h_held, h_sorts, h_things, h_chestSort, h_storedThing, h_rot] at c0 c1 ⊢); (all_goals (try simp only [cmp_lt, cmp_gt] at c0 c1 ⊢)); (all_goals (try simp only [le32, lt32, eq32, t64, vp_in_iff, Int32.reduceToInt, Int64.reduceToInt] at c0 c1 ⊢)); (all_goals (try simp (disch := ((try simp (disch := ((try simp (disch := omega) only [ia, is', im, ja, js, ir, idv, Int32.reduceToInt, Int64.reduceToInt, t64]); omega)) only [ia, is', im, ja, js, ir, idv, Int32.reduceToInt, Int64.reduceToInt, t64]); omega)) only [ia, is', im, ja, js, ir, idv, Int32.reduceToInt, Int64.reduceToInt, t64] at c0 c1 ⊢)); all_goals (first | (constructor <;> omega) | (exfalso; omega)))) ?_
      exact WP_iret dX11_all_47 rfl (by unfold rq; rw [h_now _ (by decide), if_pos (by omega)])
    · show WP _ _ 48 _ _ _ _ _ _
      refine WP_aload_n dX11_all_48 rfl ?_
      refine WP_getl dX11_all_49 fX11_346 rfl (ly_is hy _ _ rfl) ?_
      refine WP_lconst (0) dX11_all_52 rfl ?_
      refine WP_lcmp dX11_all_53 ?_
      refine WP_if_ne 61 dX11_all_54 rfl (fun c54 => absurd c54 (by rw [h_held]; decide)) (fun c54 => ?_)
      refine WP_iconst (-1) dX11_all_57 rfl ?_
      refine WP_goto 80 dX11_all_58 rfl ?_
      exact WP_iret dX11_all_80 rfl (by unfold rq; rw [if_neg (by omega)])
    · show WP _ _ 81 _ _ _ _ _ _
      refine WP_aload_n dX11_all_81 rfl ?_
      refine WP_getr dX11_all_82 fX11_283 rfl (ly_is hy _ _ rfl) (rf hr 0 59 38 (by decide)) ?_
      refine WP_bipush (34) dX11_all_85 rfl ?_
      refine WP_iald dX11_all_87 (ly_is hy _ _ rfl) (ly_in hy _ _ rfl (by (try simp only [h_taped, h_fault, h_faultAt, h_clauses, h_turnsTold, h_held, h_sorts, h_things, h_chestSort, h_storedThing, h_rot] at c0 c1 ⊢); (all_goals (try simp only [cmp_lt, cmp_gt] at c0 c1 ⊢)); (all_goals (try simp only [le32, lt32, eq32, t64, vp_in_iff, Int32.reduceToInt, Int64.reduceToInt] at c0 c1 ⊢)); (all_goals (try simp (disch := ((try simp (disch := ((try simp (disch := omega) only [ia, is', im, ja, js, ir, idv, Int32.reduceToInt, Int64.reduceToInt, t64]); omega)) only [ia, is', im, ja, js, ir, idv, Int32.reduceToInt, Int64.reduceToInt, t64]); omega)) only [ia, is', im, ja, js, ir, idv, Int32.reduceToInt, Int64.reduceToInt, t64] at c0 c1 ⊢)); all_goals (first | (constructor <;> omega) | (exfalso; omega)))) ?_
      exact WP_iret dX11_all_88 rfl (by unfold rq; rw [h_now _ (by decide), if_pos (by omega)])
