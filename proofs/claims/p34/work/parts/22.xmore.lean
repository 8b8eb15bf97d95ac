theorem idn {x : Int32} (h : x.toInt < 0) : (x / 10).toInt ≤ 0 := by
  have r := rng x
  have e : (10 : Int32).toInt = 10 := rfl
  have e1 : x.toInt.tdiv 10 = -((-x.toInt) / 10) := by
    have h2 : x.toInt = -(-x.toInt) := by omega
    rw [h2, Int.neg_tdiv, Int.tdiv_eq_ediv_of_nonneg (by omega)]
    omega
  rw [Int32.toInt_div, e, e1, bm32 (by omega) (by omega)]
  omega
set_option maxHeartbeats 4000000 in
set_option maxRecDepth 100000 in
theorem xr_told {g : GG} {I : pI} {J : pJ} {R : pR} (hy : LyX g) (hr : RfX g R) (hf : XF g I J R) (a : Int32) : SP g mX10_told [.ref (ad g P_x), .int a] I J R (rq (if (10 ≤ a.toInt ∧ a.toInt ≤ 16) ∨ a.toInt = 0 ∨ a.toInt = 1 then 0 else -1)) := by
  refine SP_of ⟨by decide, rfl⟩ (Nat.le_of_ble_eq_true rfl) ?_
  have c0 : True := trivial
  have hf0 := hf
  obtain ⟨hxc, h_length, h_kind, h_place, h_clauses, h_turns, h_days, h_chestC, h_bought, h_held, h_cost0, h_s0, h_s1, h_s2, h_spare, h_loss, h_mloss, h_stamps⟩ := hf
  have hxc0 := hxc
  obtain ⟨h_town, h_sorts, h_things, h_chest, h_stored⟩ := hxc
  have e10 : (10 : Int32).toInt = 10 := rfl
  have hd1 : a.toInt < 0 → (a / 10).toInt ≤ 0 := idn
  have hd2 : 0 ≤ a.toInt → (a / 10).toInt = a.toInt / 10 := fun h => by rw [idv h (by rw [e10]; omega), e10]
  have hd3 : 0 ≤ a.toInt → (a - a / 10 * 10).toInt = a.toInt % 10 := fun h => by rw [ir h (by rw [e10]; omega), e10]
  refine WP_aload_n dX10_told_0 rfl ?_
  refine WP_getr dX10_told_1 fX10_33 rfl (lyx_is hy _ _ rfl) (rfx hr 0 2 5 (by decide)) ?_
  refine WP_getr dX10_told_4 fX10_102 rfl (lyx_is hy _ _ rfl) h_town ?_
  refine WP_astore_n (ls' := [(0, _), (1, _), (2, _)]) dX10_told_7 (by decide) rfl ?_
  refine WP_iload_n dX10_told_8 rfl ?_
  refine WP_tab 60 dX10_told_9 rfl rfl (fun c9 => ?_) (fun j off c9 hj => ?_) (by decide)
  · refine WP_iload_n dX10_told_60 rfl ?_
    refine WP_bipush (10) dX10_told_61 rfl ?_
    refine WP_idiv dX10_told_63 (by decide) ?_
    refine WP_istore_n (ls' := [(0, _), (1, _), (2, _), (3, _)]) dX10_told_64 (by decide) rfl ?_
    refine WP_iload_n dX10_told_65 rfl ?_
    refine WP_bipush (10) dX10_told_66 rfl ?_
    refine WP_irem dX10_told_68 (by decide) ?_
    refine WP_istore (ls' := [(0, _), (1, _), (2, _), (3, _), (4, _)]) dX10_told_69 (by decide) rfl ?_
    refine WP_iload dX10_told_71 rfl ?_
    refine WP_if_ge 78 dX10_told_73 rfl (fun c73 => ?_) (fun c73 => ?_)
    · have c73i : 0 ≤ (a - a / 10 * 10).toInt := by have h := c73; rw [le32] at h; exact h
      refine WP_iload_n dX10_told_78 rfl ?_
      refine WP_iconst (1) dX10_told_79 rfl ?_
      refine WP_icmp_ne 102 dX10_told_80 rfl (fun c80 => ?_) (fun c80 => ?_)
      · refine WP_iload_n dX10_told_102 rfl ?_
        refine WP_bipush (6) dX10_told_103 rfl ?_
        refine WP_icmp_eq 114 dX10_told_105 rfl (fun c105 => ?_) (fun c105 => ?_)
        · refine WP_iload dX10_told_114 rfl ?_
          refine WP_aload_n dX10_told_116 rfl ?_
          refine WP_geti dX10_told_117 fX10_117 rfl (lyx_is hy _ _ rfl) ?_
          refine WP_icmp_ge 149 dX10_told_120 rfl (fun c120 => ?_) (fun c120 => absurd c120 (by intro cc; (try simp only [h_sorts, h_things, h_chest, h_stored, h_length, h_kind, h_place, h_clauses, h_turns, h_days, h_chestC, h_bought, h_held, h_loss, h_mloss, h_cost0] at cc); (all_goals (try simp only [cmp_lt, cmp_gt] at cc)); (all_goals (try simp only [le32, lt32, eq32, t64, Int32.reduceToInt, Int64.reduceToInt] at cc)); (all_goals (try simp (disch := ((try simp (disch := ((try simp (disch := omega) only [ia, is', im, ja, js, ir, idv, Int32.reduceToInt, Int64.reduceToInt, t64]); omega)) only [ia, is', im, ja, js, ir, idv, Int32.reduceToInt, Int64.reduceToInt, t64]); omega)) only [ia, is', im, ja, js, ir, idv, Int32.reduceToInt, Int64.reduceToInt, t64] at cc)); (all_goals (try simp only [h_sorts, h_things, h_chest, h_stored, h_length, h_kind, h_place, h_clauses, h_turns, h_days, h_chestC, h_bought, h_held, h_loss, h_mloss, h_cost0] at cc)); (all_goals (try simp only [not_true_eq_false, eq_self] at cc)); all_goals omega))
          refine WP_iconst (-1) dX10_told_149 rfl ?_
          exact WP_iret dX10_told_150 rfl (by unfold rq; (try simp only [h_sorts, h_things, h_chest, h_stored, h_length, h_kind, h_place, h_clauses, h_turns, h_days, h_chestC, h_bought, h_held, h_loss, h_mloss, h_cost0] at c0 c9 c73 c80 c105 c120 ⊢); (all_goals (try simp only [cmp_lt, cmp_gt] at c0 c9 c73 c80 c105 c120 ⊢)); (all_goals (try simp only [le32, lt32, eq32, t64, vp_in_iff, Int32.reduceToInt, Int64.reduceToInt] at c0 c9 c73 c80 c105 c120)); (all_goals (try simp (disch := ((try simp (disch := ((try simp (disch := omega) only [ia, is', im, ja, js, ir, idv, Int32.reduceToInt, Int64.reduceToInt, t64]); omega)) only [ia, is', im, ja, js, ir, idv, Int32.reduceToInt, Int64.reduceToInt, t64]); omega)) only [ia, is', im, ja, js, ir, idv, Int32.reduceToInt, Int64.reduceToInt, t64] at c0 c9 c73 c80 c105 c120 ⊢)); (all_goals (try simp only [h_sorts, h_things, h_chest, h_stored, h_length, h_kind, h_place, h_clauses, h_turns, h_days, h_chestC, h_bought, h_held, h_loss, h_mloss, h_cost0] at c0 c9 c73 c80 c105 c120 ⊢)); (all_goals (first | rfl | (rw [if_pos (by omega)]; done) | (rw [if_neg (by omega)]; done) | (rw [if_neg (by omega), if_pos (by omega)]; done) | (rw [if_neg (by omega), if_neg (by omega)]; done) | (exfalso; omega))))
        · refine WP_iload_n dX10_told_108 rfl ?_
          refine WP_bipush (7) dX10_told_109 rfl ?_
          refine WP_icmp_ne 151 dX10_told_111 rfl (fun c111 => ?_) (fun c111 => ?_)
          · refine WP_iload dX10_told_151 rfl ?_
            refine WP_aload_n dX10_told_153 rfl ?_
            refine WP_geti dX10_told_154 fX10_114 rfl (lyx_is hy _ _ rfl) ?_
            refine WP_icmp_ge 170 dX10_told_157 rfl (fun c157 => ?_) (fun c157 => absurd c157 (by intro cc; (try simp only [h_sorts, h_things, h_chest, h_stored, h_length, h_kind, h_place, h_clauses, h_turns, h_days, h_chestC, h_bought, h_held, h_loss, h_mloss, h_cost0] at cc); (all_goals (try simp only [cmp_lt, cmp_gt] at cc)); (all_goals (try simp only [le32, lt32, eq32, t64, Int32.reduceToInt, Int64.reduceToInt] at cc)); (all_goals (try simp (disch := ((try simp (disch := ((try simp (disch := omega) only [ia, is', im, ja, js, ir, idv, Int32.reduceToInt, Int64.reduceToInt, t64]); omega)) only [ia, is', im, ja, js, ir, idv, Int32.reduceToInt, Int64.reduceToInt, t64]); omega)) only [ia, is', im, ja, js, ir, idv, Int32.reduceToInt, Int64.reduceToInt, t64] at cc)); (all_goals (try simp only [h_sorts, h_things, h_chest, h_stored, h_length, h_kind, h_place, h_clauses, h_turns, h_days, h_chestC, h_bought, h_held, h_loss, h_mloss, h_cost0] at cc)); (all_goals (try simp only [not_true_eq_false, eq_self] at cc)); all_goals omega))
            refine WP_iconst (-1) dX10_told_170 rfl ?_
            exact WP_iret dX10_told_171 rfl (by unfold rq; (try simp only [h_sorts, h_things, h_chest, h_stored, h_length, h_kind, h_place, h_clauses, h_turns, h_days, h_chestC, h_bought, h_held, h_loss, h_mloss, h_cost0] at c0 c9 c73 c80 c105 c111 c157 ⊢); (all_goals (try simp only [cmp_lt, cmp_gt] at c0 c9 c73 c80 c105 c111 c157 ⊢)); (all_goals (try simp only [le32, lt32, eq32, t64, vp_in_iff, Int32.reduceToInt, Int64.reduceToInt] at c0 c9 c73 c80 c105 c111 c157)); (all_goals (try simp (disch := ((try simp (disch := ((try simp (disch := omega) only [ia, is', im, ja, js, ir, idv, Int32.reduceToInt, Int64.reduceToInt, t64]); omega)) only [ia, is', im, ja, js, ir, idv, Int32.reduceToInt, Int64.reduceToInt, t64]); omega)) only [ia, is', im, ja, js, ir, idv, Int32.reduceToInt, Int64.reduceToInt, t64] at c0 c9 c73 c80 c105 c111 c157 ⊢)); (all_goals (try simp only [h_sorts, h_things, h_chest, h_stored, h_length, h_kind, h_place, h_clauses, h_turns, h_days, h_chestC, h_bought, h_held, h_loss, h_mloss, h_cost0] at c0 c9 c73 c80 c105 c111 c157 ⊢)); (all_goals (first | rfl | (rw [if_pos (by omega)]; done) | (rw [if_neg (by omega)]; done) | (rw [if_neg (by omega), if_pos (by omega)]; done) | (rw [if_neg (by omega), if_neg (by omega)]; done) | (exfalso; omega))))
          · refine WP_iload dX10_told_114 rfl ?_
            refine WP_aload_n dX10_told_116 rfl ?_
            refine WP_geti dX10_told_117 fX10_117 rfl (lyx_is hy _ _ rfl) ?_
            refine WP_icmp_ge 149 dX10_told_120 rfl (fun c120 => ?_) (fun c120 => absurd c120 (by intro cc; (try simp only [h_sorts, h_things, h_chest, h_stored, h_length, h_kind, h_place, h_clauses, h_turns, h_days, h_chestC, h_bought, h_held, h_loss, h_mloss, h_cost0] at cc); (all_goals (try simp only [cmp_lt, cmp_gt] at cc)); (all_goals (try simp only [le32, lt32, eq32, t64, Int32.reduceToInt, Int64.reduceToInt] at cc)); (all_goals (try simp (disch := ((try simp (disch := ((try simp (disch := omega) only [ia, is', im, ja, js, ir, idv, Int32.reduceToInt, Int64.reduceToInt, t64]); omega)) only [ia, is', im, ja, js, ir, idv, Int32.reduceToInt, Int64.reduceToInt, t64]); omega)) only [ia, is', im, ja, js, ir, idv, Int32.reduceToInt, Int64.reduceToInt, t64] at cc)); (all_goals (try simp only [h_sorts, h_things, h_chest, h_stored, h_length, h_kind, h_place, h_clauses, h_turns, h_days, h_chestC, h_bought, h_held, h_loss, h_mloss, h_cost0] at cc)); (all_goals (try simp only [not_true_eq_false, eq_self] at cc)); all_goals omega))
            refine WP_iconst (-1) dX10_told_149 rfl ?_
            exact WP_iret dX10_told_150 rfl (by unfold rq; (try simp only [h_sorts, h_things, h_chest, h_stored, h_length, h_kind, h_place, h_clauses, h_turns, h_days, h_chestC, h_bought, h_held, h_loss, h_mloss, h_cost0] at c0 c9 c73 c80 c105 c111 c120 ⊢); (all_goals (try simp only [cmp_lt, cmp_gt] at c0 c9 c73 c80 c105 c111 c120 ⊢)); (all_goals (try simp only [le32, lt32, eq32, t64, vp_in_iff, Int32.reduceToInt, Int64.reduceToInt] at c0 c9 c73 c80 c105 c111 c120)); (all_goals (try simp (disch := ((try simp (disch := ((try simp (disch := omega) only [ia, is', im, ja, js, ir, idv, Int32.reduceToInt, Int64.reduceToInt, t64]); omega)) only [ia, is', im, ja, js, ir, idv, Int32.reduceToInt, Int64.reduceToInt, t64]); omega)) only [ia, is', im, ja, js, ir, idv, Int32.reduceToInt, Int64.reduceToInt, t64] at c0 c9 c73 c80 c105 c111 c120 ⊢)); (all_goals (try simp only [h_sorts, h_things, h_chest, h_stored, h_length, h_kind, h_place, h_clauses, h_turns, h_days, h_chestC, h_bought, h_held, h_loss, h_mloss, h_cost0] at c0 c9 c73 c80 c105 c111 c120 ⊢)); (all_goals (first | rfl | (rw [if_pos (by omega)]; done) | (rw [if_neg (by omega)]; done) | (rw [if_neg (by omega), if_pos (by omega)]; done) | (rw [if_neg (by omega), if_neg (by omega)]; done) | (exfalso; omega))))
      · refine WP_iload dX10_told_83 rfl ?_
        refine WP_bipush (7) dX10_told_85 rfl ?_
        refine WP_icmp_ge 100 dX10_told_87 rfl (fun c87 => ?_) (fun c87 => ?_)
        · refine WP_iconst (-1) dX10_told_100 rfl ?_
          exact WP_iret dX10_told_101 rfl (by unfold rq; (try simp only [h_sorts, h_things, h_chest, h_stored, h_length, h_kind, h_place, h_clauses, h_turns, h_days, h_chestC, h_bought, h_held, h_loss, h_mloss, h_cost0] at c0 c9 c73 c80 c87 ⊢); (all_goals (try simp only [cmp_lt, cmp_gt] at c0 c9 c73 c80 c87 ⊢)); (all_goals (try simp only [le32, lt32, eq32, t64, vp_in_iff, Int32.reduceToInt, Int64.reduceToInt] at c0 c9 c73 c80 c87)); (all_goals (try simp (disch := ((try simp (disch := ((try simp (disch := omega) only [ia, is', im, ja, js, ir, idv, Int32.reduceToInt, Int64.reduceToInt, t64]); omega)) only [ia, is', im, ja, js, ir, idv, Int32.reduceToInt, Int64.reduceToInt, t64]); omega)) only [ia, is', im, ja, js, ir, idv, Int32.reduceToInt, Int64.reduceToInt, t64] at c0 c9 c73 c80 c87 ⊢)); (all_goals (try simp only [h_sorts, h_things, h_chest, h_stored, h_length, h_kind, h_place, h_clauses, h_turns, h_days, h_chestC, h_bought, h_held, h_loss, h_mloss, h_cost0] at c0 c9 c73 c80 c87 ⊢)); (all_goals (first | rfl | (rw [if_pos (by omega)]; done) | (rw [if_neg (by omega)]; done) | (rw [if_neg (by omega), if_pos (by omega)]; done) | (rw [if_neg (by omega), if_neg (by omega)]; done) | (exfalso; omega))))
        · refine WP_aload_n dX10_told_90 rfl ?_
          refine WP_getr dX10_told_91 fX10_126 rfl (lyx_is hy _ _ rfl) (rfx hr 6 5 7 (by decide)) ?_
          refine WP_iload dX10_told_94 rfl ?_
          refine WP_iald dX10_told_96 (lyx_is hy _ _ rfl) (lyx_in hy _ _ rfl (by (try simp only [h_sorts, h_things, h_chest, h_stored, h_length, h_kind, h_place, h_clauses, h_turns, h_days, h_chestC, h_bought, h_held, h_loss, h_mloss, h_cost0] at c0 c9 c73 c80 c87 ⊢); (all_goals (try simp only [cmp_lt, cmp_gt] at c0 c9 c73 c80 c87 ⊢)); (all_goals (try simp only [le32, lt32, eq32, t64, vp_in_iff, Int32.reduceToInt, Int64.reduceToInt] at c0 c9 c73 c80 c87 ⊢)); (all_goals (try simp (disch := ((try simp (disch := ((try simp (disch := omega) only [ia, is', im, ja, js, ir, idv, Int32.reduceToInt, Int64.reduceToInt, t64]); omega)) only [ia, is', im, ja, js, ir, idv, Int32.reduceToInt, Int64.reduceToInt, t64]); omega)) only [ia, is', im, ja, js, ir, idv, Int32.reduceToInt, Int64.reduceToInt, t64] at c0 c9 c73 c80 c87 ⊢)); (all_goals (try simp only [h_sorts, h_things, h_chest, h_stored, h_length, h_kind, h_place, h_clauses, h_turns, h_days, h_chestC, h_bought, h_held, h_loss, h_mloss, h_cost0] at c0 c9 c73 c80 c87 ⊢)); all_goals (first | (constructor <;> omega) | (exfalso; omega)))) ?_
          refine WP_goto 101 dX10_told_97 rfl ?_
          exact WP_iret dX10_told_101 rfl (by unfold rq; (try simp only [h_sorts, h_things, h_chest, h_stored, h_length, h_kind, h_place, h_clauses, h_turns, h_days, h_chestC, h_bought, h_held, h_loss, h_mloss, h_cost0] at c0 c9 c73 c80 c87 ⊢); (all_goals (try simp only [cmp_lt, cmp_gt] at c0 c9 c73 c80 c87 ⊢)); (all_goals (try simp only [le32, lt32, eq32, t64, vp_in_iff, Int32.reduceToInt, Int64.reduceToInt] at c0 c9 c73 c80 c87)); (all_goals (try simp (disch := ((try simp (disch := ((try simp (disch := omega) only [ia, is', im, ja, js, ir, idv, Int32.reduceToInt, Int64.reduceToInt, t64]); omega)) only [ia, is', im, ja, js, ir, idv, Int32.reduceToInt, Int64.reduceToInt, t64]); omega)) only [ia, is', im, ja, js, ir, idv, Int32.reduceToInt, Int64.reduceToInt, t64] at c0 c9 c73 c80 c87 ⊢)); (all_goals (try simp only [h_sorts, h_things, h_chest, h_stored, h_length, h_kind, h_place, h_clauses, h_turns, h_days, h_chestC, h_bought, h_held, h_loss, h_mloss, h_cost0] at c0 c9 c73 c80 c87 ⊢)); (all_goals (first | rfl | (rw [if_pos (by omega)]; done) | (rw [if_neg (by omega)]; done) | (rw [if_neg (by omega), if_pos (by omega)]; done) | (rw [if_neg (by omega), if_neg (by omega)]; done) | (exfalso; omega))))
    · refine WP_iconst (-1) dX10_told_76 rfl ?_
      exact WP_iret dX10_told_77 rfl (by unfold rq; (try simp only [h_sorts, h_things, h_chest, h_stored, h_length, h_kind, h_place, h_clauses, h_turns, h_days, h_chestC, h_bought, h_held, h_loss, h_mloss, h_cost0] at c0 c9 c73 ⊢); (all_goals (try simp only [cmp_lt, cmp_gt] at c0 c9 c73 ⊢)); (all_goals (try simp only [le32, lt32, eq32, t64, vp_in_iff, Int32.reduceToInt, Int64.reduceToInt] at c0 c9 c73)); (all_goals (try simp (disch := ((try simp (disch := ((try simp (disch := omega) only [ia, is', im, ja, js, ir, idv, Int32.reduceToInt, Int64.reduceToInt, t64]); omega)) only [ia, is', im, ja, js, ir, idv, Int32.reduceToInt, Int64.reduceToInt, t64]); omega)) only [ia, is', im, ja, js, ir, idv, Int32.reduceToInt, Int64.reduceToInt, t64] at c0 c9 c73 ⊢)); (all_goals (try simp only [h_sorts, h_things, h_chest, h_stored, h_length, h_kind, h_place, h_clauses, h_turns, h_days, h_chestC, h_bought, h_held, h_loss, h_mloss, h_cost0] at c0 c9 c73 ⊢)); (all_goals (first | rfl | (rw [if_pos (by omega)]; done) | (rw [if_neg (by omega)]; done) | (rw [if_neg (by omega), if_pos (by omega)]; done) | (rw [if_neg (by omega), if_neg (by omega)]; done) | (exfalso; omega))))
  · have hlt : j < 4 := by have := (Array.getElem?_eq_some_iff.mp hj).1; simpa using this
    have hcs : (j = 0 ∧ off = 31) ∨ (j = 1 ∧ off = 36) ∨ (j = 2 ∧ off = 41) ∨ (j = 3 ∧ off = 46) := by
      match j, hlt, hj with
      | 0, _, hj => exact Or.inl ⟨rfl, (Option.some.inj hj).symm⟩
      | 1, _, hj => exact Or.inr (Or.inl ⟨rfl, (Option.some.inj hj).symm⟩)
      | 2, _, hj => exact Or.inr (Or.inr (Or.inl ⟨rfl, (Option.some.inj hj).symm⟩))
      | 3, _, hj => exact Or.inr (Or.inr (Or.inr (⟨rfl, (Option.some.inj hj).symm⟩)))
    clear hj hlt
    rcases hcs with ⟨rfl, rfl⟩ | ⟨rfl, rfl⟩ | ⟨rfl, rfl⟩ | ⟨rfl, rfl⟩
    · show WP _ _ 40 _ _ _ _ _ _
      refine WP_aload_n dX10_told_40 rfl ?_
      refine WP_geti dX10_told_41 fX10_114 rfl (lyx_is hy _ _ rfl) ?_
      exact WP_iret dX10_told_44 rfl (by unfold rq; (try simp only [h_sorts, h_things, h_chest, h_stored, h_length, h_kind, h_place, h_clauses, h_turns, h_days, h_chestC, h_bought, h_held, h_loss, h_mloss, h_cost0] at c0 c9 ⊢); (all_goals (try simp only [cmp_lt, cmp_gt] at c0 c9 ⊢)); (all_goals (try simp only [le32, lt32, eq32, t64, vp_in_iff, Int32.reduceToInt, Int64.reduceToInt] at c0 c9)); (all_goals (try simp (disch := ((try simp (disch := ((try simp (disch := omega) only [ia, is', im, ja, js, ir, idv, Int32.reduceToInt, Int64.reduceToInt, t64]); omega)) only [ia, is', im, ja, js, ir, idv, Int32.reduceToInt, Int64.reduceToInt, t64]); omega)) only [ia, is', im, ja, js, ir, idv, Int32.reduceToInt, Int64.reduceToInt, t64] at c0 c9 ⊢)); (all_goals (try simp only [h_sorts, h_things, h_chest, h_stored, h_length, h_kind, h_place, h_clauses, h_turns, h_days, h_chestC, h_bought, h_held, h_loss, h_mloss, h_cost0] at c0 c9 ⊢)); (all_goals (first | rfl | (rw [if_pos (by omega)]; done) | (rw [if_neg (by omega)]; done) | (rw [if_neg (by omega), if_pos (by omega)]; done) | (rw [if_neg (by omega), if_neg (by omega)]; done) | (exfalso; omega))))
    · show WP _ _ 45 _ _ _ _ _ _
      refine WP_aload_n dX10_told_45 rfl ?_
      refine WP_geti dX10_told_46 fX10_117 rfl (lyx_is hy _ _ rfl) ?_
      exact WP_iret dX10_told_49 rfl (by unfold rq; (try simp only [h_sorts, h_things, h_chest, h_stored, h_length, h_kind, h_place, h_clauses, h_turns, h_days, h_chestC, h_bought, h_held, h_loss, h_mloss, h_cost0] at c0 c9 ⊢); (all_goals (try simp only [cmp_lt, cmp_gt] at c0 c9 ⊢)); (all_goals (try simp only [le32, lt32, eq32, t64, vp_in_iff, Int32.reduceToInt, Int64.reduceToInt] at c0 c9)); (all_goals (try simp (disch := ((try simp (disch := ((try simp (disch := omega) only [ia, is', im, ja, js, ir, idv, Int32.reduceToInt, Int64.reduceToInt, t64]); omega)) only [ia, is', im, ja, js, ir, idv, Int32.reduceToInt, Int64.reduceToInt, t64]); omega)) only [ia, is', im, ja, js, ir, idv, Int32.reduceToInt, Int64.reduceToInt, t64] at c0 c9 ⊢)); (all_goals (try simp only [h_sorts, h_things, h_chest, h_stored, h_length, h_kind, h_place, h_clauses, h_turns, h_days, h_chestC, h_bought, h_held, h_loss, h_mloss, h_cost0] at c0 c9 ⊢)); (all_goals (first | rfl | (rw [if_pos (by omega)]; done) | (rw [if_neg (by omega)]; done) | (rw [if_neg (by omega), if_pos (by omega)]; done) | (rw [if_neg (by omega), if_neg (by omega)]; done) | (exfalso; omega))))
    · show WP _ _ 50 _ _ _ _ _ _
      refine WP_aload_n dX10_told_50 rfl ?_
      refine WP_geti dX10_told_51 fX10_120 rfl (lyx_is hy _ _ rfl) ?_
      exact WP_iret dX10_told_54 rfl (by unfold rq; (try simp only [h_sorts, h_things, h_chest, h_stored, h_length, h_kind, h_place, h_clauses, h_turns, h_days, h_chestC, h_bought, h_held, h_loss, h_mloss, h_cost0] at c0 c9 ⊢); (all_goals (try simp only [cmp_lt, cmp_gt] at c0 c9 ⊢)); (all_goals (try simp only [le32, lt32, eq32, t64, vp_in_iff, Int32.reduceToInt, Int64.reduceToInt] at c0 c9)); (all_goals (try simp (disch := ((try simp (disch := ((try simp (disch := omega) only [ia, is', im, ja, js, ir, idv, Int32.reduceToInt, Int64.reduceToInt, t64]); omega)) only [ia, is', im, ja, js, ir, idv, Int32.reduceToInt, Int64.reduceToInt, t64]); omega)) only [ia, is', im, ja, js, ir, idv, Int32.reduceToInt, Int64.reduceToInt, t64] at c0 c9 ⊢)); (all_goals (try simp only [h_sorts, h_things, h_chest, h_stored, h_length, h_kind, h_place, h_clauses, h_turns, h_days, h_chestC, h_bought, h_held, h_loss, h_mloss, h_cost0] at c0 c9 ⊢)); (all_goals (first | rfl | (rw [if_pos (by omega)]; done) | (rw [if_neg (by omega)]; done) | (rw [if_neg (by omega), if_pos (by omega)]; done) | (rw [if_neg (by omega), if_neg (by omega)]; done) | (exfalso; omega))))
    · show WP _ _ 55 _ _ _ _ _ _
      refine WP_aload_n dX10_told_55 rfl ?_
      refine WP_geti dX10_told_56 fX10_123 rfl (lyx_is hy _ _ rfl) ?_
      exact WP_iret dX10_told_59 rfl (by unfold rq; (try simp only [h_sorts, h_things, h_chest, h_stored, h_length, h_kind, h_place, h_clauses, h_turns, h_days, h_chestC, h_bought, h_held, h_loss, h_mloss, h_cost0] at c0 c9 ⊢); (all_goals (try simp only [cmp_lt, cmp_gt] at c0 c9 ⊢)); (all_goals (try simp only [le32, lt32, eq32, t64, vp_in_iff, Int32.reduceToInt, Int64.reduceToInt] at c0 c9)); (all_goals (try simp (disch := ((try simp (disch := ((try simp (disch := omega) only [ia, is', im, ja, js, ir, idv, Int32.reduceToInt, Int64.reduceToInt, t64]); omega)) only [ia, is', im, ja, js, ir, idv, Int32.reduceToInt, Int64.reduceToInt, t64]); omega)) only [ia, is', im, ja, js, ir, idv, Int32.reduceToInt, Int64.reduceToInt, t64] at c0 c9 ⊢)); (all_goals (try simp only [h_sorts, h_things, h_chest, h_stored, h_length, h_kind, h_place, h_clauses, h_turns, h_days, h_chestC, h_bought, h_held, h_loss, h_mloss, h_cost0] at c0 c9 ⊢)); (all_goals (first | rfl | (rw [if_pos (by omega)]; done) | (rw [if_neg (by omega)]; done) | (rw [if_neg (by omega), if_pos (by omega)]; done) | (rw [if_neg (by omega), if_neg (by omega)]; done) | (exfalso; omega))))
set_option maxHeartbeats 4000000 in
set_option maxRecDepth 100000 in
theorem x_put {g : GG} {I : pI} {J : pJ} {R : pR} (hy : LyX g) (hr : RfX g R) (v : Int32) (ht : 0 ≤ (I (ad g P_tape) 1).toInt ∧ (I (ad g P_tape) 1).toInt ≤ 896) : SP g mX5_put [.ref (ad g P_tape), .int v] I J R (fun r I' J' R' => r = none ∧ (I' (ad g P_tape) 1).toInt = (I (ad g P_tape) 1).toInt + 4 ∧ fxX g [P_tape, P_tape_bytes] I I' ∧ J' = J ∧ R' = R) := by
  refine SP_of ⟨by decide, rfl⟩ (Nat.le_of_ble_eq_true rfl) ?_
  have c0 : True := trivial
  have e1 : (1 : Int32).toInt = 1 := rfl
  have a1 : (I (ad g P_tape) 1 + 1).toInt = (I (ad g P_tape) 1).toInt + 1 := by rw [ia (by rw [e1]; omega) (by rw [e1]; omega), e1]
  have a2 : (I (ad g P_tape) 1 + 1 + 1).toInt = (I (ad g P_tape) 1).toInt + 2 := by rw [ia (by rw [a1, e1]; omega) (by rw [a1, e1]; omega), a1, e1]; omega
  have a3 : (I (ad g P_tape) 1 + 1 + 1 + 1).toInt = (I (ad g P_tape) 1).toInt + 3 := by rw [ia (by rw [a2, e1]; omega) (by rw [a2, e1]; omega), a2, e1]; omega
  have a4 : (I (ad g P_tape) 1 + 1 + 1 + 1 + 1).toInt = (I (ad g P_tape) 1).toInt + 4 := by rw [ia (by rw [a3, e1]; omega) (by rw [a3, e1]; omega), a3, e1]; omega
  refine WP_bipush (24) dX5_put_0 rfl ?_
  refine WP_istore_n (ls' := [(0, _), (1, _), (2, _)]) dX5_put_2 (by decide) rfl ?_
  refine WP_iload_n dX5_put_3 rfl ?_
  refine WP_if_lt 46 dX5_put_4 rfl (fun c4 => absurd c4 (by decide)) (fun c4 => ?_)
  refine WP_aload_n dX5_put_7 rfl ?_
  refine WP_geti dX5_put_8 fX5_15 rfl (lyx_is hy _ _ rfl) ?_
  try rw [pp_off _ _ (lyx_ne hy (show P_tape ≠ P_tape_bytes by decide) (by decide) (by decide))]
  try rw [pp_self]
  refine WP_sipush (900) dX5_put_11 rfl ?_
  refine WP_icmp_ge 40 dX5_put_14 rfl (fun c14 => absurd c14 (by rw [le32]; (try simp only [a1, a2, a3]); simp only [Int32.reduceToInt]; omega)) (fun c14 => ?_)
  refine WP_aload_n dX5_put_17 rfl ?_
  refine WP_getr dX5_put_18 fX5_9 rfl (lyx_is hy _ _ rfl) (rfx hr 1 0 2 (by decide)) ?_
  refine WP_aload_n dX5_put_21 rfl ?_
  refine WP_geti dX5_put_22 fX5_15 rfl (lyx_is hy _ _ rfl) ?_
  try rw [pp_off _ _ (lyx_ne hy (show P_tape ≠ P_tape_bytes by decide) (by decide) (by decide))]
  try rw [pp_self]
  refine WP_iload_n dX5_put_25 rfl ?_
  refine WP_iload_n dX5_put_26 rfl ?_
  refine WP_ishr dX5_put_27 ?_
  refine WP_i2b dX5_put_28 ?_
  refine WP_bast dX5_put_29 (lyx_is hy _ _ rfl) (lyx_in hy _ _ rfl (by rw [vp_in_iff]; (try simp only [a1, a2, a3, a4]); constructor <;> omega)) ?_
  refine WP_aload_n dX5_put_30 rfl ?_
  refine WP_dup dX5_put_31 rfl ?_
  refine WP_geti dX5_put_32 fX5_15 rfl (lyx_is hy _ _ rfl) ?_
  try rw [pp_off _ _ (lyx_ne hy (show P_tape ≠ P_tape_bytes by decide) (by decide) (by decide))]
  try rw [pp_self]
  refine WP_iconst (1) dX5_put_35 rfl ?_
  refine WP_iadd dX5_put_36 ?_
  refine WP_puti dX5_put_37 fX5_15 rfl rfl (lyx_is hy _ _ rfl) ?_
  refine WP_iinc (ls' := [(0, _), (1, _), (2, _)]) dX5_put_40 rfl (by decide) rfl ?_
  refine WP_goto 3 dX5_put_43 rfl ?_
  refine WP_iload_n dX5_put_3 rfl ?_
  refine WP_if_lt 46 dX5_put_4 rfl (fun c4 => absurd c4 (by decide)) (fun c4 => ?_)
  refine WP_aload_n dX5_put_7 rfl ?_
  refine WP_geti dX5_put_8 fX5_15 rfl (lyx_is hy _ _ rfl) ?_
  try rw [pp_off _ _ (lyx_ne hy (show P_tape ≠ P_tape_bytes by decide) (by decide) (by decide))]
  try rw [pp_self]
  refine WP_sipush (900) dX5_put_11 rfl ?_
  refine WP_icmp_ge 40 dX5_put_14 rfl (fun c14 => absurd c14 (by rw [le32]; (try simp only [a1, a2, a3]); simp only [Int32.reduceToInt]; omega)) (fun c14 => ?_)
  refine WP_aload_n dX5_put_17 rfl ?_
  refine WP_getr dX5_put_18 fX5_9 rfl (lyx_is hy _ _ rfl) (rfx hr 1 0 2 (by decide)) ?_
  refine WP_aload_n dX5_put_21 rfl ?_
  refine WP_geti dX5_put_22 fX5_15 rfl (lyx_is hy _ _ rfl) ?_
  try rw [pp_off _ _ (lyx_ne hy (show P_tape ≠ P_tape_bytes by decide) (by decide) (by decide))]
  try rw [pp_self]
  refine WP_iload_n dX5_put_25 rfl ?_
  refine WP_iload_n dX5_put_26 rfl ?_
  refine WP_ishr dX5_put_27 ?_
  refine WP_i2b dX5_put_28 ?_
  refine WP_bast dX5_put_29 (lyx_is hy _ _ rfl) (lyx_in hy _ _ rfl (by rw [vp_in_iff]; (try simp only [a1, a2, a3, a4]); constructor <;> omega)) ?_
  refine WP_aload_n dX5_put_30 rfl ?_
  refine WP_dup dX5_put_31 rfl ?_
  refine WP_geti dX5_put_32 fX5_15 rfl (lyx_is hy _ _ rfl) ?_
  try rw [pp_off _ _ (lyx_ne hy (show P_tape ≠ P_tape_bytes by decide) (by decide) (by decide))]
  try rw [pp_self]
  refine WP_iconst (1) dX5_put_35 rfl ?_
  refine WP_iadd dX5_put_36 ?_
  refine WP_puti dX5_put_37 fX5_15 rfl rfl (lyx_is hy _ _ rfl) ?_
  refine WP_iinc (ls' := [(0, _), (1, _), (2, _)]) dX5_put_40 rfl (by decide) rfl ?_
  refine WP_goto 3 dX5_put_43 rfl ?_
  refine WP_iload_n dX5_put_3 rfl ?_
  refine WP_if_lt 46 dX5_put_4 rfl (fun c4 => absurd c4 (by decide)) (fun c4 => ?_)
  refine WP_aload_n dX5_put_7 rfl ?_
  refine WP_geti dX5_put_8 fX5_15 rfl (lyx_is hy _ _ rfl) ?_
  try rw [pp_off _ _ (lyx_ne hy (show P_tape ≠ P_tape_bytes by decide) (by decide) (by decide))]
  try rw [pp_self]
  refine WP_sipush (900) dX5_put_11 rfl ?_
  refine WP_icmp_ge 40 dX5_put_14 rfl (fun c14 => absurd c14 (by rw [le32]; (try simp only [a1, a2, a3]); simp only [Int32.reduceToInt]; omega)) (fun c14 => ?_)
  refine WP_aload_n dX5_put_17 rfl ?_
  refine WP_getr dX5_put_18 fX5_9 rfl (lyx_is hy _ _ rfl) (rfx hr 1 0 2 (by decide)) ?_
  refine WP_aload_n dX5_put_21 rfl ?_
  refine WP_geti dX5_put_22 fX5_15 rfl (lyx_is hy _ _ rfl) ?_
  try rw [pp_off _ _ (lyx_ne hy (show P_tape ≠ P_tape_bytes by decide) (by decide) (by decide))]
  try rw [pp_self]
  refine WP_iload_n dX5_put_25 rfl ?_
  refine WP_iload_n dX5_put_26 rfl ?_
  refine WP_ishr dX5_put_27 ?_
  refine WP_i2b dX5_put_28 ?_
  refine WP_bast dX5_put_29 (lyx_is hy _ _ rfl) (lyx_in hy _ _ rfl (by rw [vp_in_iff]; (try simp only [a1, a2, a3, a4]); constructor <;> omega)) ?_
  refine WP_aload_n dX5_put_30 rfl ?_
  refine WP_dup dX5_put_31 rfl ?_
  refine WP_geti dX5_put_32 fX5_15 rfl (lyx_is hy _ _ rfl) ?_
  try rw [pp_off _ _ (lyx_ne hy (show P_tape ≠ P_tape_bytes by decide) (by decide) (by decide))]
  try rw [pp_self]
  refine WP_iconst (1) dX5_put_35 rfl ?_
  refine WP_iadd dX5_put_36 ?_
  refine WP_puti dX5_put_37 fX5_15 rfl rfl (lyx_is hy _ _ rfl) ?_
  refine WP_iinc (ls' := [(0, _), (1, _), (2, _)]) dX5_put_40 rfl (by decide) rfl ?_
  refine WP_goto 3 dX5_put_43 rfl ?_
  refine WP_iload_n dX5_put_3 rfl ?_
  refine WP_if_lt 46 dX5_put_4 rfl (fun c4 => absurd c4 (by decide)) (fun c4 => ?_)
  refine WP_aload_n dX5_put_7 rfl ?_
  refine WP_geti dX5_put_8 fX5_15 rfl (lyx_is hy _ _ rfl) ?_
  try rw [pp_off _ _ (lyx_ne hy (show P_tape ≠ P_tape_bytes by decide) (by decide) (by decide))]
  try rw [pp_self]
  refine WP_sipush (900) dX5_put_11 rfl ?_
  refine WP_icmp_ge 40 dX5_put_14 rfl (fun c14 => absurd c14 (by rw [le32]; (try simp only [a1, a2, a3]); simp only [Int32.reduceToInt]; omega)) (fun c14 => ?_)
  refine WP_aload_n dX5_put_17 rfl ?_
  refine WP_getr dX5_put_18 fX5_9 rfl (lyx_is hy _ _ rfl) (rfx hr 1 0 2 (by decide)) ?_
  refine WP_aload_n dX5_put_21 rfl ?_
  refine WP_geti dX5_put_22 fX5_15 rfl (lyx_is hy _ _ rfl) ?_
  try rw [pp_off _ _ (lyx_ne hy (show P_tape ≠ P_tape_bytes by decide) (by decide) (by decide))]
  try rw [pp_self]
  refine WP_iload_n dX5_put_25 rfl ?_
  refine WP_iload_n dX5_put_26 rfl ?_
  refine WP_ishr dX5_put_27 ?_
  refine WP_i2b dX5_put_28 ?_
  refine WP_bast dX5_put_29 (lyx_is hy _ _ rfl) (lyx_in hy _ _ rfl (by rw [vp_in_iff]; (try simp only [a1, a2, a3, a4]); constructor <;> omega)) ?_
  refine WP_aload_n dX5_put_30 rfl ?_
  refine WP_dup dX5_put_31 rfl ?_
  refine WP_geti dX5_put_32 fX5_15 rfl (lyx_is hy _ _ rfl) ?_
  try rw [pp_off _ _ (lyx_ne hy (show P_tape ≠ P_tape_bytes by decide) (by decide) (by decide))]
  try rw [pp_self]
  refine WP_iconst (1) dX5_put_35 rfl ?_
  refine WP_iadd dX5_put_36 ?_
  refine WP_puti dX5_put_37 fX5_15 rfl rfl (lyx_is hy _ _ rfl) ?_
  refine WP_iinc (ls' := [(0, _), (1, _), (2, _)]) dX5_put_40 rfl (by decide) rfl ?_
  refine WP_goto 3 dX5_put_43 rfl ?_
  refine WP_iload_n dX5_put_3 rfl ?_
  refine WP_if_lt 46 dX5_put_4 rfl (fun c4 => ?_) (fun c4 => absurd c4 (by decide))
  exact WP_vret dX5_put_46 rfl ⟨rfl, (by rw [pp_self]; exact a4), (fxX_pp hy (fxX_pp hy (fxX_pp hy (fxX_pp hy (fxX_pp hy (fxX_pp hy (fxX_pp hy (fxX_pp hy fxX_rf (by decide) (by decide)) (by decide) (by decide)) (by decide) (by decide)) (by decide) (by decide)) (by decide) (by decide)) (by decide) (by decide)) (by decide) (by decide)) (by decide) (by decide)), rfl, rfl⟩
set_option maxHeartbeats 4000000 in
set_option maxRecDepth 100000 in
theorem xr_feed {g : GG} {I : pI} {J : pJ} {R : pR} (hy : LyX g) (hr : RfX g R) (hf : XF g I J R) (a b c e f : Int32) : SP g mX10_feed [.ref (ad g P_x), .int a, .int b, .int c, .int e, .int f] I J R (rq 20) := by
  refine SP_of ⟨by decide, rfl⟩ (Nat.le_of_ble_eq_true rfl) ?_
  have c0 : True := trivial
  have hf0 := hf
  obtain ⟨hxc, h_length, h_kind, h_place, h_clauses, h_turns, h_days, h_chestC, h_bought, h_held, h_cost0, h_s0, h_s1, h_s2, h_spare, h_loss, h_mloss, h_stamps⟩ := hf
  have hxc0 := hxc
  obtain ⟨h_town, h_sorts, h_things, h_chest, h_stored⟩ := hxc
  have ht2 : (I (ad g P_tape) 1).toInt = 0 := by rw [h_length]; rfl
  refine WP_aload_n dX10_feed_0 rfl ?_
  refine WP_getr dX10_feed_1 fX10_12 rfl (lyx_is hy _ _ rfl) (rfx hr 0 0 1 (by decide)) ?_
  refine WP_geti dX10_feed_4 fX10_90 rfl (lyx_is hy _ _ rfl) ?_
  refine WP_bipush (20) dX10_feed_7 rfl ?_
  refine WP_iadd dX10_feed_9 ?_
  refine WP_sipush (900) dX10_feed_10 rfl ?_
  refine WP_icmp_le 19 dX10_feed_13 rfl (fun c13 => ?_) (fun c13 => absurd c13 (by rw [h_length]; decide))
  refine WP_aload_n dX10_feed_19 rfl ?_
  refine WP_getr dX10_feed_20 fX10_12 rfl (lyx_is hy _ _ rfl) (rfx hr 0 0 1 (by decide)) ?_
  refine WP_iload_n dX10_feed_23 rfl ?_
  refine WP_callV1 (k := 5) dX10_feed_24 ⟨⟨⟨by decide, by decide⟩, zX5_put⟩, lX10_94, by decide, rfl, vX5_put.1, vX5_put.2⟩ (lyx_is hy _ _ rfl) (x_put hy hr _ (by omega)) (Nat.le_of_ble_eq_true rfl) ?_
  rintro r I3 J3 R3 ⟨rfl, ht3, hx3, eJ, eR⟩
  rw [eJ, eR]
  simp only [Option.toList, List.cons_append, List.nil_append]
  refine WP_aload_n dX10_feed_27 rfl ?_
  refine WP_getr dX10_feed_28 fX10_12 rfl (lyx_is hy _ _ rfl) (rfx hr 0 0 1 (by decide)) ?_
  refine WP_iload_n dX10_feed_31 rfl ?_
  refine WP_callV1 (k := 5) dX10_feed_32 ⟨⟨⟨by decide, by decide⟩, zX5_put⟩, lX10_94, by decide, rfl, vX5_put.1, vX5_put.2⟩ (lyx_is hy _ _ rfl) (x_put hy hr _ (by omega)) (Nat.le_of_ble_eq_true rfl) ?_
  rintro r I4 J4 R4 ⟨rfl, ht4, hx4, eJ, eR⟩
  rw [eJ, eR]
  simp only [Option.toList, List.cons_append, List.nil_append]
  refine WP_aload_n dX10_feed_35 rfl ?_
  refine WP_getr dX10_feed_36 fX10_12 rfl (lyx_is hy _ _ rfl) (rfx hr 0 0 1 (by decide)) ?_
  refine WP_iload_n dX10_feed_39 rfl ?_
  refine WP_callV1 (k := 5) dX10_feed_40 ⟨⟨⟨by decide, by decide⟩, zX5_put⟩, lX10_94, by decide, rfl, vX5_put.1, vX5_put.2⟩ (lyx_is hy _ _ rfl) (x_put hy hr _ (by omega)) (Nat.le_of_ble_eq_true rfl) ?_
  rintro r I5 J5 R5 ⟨rfl, ht5, hx5, eJ, eR⟩
  rw [eJ, eR]
  simp only [Option.toList, List.cons_append, List.nil_append]
  refine WP_aload_n dX10_feed_43 rfl ?_
  refine WP_getr dX10_feed_44 fX10_12 rfl (lyx_is hy _ _ rfl) (rfx hr 0 0 1 (by decide)) ?_
  refine WP_iload dX10_feed_47 rfl ?_
  refine WP_callV1 (k := 5) dX10_feed_49 ⟨⟨⟨by decide, by decide⟩, zX5_put⟩, lX10_94, by decide, rfl, vX5_put.1, vX5_put.2⟩ (lyx_is hy _ _ rfl) (x_put hy hr _ (by omega)) (Nat.le_of_ble_eq_true rfl) ?_
  rintro r I6 J6 R6 ⟨rfl, ht6, hx6, eJ, eR⟩
  rw [eJ, eR]
  simp only [Option.toList, List.cons_append, List.nil_append]
  refine WP_aload_n dX10_feed_52 rfl ?_
  refine WP_getr dX10_feed_53 fX10_12 rfl (lyx_is hy _ _ rfl) (rfx hr 0 0 1 (by decide)) ?_
  refine WP_iload dX10_feed_56 rfl ?_
  refine WP_callV1 (k := 5) dX10_feed_58 ⟨⟨⟨by decide, by decide⟩, zX5_put⟩, lX10_94, by decide, rfl, vX5_put.1, vX5_put.2⟩ (lyx_is hy _ _ rfl) (x_put hy hr _ (by omega)) (Nat.le_of_ble_eq_true rfl) ?_
  rintro r I7 J7 R7 ⟨rfl, ht7, hx7, eJ, eR⟩
  rw [eJ, eR]
  simp only [Option.toList, List.cons_append, List.nil_append]
  refine WP_aload_n dX10_feed_61 rfl ?_
  refine WP_getr dX10_feed_62 fX10_12 rfl (lyx_is hy _ _ rfl) (rfx hr 0 0 1 (by decide)) ?_
  refine WP_geti dX10_feed_65 fX10_90 rfl (lyx_is hy _ _ rfl) ?_
  exact WP_iret dX10_feed_68 rfl (congrArg (fun z => some (Value.int z)) ((eq32 _ _).mpr (by rw [ht7]; have e20 : (20 : Int32).toInt = 20 := rfl; omega)))
/-- the first n places of a row are v -/
def fi (I : pI) (a n : Nat) (v : Int32) : pI := fun b q => if b = a ∧ q < n then v else I b q
theorem fi_in {I : pI} {a n q : Nat} {v : Int32} (h : q < n) : fi I a n v a q = v := by simp [fi, h]
theorem fi_off {I : pI} {a n b : Nat} {v : Int32} (h : b ≠ a) : fi I a n v b = I b := by funext q; simp [fi, h]
theorem fi_0 {I : pI} {a : Nat} {v : Int32} : fi I a 0 v = I := by funext b q; simp [fi]
theorem fi_s {I : pI} {a k : Nat} {v : Int32} : pp (fi I a k v) a k v = fi I a (k + 1) v := by
  funext b q
  unfold pp fi
  by_cases h1 : b = a
  · subst h1
    by_cases h2 : q = k
    · subst h2; simp
    · by_cases h3 : q < k
      · simp [h2, h3, show q < k + 1 by omega]
      · simp [h2, h3, show ¬ q < k + 1 by omega]
  · simp [h1]
theorem fi_fx {g : GG} (hy : LyX g) {S : List Nat} {I I1 : pI} {i n : Nat} {v : Int32} (h : fxX g S I I1) (hi : i < 74) (hm : i ∈ S) : fxX g S I (fi I1 (ad g i) n v) := fun j hj hn => by
  rw [fi_off (lyx_ne hy (show j ≠ i from fun e => hn (e ▸ hm)) hj hi)]
  exact h j hj hn
set_option maxHeartbeats 4000000 in
set_option maxRecDepth 100000 in
theorem l_fill {g : GG} {I : pI} {J : pJ} {R : pR} (hy : LyX g) (hr : RfX g R) (t n : Nat) (htk : kTX[t]? = some 13) (htn : nTX[t]? = some n) (hn : n < 1000) (v : Int32)  : ∀ (m k : Nat) (I2 : pI), k + m = n → I2 = fi I (ad g t) k v → WP g mJ7_fill_53178 5 [(0, .ref (ad g t)), (1, .int v), (2, .int (nI k)), (3, .int (nI n))] [] I2 J R (pu (fi I (ad g t) n v) J R) := by
  intro m
  induction m with
  | zero =>
    intro k I2 hk hv
    have hnn : (nI n).toInt = (n : Int) := nI_toInt (by omega)
    have hkt : (nI k).toInt = (k : Int) := nI_toInt (by omega)
    have c0 : True := trivial
    refine WP_iload_n dJ7_fill_53178_5 rfl ?_
    refine WP_iload_n dJ7_fill_53178_6 rfl ?_
    refine WP_icmp_ge 20 dJ7_fill_53178_7 rfl (fun c7 => ?_) (fun c7 => absurd c7 (by intro cc; (try simp only [hkt, hnn, hkt] at cc); (all_goals (try simp only [cmp_lt, cmp_gt] at cc)); (all_goals (try simp only [le32, lt32, eq32, t64, Int32.reduceToInt, Int64.reduceToInt] at cc)); (all_goals (try simp (disch := ((try simp (disch := ((try simp (disch := omega) only [ia, is', im, ja, js, ir, idv, Int32.reduceToInt, Int64.reduceToInt, t64]); omega)) only [ia, is', im, ja, js, ir, idv, Int32.reduceToInt, Int64.reduceToInt, t64]); omega)) only [ia, is', im, ja, js, ir, idv, Int32.reduceToInt, Int64.reduceToInt, t64] at cc)); (all_goals (try simp only [hkt, hnn, hkt] at cc)); (all_goals (try simp only [not_true_eq_false, eq_self] at cc)); all_goals omega))
    exact WP_vret dJ7_fill_53178_20 rfl ⟨rfl, (by rw [hv]; congr 1), rfl, rfl⟩
  | succ m ih =>
    intro k I2 hk hv
    have hnn : (nI n).toInt = (n : Int) := nI_toInt (by omega)
    have hkt : (nI k).toInt = (k : Int) := nI_toInt (by omega)
    have c0 : True := trivial
    refine WP_iload_n dJ7_fill_53178_5 rfl ?_
    refine WP_iload_n dJ7_fill_53178_6 rfl ?_
    refine WP_icmp_ge 20 dJ7_fill_53178_7 rfl (fun c7 => absurd c7 (by intro cc; (try simp only [hkt, hnn, hkt] at cc); (all_goals (try simp only [cmp_lt, cmp_gt] at cc)); (all_goals (try simp only [le32, lt32, eq32, t64, Int32.reduceToInt, Int64.reduceToInt] at cc)); (all_goals (try simp (disch := ((try simp (disch := ((try simp (disch := omega) only [ia, is', im, ja, js, ir, idv, Int32.reduceToInt, Int64.reduceToInt, t64]); omega)) only [ia, is', im, ja, js, ir, idv, Int32.reduceToInt, Int64.reduceToInt, t64]); omega)) only [ia, is', im, ja, js, ir, idv, Int32.reduceToInt, Int64.reduceToInt, t64] at cc)); (all_goals (try simp only [hkt, hnn, hkt] at cc)); (all_goals (try simp only [not_true_eq_false, eq_self] at cc)); all_goals omega)) (fun c7 => ?_)
    refine WP_aload_n dJ7_fill_53178_10 rfl ?_
    refine WP_iload_n dJ7_fill_53178_11 rfl ?_
    refine WP_iload_n dJ7_fill_53178_12 rfl ?_
    refine WP_iast dJ7_fill_53178_13 (lyx_is hy _ _ htk) (lyx_in hy _ n htn (by (try simp only [hkt, hnn, hkt] at c0 c7 ⊢); (all_goals (try simp only [cmp_lt, cmp_gt] at c0 c7 ⊢)); (all_goals (try simp only [le32, lt32, eq32, t64, vp_in_iff, Int32.reduceToInt, Int64.reduceToInt] at c0 c7 ⊢)); (all_goals (try simp (disch := ((try simp (disch := ((try simp (disch := omega) only [ia, is', im, ja, js, ir, idv, Int32.reduceToInt, Int64.reduceToInt, t64]); omega)) only [ia, is', im, ja, js, ir, idv, Int32.reduceToInt, Int64.reduceToInt, t64]); omega)) only [ia, is', im, ja, js, ir, idv, Int32.reduceToInt, Int64.reduceToInt, t64] at c0 c7 ⊢)); (all_goals (try simp only [hkt, hnn, hkt] at c0 c7 ⊢)); all_goals (first | (constructor <;> omega) | (exfalso; omega)))) ?_
    refine WP_iinc (ls' := [(0, _), (1, _), (2, _), (3, _)]) dJ7_fill_53178_14 rfl (by decide) rfl ?_
    refine WP_goto 5 dJ7_fill_53178_17 rfl ?_
    refine WP_sub (ls' := [(0, .ref (ad g t)), (1, .int v), (2, .int (nI (k + 1))), (3, .int (nI n))]) (fc rfl (fc rfl (fc (by rw [← nI_1]; rfl) (fc rfl fn)))) (ih (k + 1) _ (by omega) ?_)
    rw [hv, cl hkt]
    exact fi_s
set_option maxHeartbeats 4000000 in
set_option maxRecDepth 100000 in
theorem s_fill {g : GG} {I : pI} {J : pJ} {R : pR} (hy : LyX g) (hr : RfX g R) (t n : Nat) (htk : kTX[t]? = some 13) (htn : nTX[t]? = some n) (hn : n < 1000) (v : Int32)  : SP g mJ7_fill_53178 [.ref (ad g t), .int v] I J R (pu (fi I (ad g t) n v) J R) := by
  refine SP_of ⟨by decide, rfl⟩ (Nat.le_of_ble_eq_true rfl) ?_
  have c0 : True := trivial
  refine WP_iconst (0) dJ7_fill_53178_0 rfl ?_
  refine WP_istore_n (ls' := [(0, _), (1, _), (2, _)]) dJ7_fill_53178_1 (by decide) rfl ?_
  refine WP_aload_n dJ7_fill_53178_2 rfl ?_
  refine WP_alen dJ7_fill_53178_3 (lyx_is hy _ _ htk) (by decide) ?_
  rw [lyx_n hy _ _ htn]
  refine WP_istore_n (ls' := [(0, _), (1, _), (2, _), (3, _)]) dJ7_fill_53178_4 (by decide) rfl ?_
  refine WP_sub (ls' := [(0, .ref (ad g t)), (1, .int v), (2, .int (nI 0)), (3, .int (nI n))]) (fc rfl (fc rfl (fc rfl (fc rfl fn)))) (l_fill (I := I) (J := J) hy hr t n htk htn hn v n 0 _ (by omega) ?_)
  exact fi_0.symm
