def lentF : Nat → Int32 → Int32 → Int32
  | 0, l, _ => l
  | n + 1, l, y => lentF n (l * (1000 - y) / 1000) y
set_option maxHeartbeats 4000000 in
set_option maxRecDepth 100000 in
theorem l_lend0 {g : GG} {I : pI} {J : pJ} {R : pR} (hy : Ly g) (hr : Rf g R) (a b c : Int32) (N : Nat) (hN : (N : Int) = b.toInt) : ∀ (m k : Nat) (I2 : pI) (lf : Int32), k + m = N → True → WP g mX11_lend 56 [(0, .ref (ad g P_o)), (1, .int a), (2, .int b), (3, .int c), (4, .int 0), (5, .int lf), (6, .int (nI k))] [] I2 J R (rq (lentF m lf c)) := by
  intro m
  induction m with
  | zero =>
    intro k I2 lf hk hv
    have hbr := rng b
    have hkt : (nI k).toInt = (k : Int) := nI_toInt (by omega)
    have c0 : True := trivial
    refine WP_iload dX11_lend_56 rfl ?_
    refine WP_iload_n dX11_lend_58 rfl ?_
    refine WP_icmp_ge 87 dX11_lend_59 rfl (fun c59 => ?_) (fun c59 => absurd c59 (by intro cc; (try simp only [hkt, hkt] at cc); (all_goals (try simp only [cmp_lt, cmp_gt] at cc)); (all_goals (try simp only [le32, lt32, eq32, t64, Int32.reduceToInt, Int64.reduceToInt] at cc)); (all_goals (try simp (disch := ((try simp (disch := ((try simp (disch := omega) only [ia, is', im, ja, js, ir, idv, Int32.reduceToInt, Int64.reduceToInt, t64]); omega)) only [ia, is', im, ja, js, ir, idv, Int32.reduceToInt, Int64.reduceToInt, t64]); omega)) only [ia, is', im, ja, js, ir, idv, Int32.reduceToInt, Int64.reduceToInt, t64] at cc)); (all_goals (try simp only [hkt, hkt] at cc)); (all_goals (try simp only [not_true_eq_false, eq_self] at cc)); all_goals omega))
    refine WP_iconst (0) dX11_lend_87 rfl ?_
    refine WP_istore (ls' := [(0, _), (1, _), (2, _), (3, _), (4, _), (5, _), (6, _)]) dX11_lend_88 (by decide) rfl ?_
    refine WP_iload dX11_lend_90 rfl ?_
    refine WP_bipush (7) dX11_lend_92 rfl ?_
    refine WP_iload_n dX11_lend_94 rfl ?_
    refine WP_imul dX11_lend_95 ?_
    refine WP_icmp_ge 131 dX11_lend_96 rfl (fun c96 => ?_) (fun c96 => ?_)
    · refine WP_iload dX11_lend_131 rfl ?_
      exact WP_iret dX11_lend_133 rfl rfl
    · refine WP_iload dX11_lend_99 rfl ?_
      refine WP_iconst (1) dX11_lend_101 rfl ?_
      refine WP_icmp_ne 131 dX11_lend_102 rfl (fun c102 => ?_) (fun c102 => absurd c102 (by decide))
      refine WP_iload dX11_lend_131 rfl ?_
      exact WP_iret dX11_lend_133 rfl rfl
  | succ m ih =>
    intro k I2 lf hk hv
    have hbr := rng b
    have hkt : (nI k).toInt = (k : Int) := nI_toInt (by omega)
    have c0 : True := trivial
    refine WP_iload dX11_lend_56 rfl ?_
    refine WP_iload_n dX11_lend_58 rfl ?_
    refine WP_icmp_ge 87 dX11_lend_59 rfl (fun c59 => absurd c59 (by intro cc; (try simp only [hkt, hkt] at cc); (all_goals (try simp only [cmp_lt, cmp_gt] at cc)); (all_goals (try simp only [le32, lt32, eq32, t64, Int32.reduceToInt, Int64.reduceToInt] at cc)); (all_goals (try simp (disch := ((try simp (disch := ((try simp (disch := omega) only [ia, is', im, ja, js, ir, idv, Int32.reduceToInt, Int64.reduceToInt, t64]); omega)) only [ia, is', im, ja, js, ir, idv, Int32.reduceToInt, Int64.reduceToInt, t64]); omega)) only [ia, is', im, ja, js, ir, idv, Int32.reduceToInt, Int64.reduceToInt, t64] at cc)); (all_goals (try simp only [hkt, hkt] at cc)); (all_goals (try simp only [not_true_eq_false, eq_self] at cc)); all_goals omega)) (fun c59 => ?_)
    refine WP_iload dX11_lend_62 rfl ?_
    refine WP_if_ne 87 dX11_lend_64 rfl (fun c64 => absurd c64 (by decide)) (fun c64 => ?_)
    refine WP_iload dX11_lend_67 rfl ?_
    refine WP_sipush (1000) dX11_lend_69 rfl ?_
    refine WP_iload_n dX11_lend_72 rfl ?_
    refine WP_isub dX11_lend_73 ?_
    refine WP_imul dX11_lend_74 ?_
    refine WP_sipush (1000) dX11_lend_75 rfl ?_
    refine WP_idiv dX11_lend_78 (by decide) ?_
    refine WP_istore (ls' := [(0, _), (1, _), (2, _), (3, _), (4, _), (5, _), (6, _)]) dX11_lend_79 (by decide) rfl ?_
    refine WP_iinc (ls' := [(0, _), (1, _), (2, _), (3, _), (4, _), (5, _), (6, _)]) dX11_lend_81 rfl (by decide) rfl ?_
    refine WP_goto 56 dX11_lend_84 rfl ?_
    refine WP_sub (ls' := [(0, .ref (ad g P_o)), (1, .int a), (2, .int b), (3, .int c), (4, .int 0), (5, _), (6, .int (nI (k + 1)))]) (fc rfl (fc rfl (fc rfl (fc rfl (fc rfl (fc rfl (fc (by rw [← nI_1]; rfl) fn))))))) (ih (k + 1) _ _ (by omega) ?_)
    trivial
set_option maxHeartbeats 4000000 in
set_option maxRecDepth 100000 in
theorem l_lend1 {g : GG} {I : pI} {J : pJ} {R : pR} (hy : Ly g) (hr : Rf g R) (a b c : Int32) (hb : 0 ≤ b.toInt ∧ b.toInt ≤ 52) : ∀ (m k : Nat) (I2 : pI), k + m = (7 * b.toInt).toNat → MC g I2 → WP g mX11_lend 90 [(0, .ref (ad g P_o)), (1, .int a), (2, .int b), (3, .int c), (4, .int 1), (5, .int a), (6, .int (nI k))] [] I2 J R (rq a) := by
  intro m
  induction m with
  | zero =>
    intro k I2 hk hv
    have e7 : ((7 : Int32) * b).toInt = 7 * b.toInt := by have e : (7 : Int32).toInt = 7 := rfl; rw [im (by rw [e]; omega) (by rw [e]; omega), e]
    have h_rot := hv.2.2.2.2
    have hkt : (nI k).toInt = (k : Int) := nI_toInt (by omega)
    have c0 : True := trivial
    refine WP_iload dX11_lend_90 rfl ?_
    refine WP_bipush (7) dX11_lend_92 rfl ?_
    refine WP_iload_n dX11_lend_94 rfl ?_
    refine WP_imul dX11_lend_95 ?_
    refine WP_icmp_ge 131 dX11_lend_96 rfl (fun c96 => ?_) (fun c96 => absurd c96 (by intro cc; (try simp only [hkt, e7, hkt] at cc); (all_goals (try simp only [cmp_lt, cmp_gt] at cc)); (all_goals (try simp only [le32, lt32, eq32, t64, Int32.reduceToInt, Int64.reduceToInt] at cc)); (all_goals (try simp (disch := ((try simp (disch := ((try simp (disch := omega) only [ia, is', im, ja, js, ir, idv, Int32.reduceToInt, Int64.reduceToInt, t64]); omega)) only [ia, is', im, ja, js, ir, idv, Int32.reduceToInt, Int64.reduceToInt, t64]); omega)) only [ia, is', im, ja, js, ir, idv, Int32.reduceToInt, Int64.reduceToInt, t64] at cc)); (all_goals (try simp only [hkt, e7, hkt] at cc)); (all_goals (try simp only [not_true_eq_false, eq_self] at cc)); all_goals omega))
    refine WP_iload dX11_lend_131 rfl ?_
    exact WP_iret dX11_lend_133 rfl rfl
  | succ m ih =>
    intro k I2 hk hv
    have e7 : ((7 : Int32) * b).toInt = 7 * b.toInt := by have e : (7 : Int32).toInt = 7 := rfl; rw [im (by rw [e]; omega) (by rw [e]; omega), e]
    have h_rot := hv.2.2.2.2
    have hkt : (nI k).toInt = (k : Int) := nI_toInt (by omega)
    have c0 : True := trivial
    refine WP_iload dX11_lend_90 rfl ?_
    refine WP_bipush (7) dX11_lend_92 rfl ?_
    refine WP_iload_n dX11_lend_94 rfl ?_
    refine WP_imul dX11_lend_95 ?_
    refine WP_icmp_ge 131 dX11_lend_96 rfl (fun c96 => absurd c96 (by intro cc; (try simp only [hkt, e7, hkt] at cc); (all_goals (try simp only [cmp_lt, cmp_gt] at cc)); (all_goals (try simp only [le32, lt32, eq32, t64, Int32.reduceToInt, Int64.reduceToInt] at cc)); (all_goals (try simp (disch := ((try simp (disch := ((try simp (disch := omega) only [ia, is', im, ja, js, ir, idv, Int32.reduceToInt, Int64.reduceToInt, t64]); omega)) only [ia, is', im, ja, js, ir, idv, Int32.reduceToInt, Int64.reduceToInt, t64]); omega)) only [ia, is', im, ja, js, ir, idv, Int32.reduceToInt, Int64.reduceToInt, t64] at cc)); (all_goals (try simp only [hkt, e7, hkt] at cc)); (all_goals (try simp only [not_true_eq_false, eq_self] at cc)); all_goals omega)) (fun c96 => ?_)
    refine WP_iload dX11_lend_99 rfl ?_
    refine WP_iconst (1) dX11_lend_101 rfl ?_
    refine WP_icmp_ne 131 dX11_lend_102 rfl (fun c102 => absurd c102 (by decide)) (fun c102 => ?_)
    refine WP_iload dX11_lend_105 rfl ?_
    refine WP_iload dX11_lend_107 rfl ?_
    refine WP_aload_n dX11_lend_109 rfl ?_
    refine WP_getr dX11_lend_110 fX11_233 rfl (ly_is hy _ _ rfl) (rf hr 0 24 6 (by decide)) ?_
    refine WP_iload dX11_lend_113 rfl ?_
    refine WP_bipush (7) dX11_lend_115 rfl ?_
    refine WP_irem dX11_lend_117 (by decide) ?_
    refine WP_iald dX11_lend_118 (ly_is hy _ _ rfl) (ly_in hy _ _ rfl (by (try simp only [hkt, e7, hkt] at c0 c96 c102 ⊢); (all_goals (try simp only [cmp_lt, cmp_gt] at c0 c96 c102 ⊢)); (all_goals (try simp only [le32, lt32, eq32, t64, vp_in_iff, Int32.reduceToInt, Int64.reduceToInt] at c0 c96 c102 ⊢)); (all_goals (try simp (disch := ((try simp (disch := ((try simp (disch := omega) only [ia, is', im, ja, js, ir, idv, Int32.reduceToInt, Int64.reduceToInt, t64]); omega)) only [ia, is', im, ja, js, ir, idv, Int32.reduceToInt, Int64.reduceToInt, t64]); omega)) only [ia, is', im, ja, js, ir, idv, Int32.reduceToInt, Int64.reduceToInt, t64] at c0 c96 c102 ⊢)); (all_goals (try simp only [hkt, e7, hkt] at c0 c96 c102 ⊢)); all_goals (first | (constructor <;> omega) | (exfalso; omega)))) ?_
    refine WP_callS2p dX11_lend_119 ⟨⟨⟨by decide, by decide⟩, zX11_stampsOf⟩, lX11_380, tX11_stampsOf⟩ (s_stampsOf _ _) (Nat.le_of_ble_eq_true rfl) ?_
    refine WP_isub dX11_lend_122 ?_
    refine WP_istore (ls' := [(0, _), (1, _), (2, _), (3, _), (4, _), (5, _), (6, _)]) dX11_lend_123 (by decide) rfl ?_
    refine WP_iinc (ls' := [(0, _), (1, _), (2, _), (3, _), (4, _), (5, _), (6, _)]) dX11_lend_125 rfl (by decide) rfl ?_
    refine WP_goto 90 dX11_lend_128 rfl ?_
    refine WP_sub (ls' := [(0, .ref (ad g P_o)), (1, .int a), (2, .int b), (3, .int c), (4, .int 1), (5, _), (6, .int (nI (k + 1)))]) (fc rfl (fc rfl (fc rfl (fc rfl (fc rfl (fc (by rw [h_rot, stamp0, Int32.sub_zero]; rfl) (fc (by rw [← nI_1]; rfl) fn))))))) (ih (k + 1) _ (by omega) ?_)
    exact hv
set_option maxHeartbeats 4000000 in
set_option maxRecDepth 100000 in
theorem fr_lend {g : GG} {I : pI} {J : pJ} {R : pR} (hy : Ly g) (hr : Rf g R) (hf : MF g I J) (a b c e : Int32) : SP g mX11_lend [.ref (ad g P_o), .int a, .int b, .int c, .int e] I J R (rq (if ((0 ≤ a.toInt ∧ a.toInt ≤ 999) ∧ (0 ≤ b.toInt ∧ b.toInt ≤ 52) ∧ (0 ≤ c.toInt ∧ c.toInt ≤ 1000) ∧ (0 ≤ e.toInt ∧ e.toInt ≤ 1)) then (if e = 0 then lentF b.toInt.toNat a c else a) else -2)) := by
  refine SP_of ⟨by decide, rfl⟩ (Nat.le_of_ble_eq_true rfl) ?_
  have c0 : True := trivial
  obtain ⟨hmc, h_taped, h_fault, h_faultAt, h_clauses, h_turnsTold, h_held, h_now, h_kept⟩ := hf
  have hmc0 := hmc
  obtain ⟨h_sorts, h_things, h_chestSort, h_storedThing, h_rot⟩ := hmc
  refine WP_iload_n dX11_lend_0 rfl ?_
  refine WP_i2l dX11_lend_1 ?_
  refine WP_lconst (0) dX11_lend_2 rfl ?_
  refine WP_ldc2 (999) dX11_lend_3 klX11_523 ?_
  refine WP_callS3p dX11_lend_6 ⟨⟨⟨by decide, by decide⟩, zX11_in⟩, lX11_52, tX11_in⟩ (s_in _ _ _) (Nat.le_of_ble_eq_true rfl) ?_
  refine WP_ifb_eq 47 dX11_lend_9 rfl (fun c9 => ?_) (fun c9 => ?_)
  · refine WP_bipush (-2) dX11_lend_47 rfl ?_
    exact WP_iret dX11_lend_49 rfl (by unfold rq; (try simp only [h_taped, h_fault, h_faultAt, h_clauses, h_turnsTold, h_held, h_sorts, h_things, h_chestSort, h_storedThing, h_rot] at c0 c9 ⊢); (all_goals (try simp only [cmp_lt, cmp_gt] at c0 c9 ⊢)); (all_goals (try simp only [le32, lt32, eq32, t64, vp_in_iff, Int32.reduceToInt, Int64.reduceToInt] at c0 c9)); (all_goals (try simp (disch := ((try simp (disch := ((try simp (disch := omega) only [ia, is', im, ja, js, ir, idv, Int32.reduceToInt, Int64.reduceToInt, t64]); omega)) only [ia, is', im, ja, js, ir, idv, Int32.reduceToInt, Int64.reduceToInt, t64]); omega)) only [ia, is', im, ja, js, ir, idv, Int32.reduceToInt, Int64.reduceToInt, t64] at c0 c9 ⊢)); (all_goals (try simp only [h_taped, h_fault, h_faultAt, h_clauses, h_turnsTold, h_held, h_sorts, h_things, h_chestSort, h_storedThing, h_rot] at c0 c9 ⊢)); (all_goals (first | rfl | (rw [if_pos (by omega)]; done) | (rw [if_neg (by omega)]; done) | (rw [if_neg (by omega), if_pos (by omega)]; done) | (rw [if_neg (by omega), if_neg (by omega)]; done) | (exfalso; omega))))
  · refine WP_iload_n dX11_lend_12 rfl ?_
    refine WP_i2l dX11_lend_13 ?_
    refine WP_lconst (0) dX11_lend_14 rfl ?_
    refine WP_ldc2 (52) dX11_lend_15 klX11_525 ?_
    refine WP_callS3p dX11_lend_18 ⟨⟨⟨by decide, by decide⟩, zX11_in⟩, lX11_52, tX11_in⟩ (s_in _ _ _) (Nat.le_of_ble_eq_true rfl) ?_
    refine WP_ifb_eq 47 dX11_lend_21 rfl (fun c21 => ?_) (fun c21 => ?_)
    · refine WP_bipush (-2) dX11_lend_47 rfl ?_
      exact WP_iret dX11_lend_49 rfl (by unfold rq; (try simp only [h_taped, h_fault, h_faultAt, h_clauses, h_turnsTold, h_held, h_sorts, h_things, h_chestSort, h_storedThing, h_rot] at c0 c9 c21 ⊢); (all_goals (try simp only [cmp_lt, cmp_gt] at c0 c9 c21 ⊢)); (all_goals (try simp only [le32, lt32, eq32, t64, vp_in_iff, Int32.reduceToInt, Int64.reduceToInt] at c0 c9 c21)); (all_goals (try simp (disch := ((try simp (disch := ((try simp (disch := omega) only [ia, is', im, ja, js, ir, idv, Int32.reduceToInt, Int64.reduceToInt, t64]); omega)) only [ia, is', im, ja, js, ir, idv, Int32.reduceToInt, Int64.reduceToInt, t64]); omega)) only [ia, is', im, ja, js, ir, idv, Int32.reduceToInt, Int64.reduceToInt, t64] at c0 c9 c21 ⊢)); (all_goals (try simp only [h_taped, h_fault, h_faultAt, h_clauses, h_turnsTold, h_held, h_sorts, h_things, h_chestSort, h_storedThing, h_rot] at c0 c9 c21 ⊢)); (all_goals (first | rfl | (rw [if_pos (by omega)]; done) | (rw [if_neg (by omega)]; done) | (rw [if_neg (by omega), if_pos (by omega)]; done) | (rw [if_neg (by omega), if_neg (by omega)]; done) | (exfalso; omega))))
    · refine WP_iload_n dX11_lend_24 rfl ?_
      refine WP_i2l dX11_lend_25 ?_
      refine WP_lconst (0) dX11_lend_26 rfl ?_
      refine WP_ldc2 (1000) dX11_lend_27 klX11_488 ?_
      refine WP_callS3p dX11_lend_30 ⟨⟨⟨by decide, by decide⟩, zX11_in⟩, lX11_52, tX11_in⟩ (s_in _ _ _) (Nat.le_of_ble_eq_true rfl) ?_
      refine WP_ifb_eq 47 dX11_lend_33 rfl (fun c33 => ?_) (fun c33 => ?_)
      · refine WP_bipush (-2) dX11_lend_47 rfl ?_
        exact WP_iret dX11_lend_49 rfl (by unfold rq; (try simp only [h_taped, h_fault, h_faultAt, h_clauses, h_turnsTold, h_held, h_sorts, h_things, h_chestSort, h_storedThing, h_rot] at c0 c9 c21 c33 ⊢); (all_goals (try simp only [cmp_lt, cmp_gt] at c0 c9 c21 c33 ⊢)); (all_goals (try simp only [le32, lt32, eq32, t64, vp_in_iff, Int32.reduceToInt, Int64.reduceToInt] at c0 c9 c21 c33)); (all_goals (try simp (disch := ((try simp (disch := ((try simp (disch := omega) only [ia, is', im, ja, js, ir, idv, Int32.reduceToInt, Int64.reduceToInt, t64]); omega)) only [ia, is', im, ja, js, ir, idv, Int32.reduceToInt, Int64.reduceToInt, t64]); omega)) only [ia, is', im, ja, js, ir, idv, Int32.reduceToInt, Int64.reduceToInt, t64] at c0 c9 c21 c33 ⊢)); (all_goals (try simp only [h_taped, h_fault, h_faultAt, h_clauses, h_turnsTold, h_held, h_sorts, h_things, h_chestSort, h_storedThing, h_rot] at c0 c9 c21 c33 ⊢)); (all_goals (first | rfl | (rw [if_pos (by omega)]; done) | (rw [if_neg (by omega)]; done) | (rw [if_neg (by omega), if_pos (by omega)]; done) | (rw [if_neg (by omega), if_neg (by omega)]; done) | (exfalso; omega))))
      · refine WP_iload dX11_lend_36 rfl ?_
        refine WP_i2l dX11_lend_38 ?_
        refine WP_lconst (0) dX11_lend_39 rfl ?_
        refine WP_lconst (1) dX11_lend_40 rfl ?_
        refine WP_callS3p dX11_lend_41 ⟨⟨⟨by decide, by decide⟩, zX11_in⟩, lX11_52, tX11_in⟩ (s_in _ _ _) (Nat.le_of_ble_eq_true rfl) ?_
        refine WP_ifb_ne 50 dX11_lend_44 rfl (fun c44 => ?_) (fun c44 => ?_)
        · refine WP_iload_n dX11_lend_50 rfl ?_
          refine WP_istore (ls' := [(0, _), (1, _), (2, _), (3, _), (4, _), (5, _)]) dX11_lend_51 (by decide) rfl ?_
          refine WP_iconst (0) dX11_lend_53 rfl ?_
          refine WP_istore (ls' := [(0, _), (1, _), (2, _), (3, _), (4, _), (5, _), (6, _)]) dX11_lend_54 (by decide) rfl ?_
          simp only [t64, Int64.reduceToInt] at c9 c21 c33 c44
          rw [if_pos (by omega)]
          by_cases he : e = 0
          · subst he
            rw [if_pos rfl]
            refine WP_sub (ls' := [(0, .ref (ad g P_o)), (1, .int a), (2, .int b), (3, .int c), (4, .int 0), (5, .int a), (6, .int (nI 0))]) (fc rfl (fc rfl (fc rfl (fc rfl (fc rfl (fc rfl (fc rfl fn))))))) (l_lend0 (I := I) (J := J) hy hr a b c b.toInt.toNat (by omega) b.toInt.toNat 0 _ _ (by omega) ?_)
            trivial
          · have he1 : e = 1 := (eq32 _ _).mpr (by rw [eq32] at he; simp only [Int32.reduceToInt] at he ⊢; omega)
            subst he1
            rw [if_neg (by decide)]
            have hnext : WP g mX11_lend 87 [(0, .ref (ad g P_o)), (1, .int a), (2, .int b), (3, .int c), (4, .int 1), (5, .int a)] [] I J R (rq a) := by
              refine WP_iconst (0) dX11_lend_87 rfl ?_
              refine WP_istore (ls' := [(0, _), (1, _), (2, _), (3, _), (4, _), (5, _), (6, _)]) dX11_lend_88 (by decide) rfl ?_
              refine WP_sub (ls' := [(0, .ref (ad g P_o)), (1, .int a), (2, .int b), (3, .int c), (4, .int 1), (5, .int a), (6, .int (nI 0))]) (fc rfl (fc rfl (fc rfl (fc rfl (fc rfl (fc rfl (fc rfl fn))))))) (l_lend1 (I := I) (J := J) hy hr a b c (by omega) (7 * b.toInt).toNat 0 _ (by omega) ?_)
              exact hmc0
            refine WP_iload dX11_lend_56 rfl ?_
            refine WP_iload_n dX11_lend_58 rfl ?_
            refine WP_icmp_ge 87 dX11_lend_59 rfl (fun c59 => ?_) (fun c59 => ?_)
            · exact WP_sub (fc rfl (fc rfl (fc rfl (fc rfl (fc rfl (fc rfl fn)))))) hnext
            · refine WP_iload dX11_lend_62 rfl ?_
              refine WP_if_ne 87 dX11_lend_64 rfl (fun c64 => ?_) (fun c64 => absurd c64 (by decide))
              exact WP_sub (fc rfl (fc rfl (fc rfl (fc rfl (fc rfl (fc rfl fn)))))) hnext
        · refine WP_bipush (-2) dX11_lend_47 rfl ?_
          exact WP_iret dX11_lend_49 rfl (by unfold rq; (try simp only [h_taped, h_fault, h_faultAt, h_clauses, h_turnsTold, h_held, h_sorts, h_things, h_chestSort, h_storedThing, h_rot] at c0 c9 c21 c33 c44 ⊢); (all_goals (try simp only [cmp_lt, cmp_gt] at c0 c9 c21 c33 c44 ⊢)); (all_goals (try simp only [le32, lt32, eq32, t64, vp_in_iff, Int32.reduceToInt, Int64.reduceToInt] at c0 c9 c21 c33 c44)); (all_goals (try simp (disch := ((try simp (disch := ((try simp (disch := omega) only [ia, is', im, ja, js, ir, idv, Int32.reduceToInt, Int64.reduceToInt, t64]); omega)) only [ia, is', im, ja, js, ir, idv, Int32.reduceToInt, Int64.reduceToInt, t64]); omega)) only [ia, is', im, ja, js, ir, idv, Int32.reduceToInt, Int64.reduceToInt, t64] at c0 c9 c21 c33 c44 ⊢)); (all_goals (try simp only [h_taped, h_fault, h_faultAt, h_clauses, h_turnsTold, h_held, h_sorts, h_things, h_chestSort, h_storedThing, h_rot] at c0 c9 c21 c33 c44 ⊢)); (all_goals (first | rfl | (rw [if_pos (by omega)]; done) | (rw [if_neg (by omega)]; done) | (rw [if_neg (by omega), if_pos (by omega)]; done) | (rw [if_neg (by omega), if_neg (by omega)]; done) | (exfalso; omega))))
set_option maxHeartbeats 4000000 in
set_option maxRecDepth 100000 in
theorem l_early0 {g : GG} {I : pI} {J : pJ} {R : pR} (hy : Ly g) (hr : Rf g R) {Q : Post} (hmc : MC g I) (a b c n : Int32) (N : Nat) (hN : (N : Int) = b.toInt ∧ b.toInt ≤ 60) (hc : 0 ≤ c.toInt ∧ c.toInt < 7) (hnext : WP g mX11_early 86 [(0, .ref (ad g P_o)), (1, .int a), (2, .int b), (3, .int c), (4, .int n), (5, .int n)] [] I J R Q) : ∀ (m k : Nat) (I2 : pI), k + m = N → I2 = I → WP g mX11_early 52 [(0, .ref (ad g P_o)), (1, .int a), (2, .int b), (3, .int c), (4, .int n), (5, .int n), (6, .int (nI k))] [] I2 J R Q := by
  intro m
  induction m with
  | zero =>
    intro k I2 hk hv
    have hbr := rng b
    have h_rot : ∀ q, I2 (ad g P_o_rot) q = 0 := by rw [hv]; exact hmc.2.2.2.2
    have hkb : k ≤ 60 := by omega
    have e1 : (c + nI k).toInt = c.toInt + k := by have e := nI_toInt (show k < 2 ^ 31 by omega); rw [ia (by rw [e]; omega) (by rw [e]; omega), e]
    have hkt : (nI k).toInt = (k : Int) := nI_toInt (by omega)
    have c0 : True := trivial
    refine WP_iload dX11_early_52 rfl ?_
    refine WP_iload_n dX11_early_54 rfl ?_
    refine WP_icmp_ge 86 dX11_early_55 rfl (fun c55 => ?_) (fun c55 => absurd c55 (by intro cc; (try simp only [hkt, e1, hkt] at cc); (all_goals (try simp only [cmp_lt, cmp_gt] at cc)); (all_goals (try simp only [le32, lt32, eq32, t64, Int32.reduceToInt, Int64.reduceToInt] at cc)); (all_goals (try simp (disch := ((try simp (disch := ((try simp (disch := omega) only [ia, is', im, ja, js, ir, idv, Int32.reduceToInt, Int64.reduceToInt, t64]); omega)) only [ia, is', im, ja, js, ir, idv, Int32.reduceToInt, Int64.reduceToInt, t64]); omega)) only [ia, is', im, ja, js, ir, idv, Int32.reduceToInt, Int64.reduceToInt, t64] at cc)); (all_goals (try simp only [hkt, e1, hkt] at cc)); (all_goals (try simp only [not_true_eq_false, eq_self] at cc)); all_goals omega))
    subst hv
    exact WP_sub (fc rfl (fc rfl (fc rfl (fc rfl (fc rfl (fc rfl fn)))))) hnext
  | succ m ih =>
    intro k I2 hk hv
    have hbr := rng b
    have h_rot : ∀ q, I2 (ad g P_o_rot) q = 0 := by rw [hv]; exact hmc.2.2.2.2
    have hkb : k ≤ 60 := by omega
    have e1 : (c + nI k).toInt = c.toInt + k := by have e := nI_toInt (show k < 2 ^ 31 by omega); rw [ia (by rw [e]; omega) (by rw [e]; omega), e]
    have hkt : (nI k).toInt = (k : Int) := nI_toInt (by omega)
    have c0 : True := trivial
    refine WP_iload dX11_early_52 rfl ?_
    refine WP_iload_n dX11_early_54 rfl ?_
    refine WP_icmp_ge 86 dX11_early_55 rfl (fun c55 => absurd c55 (by intro cc; (try simp only [hkt, e1, hkt] at cc); (all_goals (try simp only [cmp_lt, cmp_gt] at cc)); (all_goals (try simp only [le32, lt32, eq32, t64, Int32.reduceToInt, Int64.reduceToInt] at cc)); (all_goals (try simp (disch := ((try simp (disch := ((try simp (disch := omega) only [ia, is', im, ja, js, ir, idv, Int32.reduceToInt, Int64.reduceToInt, t64]); omega)) only [ia, is', im, ja, js, ir, idv, Int32.reduceToInt, Int64.reduceToInt, t64]); omega)) only [ia, is', im, ja, js, ir, idv, Int32.reduceToInt, Int64.reduceToInt, t64] at cc)); (all_goals (try simp only [hkt, e1, hkt] at cc)); (all_goals (try simp only [not_true_eq_false, eq_self] at cc)); all_goals omega)) (fun c55 => ?_)
    refine WP_iload dX11_early_58 rfl ?_
    refine WP_iload dX11_early_60 rfl ?_
    refine WP_aload_n dX11_early_62 rfl ?_
    refine WP_getr dX11_early_63 fX11_233 rfl (ly_is hy _ _ rfl) (rf hr 0 24 6 (by decide)) ?_
    refine WP_iload_n dX11_early_66 rfl ?_
    refine WP_iload dX11_early_67 rfl ?_
    refine WP_iadd dX11_early_69 ?_
    refine WP_bipush (7) dX11_early_70 rfl ?_
    refine WP_irem dX11_early_72 (by decide) ?_
    refine WP_iald dX11_early_73 (ly_is hy _ _ rfl) (ly_in hy _ _ rfl (by (try simp only [hkt, e1, hkt] at c0 c55 ⊢); (all_goals (try simp only [cmp_lt, cmp_gt] at c0 c55 ⊢)); (all_goals (try simp only [le32, lt32, eq32, t64, vp_in_iff, Int32.reduceToInt, Int64.reduceToInt] at c0 c55 ⊢)); (all_goals (try simp (disch := ((try simp (disch := ((try simp (disch := omega) only [ia, is', im, ja, js, ir, idv, Int32.reduceToInt, Int64.reduceToInt, t64]); omega)) only [ia, is', im, ja, js, ir, idv, Int32.reduceToInt, Int64.reduceToInt, t64]); omega)) only [ia, is', im, ja, js, ir, idv, Int32.reduceToInt, Int64.reduceToInt, t64] at c0 c55 ⊢)); (all_goals (try simp only [hkt, e1, hkt] at c0 c55 ⊢)); all_goals (first | (constructor <;> omega) | (exfalso; omega)))) ?_
    refine WP_callS2p dX11_early_74 ⟨⟨⟨by decide, by decide⟩, zX11_stampsOf⟩, lX11_380, tX11_stampsOf⟩ (s_stampsOf _ _) (Nat.le_of_ble_eq_true rfl) ?_
    refine WP_isub dX11_early_77 ?_
    refine WP_istore (ls' := [(0, _), (1, _), (2, _), (3, _), (4, _), (5, _), (6, _)]) dX11_early_78 (by decide) rfl ?_
    refine WP_iinc (ls' := [(0, _), (1, _), (2, _), (3, _), (4, _), (5, _), (6, _)]) dX11_early_80 rfl (by decide) rfl ?_
    refine WP_goto 52 dX11_early_83 rfl ?_
    refine WP_sub (ls' := [(0, .ref (ad g P_o)), (1, .int a), (2, .int b), (3, .int c), (4, .int n), (5, _), (6, .int (nI (k + 1)))]) (fc rfl (fc rfl (fc rfl (fc rfl (fc rfl (fc (by rw [h_rot, stamp0, Int32.sub_zero]; rfl) (fc (by rw [← nI_1]; rfl) fn))))))) (ih (k + 1) _ (by omega) ?_)
    exact hv
set_option maxHeartbeats 4000000 in
set_option maxRecDepth 100000 in
theorem l_early1 {g : GG} {I : pI} {J : pJ} {R : pR} (hy : Ly g) (hr : Rf g R) (a b c : Int32) (N : Nat) (hN : (N : Int) = a.toInt ∧ a.toInt ≤ 999) (hb : 0 ≤ b.toInt ∧ b.toInt ≤ 60) (hc : 0 ≤ c.toInt ∧ c.toInt < 7) : ∀ (m k : Nat) (I2 : pI), k + m = N → MC g I2 → WP g mX11_early 37 [(0, .ref (ad g P_o)), (1, .int a), (2, .int b), (3, .int c), (4, .int (nI k))] [] I2 J R (rq a) := by
  intro m
  induction m with
  | zero =>
    intro k I2 hk hv
    have har := rng a
    have hbr := rng b
    have hkt : (nI k).toInt = (k : Int) := nI_toInt (by omega)
    have c0 : True := trivial
    refine WP_iload dX11_early_37 rfl ?_
    refine WP_sipush (999) dX11_early_39 rfl ?_
    refine WP_icmp_gt 101 dX11_early_42 rfl (fun c42 => absurd c42 (by intro cc; (try simp only [hkt, hkt] at cc); (all_goals (try simp only [cmp_lt, cmp_gt] at cc)); (all_goals (try simp only [le32, lt32, eq32, t64, Int32.reduceToInt, Int64.reduceToInt] at cc)); (all_goals (try simp (disch := ((try simp (disch := ((try simp (disch := omega) only [ia, is', im, ja, js, ir, idv, Int32.reduceToInt, Int64.reduceToInt, t64]); omega)) only [ia, is', im, ja, js, ir, idv, Int32.reduceToInt, Int64.reduceToInt, t64]); omega)) only [ia, is', im, ja, js, ir, idv, Int32.reduceToInt, Int64.reduceToInt, t64] at cc)); (all_goals (try simp only [hkt, hkt] at cc)); (all_goals (try simp only [not_true_eq_false, eq_self] at cc)); all_goals omega)) (fun c42 => ?_)
    refine WP_iload dX11_early_45 rfl ?_
    refine WP_istore (ls' := [(0, _), (1, _), (2, _), (3, _), (4, _), (5, _)]) dX11_early_47 (by decide) rfl ?_
    refine WP_iconst (0) dX11_early_49 rfl ?_
    refine WP_istore (ls' := [(0, _), (1, _), (2, _), (3, _), (4, _), (5, _), (6, _)]) dX11_early_50 (by decide) rfl ?_
    refine WP_sub (ls' := [(0, .ref (ad g P_o)), (1, .int a), (2, .int b), (3, .int c), (4, .int (nI k)), (5, .int (nI k)), (6, .int (nI 0))]) (fc rfl (fc rfl (fc rfl (fc rfl (fc rfl (fc rfl (fc rfl fn))))))) (l_early0 (I := I2) (J := J) hy hr hv a b c (nI k) b.toInt.toNat (by omega) hc ?_ b.toInt.toNat 0 _ (by omega) rfl)
    refine WP_iload dX11_early_86 rfl ?_
    refine WP_iload_n dX11_early_88 rfl ?_
    refine WP_icmp_lt 95 dX11_early_89 rfl (fun c89 => absurd c89 (by intro cc; (try simp only [hkt] at cc); (all_goals (try simp only [cmp_lt, cmp_gt] at cc)); (all_goals (try simp only [le32, lt32, eq32, t64, Int32.reduceToInt, Int64.reduceToInt] at cc)); (all_goals (try simp (disch := ((try simp (disch := ((try simp (disch := omega) only [ia, is', im, ja, js, ir, idv, Int32.reduceToInt, Int64.reduceToInt, t64]); omega)) only [ia, is', im, ja, js, ir, idv, Int32.reduceToInt, Int64.reduceToInt, t64]); omega)) only [ia, is', im, ja, js, ir, idv, Int32.reduceToInt, Int64.reduceToInt, t64] at cc)); (all_goals (try simp only [hkt] at cc)); (all_goals (try simp only [not_true_eq_false, eq_self] at cc)); all_goals omega)) (fun c89 => ?_)
    refine WP_iload dX11_early_92 rfl ?_
    exact WP_iret dX11_early_94 rfl (congrArg (fun z => some (Value.int z)) ((eq32 _ _).mpr (by rw [hkt]; omega)))
  | succ m ih =>
    intro k I2 hk hv
    have har := rng a
    have hbr := rng b
    have hkt : (nI k).toInt = (k : Int) := nI_toInt (by omega)
    have c0 : True := trivial
    refine WP_iload dX11_early_37 rfl ?_
    refine WP_sipush (999) dX11_early_39 rfl ?_
    refine WP_icmp_gt 101 dX11_early_42 rfl (fun c42 => absurd c42 (by intro cc; (try simp only [hkt, hkt] at cc); (all_goals (try simp only [cmp_lt, cmp_gt] at cc)); (all_goals (try simp only [le32, lt32, eq32, t64, Int32.reduceToInt, Int64.reduceToInt] at cc)); (all_goals (try simp (disch := ((try simp (disch := ((try simp (disch := omega) only [ia, is', im, ja, js, ir, idv, Int32.reduceToInt, Int64.reduceToInt, t64]); omega)) only [ia, is', im, ja, js, ir, idv, Int32.reduceToInt, Int64.reduceToInt, t64]); omega)) only [ia, is', im, ja, js, ir, idv, Int32.reduceToInt, Int64.reduceToInt, t64] at cc)); (all_goals (try simp only [hkt, hkt] at cc)); (all_goals (try simp only [not_true_eq_false, eq_self] at cc)); all_goals omega)) (fun c42 => ?_)
    refine WP_iload dX11_early_45 rfl ?_
    refine WP_istore (ls' := [(0, _), (1, _), (2, _), (3, _), (4, _), (5, _)]) dX11_early_47 (by decide) rfl ?_
    refine WP_iconst (0) dX11_early_49 rfl ?_
    refine WP_istore (ls' := [(0, _), (1, _), (2, _), (3, _), (4, _), (5, _), (6, _)]) dX11_early_50 (by decide) rfl ?_
    refine WP_sub (ls' := [(0, .ref (ad g P_o)), (1, .int a), (2, .int b), (3, .int c), (4, .int (nI k)), (5, .int (nI k)), (6, .int (nI 0))]) (fc rfl (fc rfl (fc rfl (fc rfl (fc rfl (fc rfl (fc rfl fn))))))) (l_early0 (I := I2) (J := J) hy hr hv a b c (nI k) b.toInt.toNat (by omega) hc ?_ b.toInt.toNat 0 _ (by omega) rfl)
    refine WP_iload dX11_early_86 rfl ?_
    refine WP_iload_n dX11_early_88 rfl ?_
    refine WP_icmp_lt 95 dX11_early_89 rfl (fun c89 => ?_) (fun c89 => absurd c89 (by intro cc; (try simp only [hkt] at cc); (all_goals (try simp only [cmp_lt, cmp_gt] at cc)); (all_goals (try simp only [le32, lt32, eq32, t64, Int32.reduceToInt, Int64.reduceToInt] at cc)); (all_goals (try simp (disch := ((try simp (disch := ((try simp (disch := omega) only [ia, is', im, ja, js, ir, idv, Int32.reduceToInt, Int64.reduceToInt, t64]); omega)) only [ia, is', im, ja, js, ir, idv, Int32.reduceToInt, Int64.reduceToInt, t64]); omega)) only [ia, is', im, ja, js, ir, idv, Int32.reduceToInt, Int64.reduceToInt, t64] at cc)); (all_goals (try simp only [hkt] at cc)); (all_goals (try simp only [not_true_eq_false, eq_self] at cc)); all_goals omega))
    refine WP_iinc (ls' := [(0, _), (1, _), (2, _), (3, _), (4, _), (5, _)]) dX11_early_95 rfl (by decide) rfl ?_
    refine WP_goto 37 dX11_early_98 rfl ?_
    refine WP_sub (ls' := [(0, .ref (ad g P_o)), (1, .int a), (2, .int b), (3, .int c), (4, .int (nI (k + 1)))]) (fc rfl (fc rfl (fc rfl (fc rfl (fc (by rw [← nI_1]; rfl) fn))))) (ih (k + 1) _ (by omega) hv)
set_option maxHeartbeats 4000000 in
set_option maxRecDepth 100000 in
theorem fr_early {g : GG} {I : pI} {J : pJ} {R : pR} (hy : Ly g) (hr : Rf g R) (hf : MF g I J) (a b c : Int32) : SP g mX11_early [.ref (ad g P_o), .int a, .int b, .int c] I J R (rq (if (0 ≤ a.toInt ∧ a.toInt ≤ 999) ∧ (0 ≤ b.toInt ∧ b.toInt ≤ 60) ∧ (0 ≤ c.toInt ∧ c.toInt < 7) then a else -2)) := by
  refine SP_of ⟨by decide, rfl⟩ (Nat.le_of_ble_eq_true rfl) ?_
  have c0 : True := trivial
  obtain ⟨hmc, h_taped, h_fault, h_faultAt, h_clauses, h_turnsTold, h_held, h_now, h_kept⟩ := hf
  have hmc0 := hmc
  obtain ⟨h_sorts, h_things, h_chestSort, h_storedThing, h_rot⟩ := hmc
  refine WP_iload_n dX11_early_0 rfl ?_
  refine WP_i2l dX11_early_1 ?_
  refine WP_lconst (0) dX11_early_2 rfl ?_
  refine WP_ldc2 (999) dX11_early_3 klX11_523 ?_
  refine WP_callS3p dX11_early_6 ⟨⟨⟨by decide, by decide⟩, zX11_in⟩, lX11_52, tX11_in⟩ (s_in _ _ _) (Nat.le_of_ble_eq_true rfl) ?_
  refine WP_ifb_eq 31 dX11_early_9 rfl (fun c9 => ?_) (fun c9 => ?_)
  · refine WP_bipush (-2) dX11_early_31 rfl ?_
    exact WP_iret dX11_early_33 rfl (by unfold rq; (try simp only [h_taped, h_fault, h_faultAt, h_clauses, h_turnsTold, h_held, h_sorts, h_things, h_chestSort, h_storedThing, h_rot] at c0 c9 ⊢); (all_goals (try simp only [cmp_lt, cmp_gt] at c0 c9 ⊢)); (all_goals (try simp only [le32, lt32, eq32, t64, vp_in_iff, Int32.reduceToInt, Int64.reduceToInt] at c0 c9)); (all_goals (try simp (disch := ((try simp (disch := ((try simp (disch := omega) only [ia, is', im, ja, js, ir, idv, Int32.reduceToInt, Int64.reduceToInt, t64]); omega)) only [ia, is', im, ja, js, ir, idv, Int32.reduceToInt, Int64.reduceToInt, t64]); omega)) only [ia, is', im, ja, js, ir, idv, Int32.reduceToInt, Int64.reduceToInt, t64] at c0 c9 ⊢)); (all_goals (try simp only [h_taped, h_fault, h_faultAt, h_clauses, h_turnsTold, h_held, h_sorts, h_things, h_chestSort, h_storedThing, h_rot] at c0 c9 ⊢)); (all_goals (first | rfl | (rw [if_pos (by omega)]; done) | (rw [if_neg (by omega)]; done) | (rw [if_neg (by omega), if_pos (by omega)]; done) | (rw [if_neg (by omega), if_neg (by omega)]; done) | (exfalso; omega))))
  · refine WP_iload_n dX11_early_12 rfl ?_
    refine WP_i2l dX11_early_13 ?_
    refine WP_lconst (0) dX11_early_14 rfl ?_
    refine WP_ldc2 (60) dX11_early_15 klX11_361 ?_
    refine WP_callS3p dX11_early_18 ⟨⟨⟨by decide, by decide⟩, zX11_in⟩, lX11_52, tX11_in⟩ (s_in _ _ _) (Nat.le_of_ble_eq_true rfl) ?_
    refine WP_ifb_eq 31 dX11_early_21 rfl (fun c21 => ?_) (fun c21 => ?_)
    · refine WP_bipush (-2) dX11_early_31 rfl ?_
      exact WP_iret dX11_early_33 rfl (by unfold rq; (try simp only [h_taped, h_fault, h_faultAt, h_clauses, h_turnsTold, h_held, h_sorts, h_things, h_chestSort, h_storedThing, h_rot] at c0 c9 c21 ⊢); (all_goals (try simp only [cmp_lt, cmp_gt] at c0 c9 c21 ⊢)); (all_goals (try simp only [le32, lt32, eq32, t64, vp_in_iff, Int32.reduceToInt, Int64.reduceToInt] at c0 c9 c21)); (all_goals (try simp (disch := ((try simp (disch := ((try simp (disch := omega) only [ia, is', im, ja, js, ir, idv, Int32.reduceToInt, Int64.reduceToInt, t64]); omega)) only [ia, is', im, ja, js, ir, idv, Int32.reduceToInt, Int64.reduceToInt, t64]); omega)) only [ia, is', im, ja, js, ir, idv, Int32.reduceToInt, Int64.reduceToInt, t64] at c0 c9 c21 ⊢)); (all_goals (try simp only [h_taped, h_fault, h_faultAt, h_clauses, h_turnsTold, h_held, h_sorts, h_things, h_chestSort, h_storedThing, h_rot] at c0 c9 c21 ⊢)); (all_goals (first | rfl | (rw [if_pos (by omega)]; done) | (rw [if_neg (by omega)]; done) | (rw [if_neg (by omega), if_pos (by omega)]; done) | (rw [if_neg (by omega), if_neg (by omega)]; done) | (exfalso; omega))))
    · refine WP_iload_n dX11_early_24 rfl ?_
      refine WP_callS1p dX11_early_25 ⟨⟨⟨by decide, by decide⟩, zX11_isDay⟩, lX11_370, tX11_isDay⟩ (s_isDay _) (Nat.le_of_ble_eq_true rfl) ?_
      refine WP_ifb_ne 34 dX11_early_28 rfl (fun c28 => ?_) (fun c28 => ?_)
      · refine WP_iconst (0) dX11_early_34 rfl ?_
        refine WP_istore (ls' := [(0, _), (1, _), (2, _), (3, _), (4, _)]) dX11_early_35 (by decide) rfl ?_
        simp only [t64, Int64.reduceToInt] at c9 c21
        rw [if_pos (by omega)]
        refine WP_sub (ls' := [(0, .ref (ad g P_o)), (1, .int a), (2, .int b), (3, .int c), (4, .int (nI 0))]) (fc rfl (fc rfl (fc rfl (fc rfl (fc rfl fn))))) (l_early1 (I := I) (J := J) hy hr a b c a.toInt.toNat (by omega) (by omega) (by omega) a.toInt.toNat 0 _ (by omega) ?_)
        exact hmc0
      · refine WP_bipush (-2) dX11_early_31 rfl ?_
        exact WP_iret dX11_early_33 rfl (by unfold rq; (try simp only [h_taped, h_fault, h_faultAt, h_clauses, h_turnsTold, h_held, h_sorts, h_things, h_chestSort, h_storedThing, h_rot] at c0 c9 c21 c28 ⊢); (all_goals (try simp only [cmp_lt, cmp_gt] at c0 c9 c21 c28 ⊢)); (all_goals (try simp only [le32, lt32, eq32, t64, vp_in_iff, Int32.reduceToInt, Int64.reduceToInt] at c0 c9 c21 c28)); (all_goals (try simp (disch := ((try simp (disch := ((try simp (disch := omega) only [ia, is', im, ja, js, ir, idv, Int32.reduceToInt, Int64.reduceToInt, t64]); omega)) only [ia, is', im, ja, js, ir, idv, Int32.reduceToInt, Int64.reduceToInt, t64]); omega)) only [ia, is', im, ja, js, ir, idv, Int32.reduceToInt, Int64.reduceToInt, t64] at c0 c9 c21 c28 ⊢)); (all_goals (try simp only [h_taped, h_fault, h_faultAt, h_clauses, h_turnsTold, h_held, h_sorts, h_things, h_chestSort, h_storedThing, h_rot] at c0 c9 c21 c28 ⊢)); (all_goals (first | rfl | (rw [if_pos (by omega)]; done) | (rw [if_neg (by omega)]; done) | (rw [if_neg (by omega), if_pos (by omega)]; done) | (rw [if_neg (by omega), if_neg (by omega)]; done) | (exfalso; omega))))
