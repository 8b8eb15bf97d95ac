/-- the first n places of a row are v -/
def fi (I : pI) (a n : Nat) (v : Int32) : pI := fun b q => if b = a ∧ q < n then v else I b q
theorem fi_in {I : pI} {a n q : Nat} {v : Int32} (h : q < n) : fi I a n v a q = v := by simp [fi, h]
theorem fi_off {I : pI} {a n b : Nat} {v : Int32} (h : b ≠ a) : fi I a n v b = I b := by funext q; simp [fi, h]
theorem fi_0 {I : pI} {a : Nat} {v : Int32} : fi I a 0 v = I := by funext b q; simp [fi]
theorem fi_s {I : pI} {a k : Nat} {v : Int32} : pp (fi I a k v) a k v = fi I a (k + 1) v := by
  funext b q
  unfold pp fi
  by_cases h1 : b = a
  · subst h1
    by_cases h2 : q = k
    · subst h2; simp
    · by_cases h3 : q < k
      · simp [h2, h3, show q < k + 1 by omega]
      · simp [h2, h3, show ¬ q < k + 1 by omega]
  · simp [h1]
set_option maxHeartbeats 4000000 in
set_option maxRecDepth 100000 in
theorem l_fill {g : GG} {I : pI} {J : pJ} {R : pR} (hy : LyX g) (hr : RfX g R) (t n : Nat) (htk : kTX[t]? = some 13) (htn : nTX[t]? = some n) (hn : n < 1000) (v : Int32)  : ∀ (m k : Nat) (I2 : pI), k + m = n → I2 = fi I (ad g t) k v → WP g mJ7_fill_53178 5 [(0, .ref (ad g t)), (1, .int v), (2, .int (nI k)), (3, .int (nI n))] [] I2 J R (pu (fi I (ad g t) n v) J R) := by
  intro m
  induction m with
  | zero =>
    intro k I2 hk hv
    have hnn : (nI n).toInt = (n : Int) := nI_toInt (by omega)
    have hkt : (nI k).toInt = (k : Int) := nI_toInt (by omega)
    have c0 : True := trivial
    refine WP_iload_n dJ7_fill_53178_5 rfl ?_
    refine WP_iload_n dJ7_fill_53178_6 rfl ?_
    refine WP_icmp_ge 20 dJ7_fill_53178_7 rfl (fun c7 => ?_) (fun c7 => absurd c7 (by intro cc; (try simp only [hkt, hnn, hkt] at cc); (all_goals (try simp only [cmp_lt, cmp_gt] at cc)); (all_goals (try simp only [le32, lt32, eq32, t64, Int32.reduceToInt, Int64.reduceToInt] at cc)); (all_goals (try simp (disch := ((try simp (disch := ((try simp (disch := omega) only [ia, is', im, ja, js, ir, idv, Int32.reduceToInt, Int64.reduceToInt, t64]); omega)) only [ia, is', im, ja, js, ir, idv, Int32.reduceToInt, Int64.reduceToInt, t64]); omega)) only [ia, is', im, ja, js, ir, idv, Int32.reduceToInt, Int64.reduceToInt, t64] at cc)); (all_goals (try simp only [hkt, hnn, hkt] at cc)); (all_goals (try simp only [not_true_eq_false, eq_self] at cc)); all_goals omega))
    exact WP_vret dJ7_fill_53178_20 rfl ⟨rfl, (by rw [hv]; congr 1), rfl, rfl⟩
  | succ m ih =>
    intro k I2 hk hv
    have hnn : (nI n).toInt = (n : Int) := nI_toInt (by omega)
    have hkt : (nI k).toInt = (k : Int) := nI_toInt (by omega)
    have c0 : True := trivial
    refine WP_iload_n dJ7_fill_53178_5 rfl ?_
    refine WP_iload_n dJ7_fill_53178_6 rfl ?_
    refine WP_icmp_ge 20 dJ7_fill_53178_7 rfl (fun c7 => absurd c7 (by intro cc; (try simp only [hkt, hnn, hkt] at cc); (all_goals (try simp only [cmp_lt, cmp_gt] at cc)); (all_goals (try simp only [le32, lt32, eq32, t64, Int32.reduceToInt, Int64.reduceToInt] at cc)); (all_goals (try simp (disch := ((try simp (disch := ((try simp (disch := omega) only [ia, is', im, ja, js, ir, idv, Int32.reduceToInt, Int64.reduceToInt, t64]); omega)) only [ia, is', im, ja, js, ir, idv, Int32.reduceToInt, Int64.reduceToInt, t64]); omega)) only [ia, is', im, ja, js, ir, idv, Int32.reduceToInt, Int64.reduceToInt, t64] at cc)); (all_goals (try simp only [hkt, hnn, hkt] at cc)); (all_goals (try simp only [not_true_eq_false, eq_self] at cc)); all_goals omega)) (fun c7 => ?_)
    refine WP_aload_n dJ7_fill_53178_10 rfl ?_
    refine WP_iload_n dJ7_fill_53178_11 rfl ?_
    refine WP_iload_n dJ7_fill_53178_12 rfl ?_
    refine WP_iast dJ7_fill_53178_13 (lyx_is hy _ _ htk) (lyx_in hy _ n htn (by (try simp only [hkt, hnn, hkt] at c0 c7 ⊢); (all_goals (try simp only [cmp_lt, cmp_gt] at c0 c7 ⊢)); (all_goals (try simp only [le32, lt32, eq32, t64, vp_in_iff, Int32.reduceToInt, Int64.reduceToInt] at c0 c7 ⊢)); (all_goals (try simp (disch := ((try simp (disch := ((try simp (disch := omega) only [ia, is', im, ja, js, ir, idv, Int32.reduceToInt, Int64.reduceToInt, t64]); omega)) only [ia, is', im, ja, js, ir, idv, Int32.reduceToInt, Int64.reduceToInt, t64]); omega)) only [ia, is', im, ja, js, ir, idv, Int32.reduceToInt, Int64.reduceToInt, t64] at c0 c7 ⊢)); (all_goals (try simp only [hkt, hnn, hkt] at c0 c7 ⊢)); all_goals (first | (constructor <;> omega) | (exfalso; omega)))) ?_
    refine WP_iinc (ls' := [(0, _), (1, _), (2, _), (3, _)]) dJ7_fill_53178_14 rfl (by decide) rfl ?_
    refine WP_goto 5 dJ7_fill_53178_17 rfl ?_
    refine WP_sub (ls' := [(0, .ref (ad g t)), (1, .int v), (2, .int (nI (k + 1))), (3, .int (nI n))]) (fc rfl (fc rfl (fc (by rw [← nI_1]; rfl) (fc rfl fn)))) (ih (k + 1) _ (by omega) ?_)
    rw [hv, cl hkt]
    exact fi_s
set_option maxHeartbeats 4000000 in
set_option maxRecDepth 100000 in
theorem s_fill {g : GG} {I : pI} {J : pJ} {R : pR} (hy : LyX g) (hr : RfX g R) (t n : Nat) (htk : kTX[t]? = some 13) (htn : nTX[t]? = some n) (hn : n < 1000) (v : Int32)  : SP g mJ7_fill_53178 [.ref (ad g t), .int v] I J R (pu (fi I (ad g t) n v) J R) := by
  refine SP_of ⟨by decide, rfl⟩ (Nat.le_of_ble_eq_true rfl) ?_
  have c0 : True := trivial
  refine WP_iconst (0) dJ7_fill_53178_0 rfl ?_
  refine WP_istore_n (ls' := [(0, _), (1, _), (2, _)]) dJ7_fill_53178_1 (by decide) rfl ?_
  refine WP_aload_n dJ7_fill_53178_2 rfl ?_
  refine WP_alen dJ7_fill_53178_3 (lyx_is hy _ _ htk) (by decide) ?_
  rw [lyx_n hy _ _ htn]
  refine WP_istore_n (ls' := [(0, _), (1, _), (2, _), (3, _)]) dJ7_fill_53178_4 (by decide) rfl ?_
  refine WP_sub (ls' := [(0, .ref (ad g t)), (1, .int v), (2, .int (nI 0)), (3, .int (nI n))]) (fc rfl (fc rfl (fc rfl (fc rfl fn)))) (l_fill (I := I) (J := J) hy hr t n htk htn hn v n 0 _ (by omega) ?_)
  exact fi_0.symm
