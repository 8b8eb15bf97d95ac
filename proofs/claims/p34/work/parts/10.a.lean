set_option maxHeartbeats 4000000 in
set_option maxRecDepth 100000 in
theorem s_in {g : GG} {I : pI} {J : pJ} {R : pR} (v lo hi : Int64) : SP g mX11_in [.long v, .long lo, .long hi] I J R (pq (.int (if lo.toInt ≤ v.toInt ∧ v.toInt ≤ hi.toInt then 1 else 0)) I J R) := by
  refine SP_of ⟨by decide, rfl⟩ (Nat.le_of_ble_eq_true rfl) ?_
  refine WP_lload_n dX11_in_0 rfl ?_
  refine WP_lload_n dX11_in_1 rfl ?_
  refine WP_lcmp dX11_in_2 ?_
  refine WP_if_lt 17 dX11_in_3 rfl (fun c3 => ?_) (fun c3 => ?_)
  · refine WP_iconst (0) dX11_in_17 rfl ?_
    exact WP_zret dX11_in_18 rfl rfl ⟨(by (try simp only [cmp_lt, cmp_gt] at *); (try simp only [le32, lt32, eq32, t64, vp_in_iff, Int32.reduceToInt, Int64.reduceToInt] at *); (try simp (disch := ((try simp (disch := ((try simp (disch := omega) only [ia, is', im, ja, js, ir, idv, Int32.reduceToInt, Int64.reduceToInt, t64]); omega)) only [ia, is', im, ja, js, ir, idv, Int32.reduceToInt, Int64.reduceToInt, t64]); omega)) only [ia, is', im, ja, js, ir, idv, Int32.reduceToInt, Int64.reduceToInt, t64] at *); first | rfl | (rw [if_pos (by omega)]) | (rw [if_neg (by omega)])), rfl, rfl, rfl⟩
  · refine WP_lload_n dX11_in_6 rfl ?_
    refine WP_lload dX11_in_7 rfl ?_
    refine WP_lcmp dX11_in_9 ?_
    refine WP_if_gt 17 dX11_in_10 rfl (fun c10 => ?_) (fun c10 => ?_)
    · refine WP_iconst (0) dX11_in_17 rfl ?_
      exact WP_zret dX11_in_18 rfl rfl ⟨(by (try simp only [cmp_lt, cmp_gt] at *); (try simp only [le32, lt32, eq32, t64, vp_in_iff, Int32.reduceToInt, Int64.reduceToInt] at *); (try simp (disch := ((try simp (disch := ((try simp (disch := omega) only [ia, is', im, ja, js, ir, idv, Int32.reduceToInt, Int64.reduceToInt, t64]); omega)) only [ia, is', im, ja, js, ir, idv, Int32.reduceToInt, Int64.reduceToInt, t64]); omega)) only [ia, is', im, ja, js, ir, idv, Int32.reduceToInt, Int64.reduceToInt, t64] at *); first | rfl | (rw [if_pos (by omega)]) | (rw [if_neg (by omega)])), rfl, rfl, rfl⟩
    · refine WP_iconst (1) dX11_in_13 rfl ?_
      refine WP_goto 18 dX11_in_14 rfl ?_
      exact WP_zret dX11_in_18 rfl rfl ⟨(by (try simp only [cmp_lt, cmp_gt] at *); (try simp only [le32, lt32, eq32, t64, vp_in_iff, Int32.reduceToInt, Int64.reduceToInt] at *); (try simp (disch := ((try simp (disch := ((try simp (disch := omega) only [ia, is', im, ja, js, ir, idv, Int32.reduceToInt, Int64.reduceToInt, t64]); omega)) only [ia, is', im, ja, js, ir, idv, Int32.reduceToInt, Int64.reduceToInt, t64]); omega)) only [ia, is', im, ja, js, ir, idv, Int32.reduceToInt, Int64.reduceToInt, t64] at *); first | rfl | (rw [if_pos (by omega)]) | (rw [if_neg (by omega)])), rfl, rfl, rfl⟩
set_option maxHeartbeats 4000000 in
set_option maxRecDepth 100000 in
theorem s_isSort {g : GG} {I : pI} {J : pJ} {R : pR} (hy : Ly g) (hr : Rf g R) (s : Int32) : SP g mX11_isSort [.ref (ad g P_o), .int s] I J R (pq (.int (if 0 ≤ s.toInt ∧ s.toInt < (I (ad g P_o) 10).toInt then 1 else 0)) I J R) := by
  refine SP_of ⟨by decide, rfl⟩ (Nat.le_of_ble_eq_true rfl) ?_
  refine WP_iload_n dX11_isSort_0 rfl ?_
  refine WP_i2l dX11_isSort_1 ?_
  refine WP_lconst (0) dX11_isSort_2 rfl ?_
  refine WP_aload_n dX11_isSort_3 rfl ?_
  refine WP_geti dX11_isSort_4 fX11_329 rfl (ly_is hy _ _ rfl) ?_
  refine WP_i2l dX11_isSort_7 ?_
  refine WP_lconst (1) dX11_isSort_8 rfl ?_
  refine WP_lsub dX11_isSort_9 ?_
  refine WP_callS3p dX11_isSort_10 ⟨⟨⟨by decide, by decide⟩, zX11_in⟩, lX11_52, tX11_in⟩ (s_in _ _ _) (Nat.le_of_ble_eq_true rfl) ?_
  exact WP_zret dX11_isSort_13 rfl (by split <;> rfl) ⟨(by have h1 := rng (I (ad g P_o) 10); have h2 := rng s; simp (disch := ((try simp (disch := ((try simp (disch := omega) only [ia, is', im, ja, js, ir, idv, Int32.reduceToInt, Int64.reduceToInt, t64]); omega)) only [ia, is', im, ja, js, ir, idv, Int32.reduceToInt, Int64.reduceToInt, t64]); omega)) only [ia, is', im, ja, js, ir, idv, Int32.reduceToInt, Int64.reduceToInt, t64]; congr 3; apply propext; omega), rfl, rfl, rfl⟩
set_option maxHeartbeats 4000000 in
set_option maxRecDepth 100000 in
theorem s_isThing {g : GG} {I : pI} {J : pJ} {R : pR} (hy : Ly g) (hr : Rf g R) (s : Int32) : SP g mX11_isThing [.ref (ad g P_o), .int s] I J R (pq (.int (if 0 ≤ s.toInt ∧ s.toInt < (I (ad g P_o) 11).toInt then 1 else 0)) I J R) := by
  refine SP_of ⟨by decide, rfl⟩ (Nat.le_of_ble_eq_true rfl) ?_
  refine WP_iload_n dX11_isThing_0 rfl ?_
  refine WP_i2l dX11_isThing_1 ?_
  refine WP_lconst (0) dX11_isThing_2 rfl ?_
  refine WP_aload_n dX11_isThing_3 rfl ?_
  refine WP_geti dX11_isThing_4 fX11_332 rfl (ly_is hy _ _ rfl) ?_
  refine WP_i2l dX11_isThing_7 ?_
  refine WP_lconst (1) dX11_isThing_8 rfl ?_
  refine WP_lsub dX11_isThing_9 ?_
  refine WP_callS3p dX11_isThing_10 ⟨⟨⟨by decide, by decide⟩, zX11_in⟩, lX11_52, tX11_in⟩ (s_in _ _ _) (Nat.le_of_ble_eq_true rfl) ?_
  exact WP_zret dX11_isThing_13 rfl (by split <;> rfl) ⟨(by have h1 := rng (I (ad g P_o) 11); have h2 := rng s; simp (disch := ((try simp (disch := ((try simp (disch := omega) only [ia, is', im, ja, js, ir, idv, Int32.reduceToInt, Int64.reduceToInt, t64]); omega)) only [ia, is', im, ja, js, ir, idv, Int32.reduceToInt, Int64.reduceToInt, t64]); omega)) only [ia, is', im, ja, js, ir, idv, Int32.reduceToInt, Int64.reduceToInt, t64]; congr 3; apply propext; omega), rfl, rfl, rfl⟩
set_option maxHeartbeats 4000000 in
set_option maxRecDepth 100000 in
theorem s_isDay {g : GG} {I : pI} {J : pJ} {R : pR} (s : Int32) : SP g mX11_isDay [.int s] I J R (pq (.int (if 0 ≤ s.toInt ∧ s.toInt < 7 then 1 else 0)) I J R) := by
  refine SP_of ⟨by decide, rfl⟩ (Nat.le_of_ble_eq_true rfl) ?_
  refine WP_iload_n dX11_isDay_0 rfl ?_
  refine WP_i2l dX11_isDay_1 ?_
  refine WP_lconst (0) dX11_isDay_2 rfl ?_
  refine WP_ldc2 (6) dX11_isDay_3 klX11_365 ?_
  refine WP_callS3p dX11_isDay_6 ⟨⟨⟨by decide, by decide⟩, zX11_in⟩, lX11_52, tX11_in⟩ (s_in _ _ _) (Nat.le_of_ble_eq_true rfl) ?_
  exact WP_zret dX11_isDay_9 rfl (by split <;> rfl) ⟨(by have h2 := rng s; simp (disch := ((try simp (disch := ((try simp (disch := omega) only [ia, is', im, ja, js, ir, idv, Int32.reduceToInt, Int64.reduceToInt, t64]); omega)) only [ia, is', im, ja, js, ir, idv, Int32.reduceToInt, Int64.reduceToInt, t64]); omega)) only [ia, is', im, ja, js, ir, idv, Int32.reduceToInt, Int64.reduceToInt, t64]; congr 3; apply propext; omega), rfl, rfl, rfl⟩
