abbrev mX6_init : MD := (yX6_init, cX6_init, 1, none, RX6, 1, 12)
abbrev mX5_init : MD := (yX5_init, cX5_init, 1, none, RX5, 1, 12)
abbrev mX3_init : MD := (yX3_init, cX3_init, 2, none, RX3, 1, 12)
abbrev mX7_init : MD := (yX7_init, cX7_init, 1, none, RX7, 2, 43)
abbrev mX0_init : MD := (yX0_init, cX0_init, 2, none, RX0, 1, 12)
abbrev mX2_init : MD := (yX2_init, cX2_init, 2, none, RX2, 2, 32)
abbrev mX9_init : MD := (yX9_init, cX9_init, 3, none, RX9, 2, 32)
abbrev mX4_init : MD := (yX4_init, cX4_init, 1, none, RX4, 1, 12)
abbrev mX8_init : MD := (yX8_init, cX8_init, 1, none, RX8, 1, 12)
abbrev mX1_init : MD := (yX1_init, cX1_init, 1, none, RX1, 1, 12)
abbrev mX10_init : MD := (yX10_init, cX10_init, 2, none, RX10, 5, 107)
abbrev mX11_init : MD := (yX11_init, cX11_init, 2, none, RX11, 1, 12)
theorem lX6_3 : Cond.methodLink RX6 3 Lib.objectInit ∈ wsL_law := in_r6 _ (List.mem_of_getElem? (i := 5) rfl)
theorem lX5_3 : Cond.methodLink RX5 3 Lib.objectInit ∈ wsL_law := in_r3 _ (List.mem_of_getElem? (i := 5) rfl)
theorem lX3_3 : Cond.methodLink RX3 3 Lib.objectInit ∈ wsL_law := in_r3 _ (List.mem_of_getElem? (i := 12) rfl)
theorem lX7_3 : Cond.methodLink RX7 3 Lib.objectInit ∈ wsL_law := in_r3 _ (List.mem_of_getElem? (i := 21) rfl)
theorem lX7_58 : Cond.methodLink RX7 58 yX7_forget ∈ wsL_law := in_r4 _ (List.mem_of_getElem? (i := 14) rfl)
theorem lX0_3 : Cond.methodLink RX0 3 Lib.objectInit ∈ wsL_law := in_r5 _ (List.mem_of_getElem? (i := 6) rfl)
theorem lX2_3 : Cond.methodLink RX2 3 Lib.objectInit ∈ wsL_law := in_r5 _ (List.mem_of_getElem? (i := 16) rfl)
theorem ncX2_9 : nc_ok RX2 9 6 := ⟨by decide, in_r5 _ (List.mem_of_getElem? (i := 17) rfl), in_r5 _ (List.mem_of_getElem? (i := 18) rfl), in_r5 _ (List.mem_of_getElem? (i := 19) rfl)⟩
theorem lX2_11 : Cond.methodLink RX2 11 yX6_init ∈ wsL_law := in_r6 _ (List.mem_of_getElem? (i := 2) rfl)
theorem lX9_3 : Cond.methodLink RX9 3 Lib.objectInit ∈ wsL_law := in_r6 _ (List.mem_of_getElem? (i := 10) rfl)
theorem ncX9_9 : nc_ok RX9 9 6 := ⟨by decide, in_r6 _ (List.mem_of_getElem? (i := 11) rfl), in_r5 _ (List.mem_of_getElem? (i := 18) rfl), in_r5 _ (List.mem_of_getElem? (i := 19) rfl)⟩
theorem lX9_11 : Cond.methodLink RX9 11 yX6_init ∈ wsL_law := in_r6 _ (List.mem_of_getElem? (i := 17) rfl)
theorem lX4_3 : Cond.methodLink RX4 3 Lib.objectInit ∈ wsL_law := in_r6 _ (List.mem_of_getElem? (i := 21) rfl)
theorem lX8_3 : Cond.methodLink RX8 3 Lib.objectInit ∈ wsL_law := in_r7 _ (List.mem_of_getElem? (i := 4) rfl)
theorem lX1_3 : Cond.methodLink RX1 3 Lib.objectInit ∈ wsL_law := in_r7 _ (List.mem_of_getElem? (i := 10) rfl)
theorem lX10_3 : Cond.methodLink RX10 3 Lib.objectInit ∈ wsL_law := in_r1 _ (List.mem_of_getElem? (i := 9) rfl)
theorem ncX10_9 : nc_ok RX10 9 5 := ⟨by decide, in_r1 _ (List.mem_of_getElem? (i := 12) rfl), in_r1 _ (List.mem_of_getElem? (i := 13) rfl), in_r1 _ (List.mem_of_getElem? (i := 14) rfl)⟩
theorem lX10_11 : Cond.methodLink RX10 11 yX5_init ∈ wsL_law := in_r3 _ (List.mem_of_getElem? (i := 2) rfl)
theorem ncX10_16 : nc_ok RX10 16 3 := ⟨by decide, in_r1 _ (List.mem_of_getElem? (i := 16) rfl), in_r1 _ (List.mem_of_getElem? (i := 17) rfl), in_r1 _ (List.mem_of_getElem? (i := 18) rfl)⟩
theorem lX10_18 : Cond.methodLink RX10 18 yX3_init ∈ wsL_law := in_r3 _ (List.mem_of_getElem? (i := 9) rfl)
theorem ncX10_25 : nc_ok RX10 25 0 := ⟨by decide, in_r1 _ (List.mem_of_getElem? (i := 20) rfl), in_r1 _ (List.mem_of_getElem? (i := 21) rfl), in_r1 _ (List.mem_of_getElem? (i := 22) rfl)⟩
theorem ncX10_27 : nc_ok RX10 27 7 := ⟨by decide, in_r1 _ (List.mem_of_getElem? (i := 23) rfl), in_r2 _ (List.mem_of_getElem? (i := 0) rfl), in_r2 _ (List.mem_of_getElem? (i := 1) rfl)⟩
theorem lX10_29 : Cond.methodLink RX10 29 yX7_init ∈ wsL_law := in_r3 _ (List.mem_of_getElem? (i := 18) rfl)
theorem lX10_30 : Cond.methodLink RX10 30 yX0_init ∈ wsL_law := in_r5 _ (List.mem_of_getElem? (i := 3) rfl)
theorem ncX10_41 : nc_ok RX10 41 2 := ⟨by decide, in_r2 _ (List.mem_of_getElem? (i := 4) rfl), in_r2 _ (List.mem_of_getElem? (i := 5) rfl), in_r2 _ (List.mem_of_getElem? (i := 6) rfl)⟩
theorem lX10_43 : Cond.methodLink RX10 43 yX2_init ∈ wsL_law := in_r5 _ (List.mem_of_getElem? (i := 13) rfl)
theorem ncX10_50 : nc_ok RX10 50 9 := ⟨by decide, in_r2 _ (List.mem_of_getElem? (i := 8) rfl), in_r2 _ (List.mem_of_getElem? (i := 9) rfl), in_r2 _ (List.mem_of_getElem? (i := 10) rfl)⟩
theorem lX10_52 : Cond.methodLink RX10 52 yX9_init ∈ wsL_law := in_r6 _ (List.mem_of_getElem? (i := 7) rfl)
theorem ncX10_59 : nc_ok RX10 59 4 := ⟨by decide, in_r2 _ (List.mem_of_getElem? (i := 12) rfl), in_r2 _ (List.mem_of_getElem? (i := 13) rfl), in_r2 _ (List.mem_of_getElem? (i := 14) rfl)⟩
theorem lX10_61 : Cond.methodLink RX10 61 yX4_init ∈ wsL_law := in_r6 _ (List.mem_of_getElem? (i := 18) rfl)
theorem ncX10_73 : nc_ok RX10 73 8 := ⟨by decide, in_r2 _ (List.mem_of_getElem? (i := 18) rfl), in_r2 _ (List.mem_of_getElem? (i := 19) rfl), in_r2 _ (List.mem_of_getElem? (i := 20) rfl)⟩
theorem lX10_75 : Cond.methodLink RX10 75 yX8_init ∈ wsL_law := in_r7 _ (List.mem_of_getElem? (i := 1) rfl)
theorem ncX10_80 : nc_ok RX10 80 1 := ⟨by decide, in_r2 _ (List.mem_of_getElem? (i := 22) rfl), in_r2 _ (List.mem_of_getElem? (i := 23) rfl), in_r3 _ (List.mem_of_getElem? (i := 0) rfl)⟩
theorem lX10_82 : Cond.methodLink RX10 82 yX1_init ∈ wsL_law := in_r7 _ (List.mem_of_getElem? (i := 7) rfl)
theorem lX11_216 : Cond.methodLink RX11 216 Lib.objectInit ∈ wsL_law := in_r9 _ (List.mem_of_getElem? (i := 20) rfl)
theorem zX6_init : csZ mX6_init 0 := ⟨⟨by decide +kernel, by decide +kernel, by decide +kernel⟩, in_r6 _ (List.mem_of_getElem? (i := 4) rfl), in_r5 _ (List.mem_of_getElem? (i := 19) rfl)⟩
theorem iX6_init : Cond.instanceMethod yX6_init ∈ wsL_law := in_r6 _ (List.mem_of_getElem? (i := 3) rfl)
theorem zX5_init : csZ mX5_init 0 := ⟨⟨by decide +kernel, by decide +kernel, by decide +kernel⟩, in_r3 _ (List.mem_of_getElem? (i := 4) rfl), in_r1 _ (List.mem_of_getElem? (i := 14) rfl)⟩
theorem iX5_init : Cond.instanceMethod yX5_init ∈ wsL_law := in_r3 _ (List.mem_of_getElem? (i := 3) rfl)
theorem zX3_init : csZ mX3_init 1 := ⟨⟨by decide +kernel, by decide +kernel, by decide +kernel⟩, in_r3 _ (List.mem_of_getElem? (i := 11) rfl), in_r1 _ (List.mem_of_getElem? (i := 18) rfl)⟩
theorem iX3_init : Cond.instanceMethod yX3_init ∈ wsL_law := in_r3 _ (List.mem_of_getElem? (i := 10) rfl)
theorem zX7_init : csZ mX7_init 0 := ⟨⟨by decide +kernel, by decide +kernel, by decide +kernel⟩, in_r3 _ (List.mem_of_getElem? (i := 20) rfl), in_r2 _ (List.mem_of_getElem? (i := 1) rfl)⟩
theorem iX7_init : Cond.instanceMethod yX7_init ∈ wsL_law := in_r3 _ (List.mem_of_getElem? (i := 19) rfl)
theorem zX0_init : csZ mX0_init 1 := ⟨⟨by decide +kernel, by decide +kernel, by decide +kernel⟩, in_r5 _ (List.mem_of_getElem? (i := 5) rfl), in_r1 _ (List.mem_of_getElem? (i := 22) rfl)⟩
theorem iX0_init : Cond.instanceMethod yX0_init ∈ wsL_law := in_r5 _ (List.mem_of_getElem? (i := 4) rfl)
theorem zX2_init : csZ mX2_init 1 := ⟨⟨by decide +kernel, by decide +kernel, by decide +kernel⟩, in_r5 _ (List.mem_of_getElem? (i := 15) rfl), in_r2 _ (List.mem_of_getElem? (i := 6) rfl)⟩
theorem iX2_init : Cond.instanceMethod yX2_init ∈ wsL_law := in_r5 _ (List.mem_of_getElem? (i := 14) rfl)
theorem zX9_init : csZ mX9_init 2 := ⟨⟨by decide +kernel, by decide +kernel, by decide +kernel⟩, in_r6 _ (List.mem_of_getElem? (i := 9) rfl), in_r2 _ (List.mem_of_getElem? (i := 10) rfl)⟩
theorem iX9_init : Cond.instanceMethod yX9_init ∈ wsL_law := in_r6 _ (List.mem_of_getElem? (i := 8) rfl)
theorem zX4_init : csZ mX4_init 0 := ⟨⟨by decide +kernel, by decide +kernel, by decide +kernel⟩, in_r6 _ (List.mem_of_getElem? (i := 20) rfl), in_r2 _ (List.mem_of_getElem? (i := 14) rfl)⟩
theorem iX4_init : Cond.instanceMethod yX4_init ∈ wsL_law := in_r6 _ (List.mem_of_getElem? (i := 19) rfl)
theorem zX8_init : csZ mX8_init 0 := ⟨⟨by decide +kernel, by decide +kernel, by decide +kernel⟩, in_r7 _ (List.mem_of_getElem? (i := 3) rfl), in_r2 _ (List.mem_of_getElem? (i := 20) rfl)⟩
theorem iX8_init : Cond.instanceMethod yX8_init ∈ wsL_law := in_r7 _ (List.mem_of_getElem? (i := 2) rfl)
theorem zX1_init : csZ mX1_init 0 := ⟨⟨by decide +kernel, by decide +kernel, by decide +kernel⟩, in_r7 _ (List.mem_of_getElem? (i := 9) rfl), in_r3 _ (List.mem_of_getElem? (i := 0) rfl)⟩
theorem iX1_init : Cond.instanceMethod yX1_init ∈ wsL_law := in_r7 _ (List.mem_of_getElem? (i := 8) rfl)
theorem zX10_init : csZ mX10_init 0 := ⟨⟨by decide +kernel, by decide +kernel, by decide +kernel⟩, in_r1 _ (List.mem_of_getElem? (i := 8) rfl), in_r1 _ (List.mem_of_getElem? (i := 2) rfl)⟩
theorem iX10_init : Cond.instanceMethod yX10_init ∈ wsL_law := in_r1 _ (List.mem_of_getElem? (i := 7) rfl)
theorem zX11_init : csZ mX11_init 0 := ⟨⟨by decide +kernel, by decide +kernel, by decide +kernel⟩, in_r9 _ (List.mem_of_getElem? (i := 19) rfl), in_r1 _ (List.mem_of_getElem? (i := 5) rfl)⟩
theorem iX11_init : Cond.instanceMethod yX11_init ∈ wsL_law := in_r9 _ (List.mem_of_getElem? (i := 18) rfl)
theorem nw_int : nw_ok .int 13 := ⟨in_r3 _ (List.mem_of_getElem? (i := 13) rfl), Or.inr (Or.inl ⟨rfl, rfl⟩)⟩
theorem nw_byte : nw_ok .byte 12 := ⟨in_r3 _ (List.mem_of_getElem? (i := 6) rfl), Or.inl ⟨rfl, rfl⟩⟩
theorem nw_long : nw_ok .long 14 := ⟨in_r4 _ (List.mem_of_getElem? (i := 11) rfl), Or.inr (Or.inr (Or.inl ⟨rfl, rfl⟩))⟩
theorem nw_boolean : nw_ok .boolean 15 := ⟨in_r11 _ (List.mem_of_getElem? (i := 13) rfl), Or.inr (Or.inr (Or.inr ⟨rfl, rfl⟩))⟩
theorem ncA : Cond.classLink RX10 59 RX4 ∈ wsL_law := in_r2 _ (List.mem_of_getElem? (i := 12) rfl)
def KB (B : GB) (kt nt : List Nat) : Prop := b_k B = kt ∧ b_n B = nt
theorem kx {B : GB} {kt nt : List Nat} (h : KB B kt nt) {i k : Nat} (hk : kt[i]? = some k) : (b_k B)[i]? = some k := by rw [h.1]; exact hk
theorem nx {B : GB} {kt nt : List Nat} (h : KB B kt nt) {i k : Nat} (hk : nt[i]? = some k) : (b_n B)[i]? = some k := by rw [h.2]; exact hk
theorem lyg {g : GG} {a n : Nat} {v : Int32} (h : g_n g a = n) (hv : vp_in v n) : vp_in v (g_n g a) := by rw [h]; exact hv
set_option maxHeartbeats 4000000 in
set_option maxRecDepth 100000 in
theorem l_fillg {g : GG} {I : pI} {J : pJ} {R : pR} (a n : Nat) (ha : g_is g a 13) (hna : g_n g a = n) (hn : n < 1000) (v : Int32)  : ∀ (m k : Nat) (I2 : pI), k + m = n → I2 = fi I a k v → WP g mJ7_fill_53178 5 [(0, .ref a), (1, .int v), (2, .int (nI k)), (3, .int (nI n))] [] I2 J R (pu (fi I a n v) J R) := by
  intro m
  induction m with
  | zero =>
    intro k I2 hk hv
    have hnn : (nI n).toInt = (n : Int) := nI_toInt (by omega)
    have hkt : (nI k).toInt = (k : Int) := nI_toInt (by omega)
    have c0 : True := trivial
    refine WP_iload_n dJ7_fill_53178_5 rfl ?_
    refine WP_iload_n dJ7_fill_53178_6 rfl ?_
    refine WP_icmp_ge 20 dJ7_fill_53178_7 rfl (fun c7 => ?_) (fun c7 => absurd c7 (by intro cc; (try simp only [hkt, hnn, hkt] at cc); (all_goals (try simp only [cmp_lt, cmp_gt] at cc)); (all_goals (try simp only [le32, lt32, eq32, t64, Int32.reduceToInt, Int64.reduceToInt] at cc)); (all_goals (try simp (disch := ((try simp (disch := ((try simp (disch := omega) only [ia, is', im, ja, js, ir, idv, Int32.reduceToInt, Int64.reduceToInt, t64]); omega)) only [ia, is', im, ja, js, ir, idv, Int32.reduceToInt, Int64.reduceToInt, t64]); omega)) only [ia, is', im, ja, js, ir, idv, Int32.reduceToInt, Int64.reduceToInt, t64] at cc)); (all_goals (try simp only [hkt, hnn, hkt] at cc)); (all_goals (try simp only [not_true_eq_false, eq_self] at cc)); all_goals omega))
    exact WP_vret dJ7_fill_53178_20 rfl ⟨rfl, (by rw [hv]; congr 1), rfl, rfl⟩
  | succ m ih =>
    intro k I2 hk hv
    have hnn : (nI n).toInt = (n : Int) := nI_toInt (by omega)
    have hkt : (nI k).toInt = (k : Int) := nI_toInt (by omega)
    have c0 : True := trivial
    refine WP_iload_n dJ7_fill_53178_5 rfl ?_
    refine WP_iload_n dJ7_fill_53178_6 rfl ?_
    refine WP_icmp_ge 20 dJ7_fill_53178_7 rfl (fun c7 => absurd c7 (by intro cc; (try simp only [hkt, hnn, hkt] at cc); (all_goals (try simp only [cmp_lt, cmp_gt] at cc)); (all_goals (try simp only [le32, lt32, eq32, t64, Int32.reduceToInt, Int64.reduceToInt] at cc)); (all_goals (try simp (disch := ((try simp (disch := ((try simp (disch := omega) only [ia, is', im, ja, js, ir, idv, Int32.reduceToInt, Int64.reduceToInt, t64]); omega)) only [ia, is', im, ja, js, ir, idv, Int32.reduceToInt, Int64.reduceToInt, t64]); omega)) only [ia, is', im, ja, js, ir, idv, Int32.reduceToInt, Int64.reduceToInt, t64] at cc)); (all_goals (try simp only [hkt, hnn, hkt] at cc)); (all_goals (try simp only [not_true_eq_false, eq_self] at cc)); all_goals omega)) (fun c7 => ?_)
    refine WP_aload_n dJ7_fill_53178_10 rfl ?_
    refine WP_iload_n dJ7_fill_53178_11 rfl ?_
    refine WP_iload_n dJ7_fill_53178_12 rfl ?_
    refine WP_iast dJ7_fill_53178_13 (ha) (lyg hna (by (try simp only [hkt, hnn, hkt] at c0 c7 ⊢); (all_goals (try simp only [cmp_lt, cmp_gt] at c0 c7 ⊢)); (all_goals (try simp only [le32, lt32, eq32, t64, vp_in_iff, Int32.reduceToInt, Int64.reduceToInt] at c0 c7 ⊢)); (all_goals (try simp (disch := ((try simp (disch := ((try simp (disch := omega) only [ia, is', im, ja, js, ir, idv, Int32.reduceToInt, Int64.reduceToInt, t64]); omega)) only [ia, is', im, ja, js, ir, idv, Int32.reduceToInt, Int64.reduceToInt, t64]); omega)) only [ia, is', im, ja, js, ir, idv, Int32.reduceToInt, Int64.reduceToInt, t64] at c0 c7 ⊢)); (all_goals (try simp only [hkt, hnn, hkt] at c0 c7 ⊢)); all_goals (first | (constructor <;> omega) | (exfalso; omega)))) ?_
    refine WP_iinc (ls' := [(0, _), (1, _), (2, _), (3, _)]) dJ7_fill_53178_14 rfl (by decide) rfl ?_
    refine WP_goto 5 dJ7_fill_53178_17 rfl ?_
    refine WP_sub (ls' := [(0, .ref a), (1, .int v), (2, .int (nI (k + 1))), (3, .int (nI n))]) (fc rfl (fc rfl (fc (by rw [← nI_1]; rfl) (fc rfl fn)))) (ih (k + 1) _ (by omega) ?_)
    rw [hv, cl hkt]
    exact fi_s
set_option maxHeartbeats 4000000 in
set_option maxRecDepth 100000 in
theorem s_fillg {g : GG} {I : pI} {J : pJ} {R : pR} (a n : Nat) (ha : g_is g a 13) (hna : g_n g a = n) (hn : n < 1000) (v : Int32)  : SP g mJ7_fill_53178 [.ref a, .int v] I J R (pu (fi I a n v) J R) := by
  refine SP_of ⟨by decide, rfl⟩ (Nat.le_of_ble_eq_true rfl) ?_
  have c0 : True := trivial
  refine WP_iconst (0) dJ7_fill_53178_0 rfl ?_
  refine WP_istore_n (ls' := [(0, _), (1, _), (2, _)]) dJ7_fill_53178_1 (by decide) rfl ?_
  refine WP_aload_n dJ7_fill_53178_2 rfl ?_
  refine WP_alen dJ7_fill_53178_3 (ha) (by decide) ?_
  rw [hna]
  refine WP_istore_n (ls' := [(0, _), (1, _), (2, _), (3, _)]) dJ7_fill_53178_4 (by decide) rfl ?_
  refine WP_sub (ls' := [(0, .ref a), (1, .int v), (2, .int (nI 0)), (3, .int (nI n))]) (fc rfl (fc rfl (fc rfl (fc rfl fn)))) (l_fillg (I := I) (J := J) a n ha hna hn v n 0 _ (by omega) ?_)
  exact fi_0.symm

