def Rk (g : GG) (p q : Int) (r t k : Nat) (I : pI) : Prop := Rw g p q r t I ∧ ∀ i, i < k → (I (ad g P_o_follows) (100 * t + i)).toInt = VV p q r t (i / 10) (i % 10)
theorem Rk_step {g : GG} (hy : Ly g) {p q : Int} {r t k : Nat} {I : pI} {x b : Int32} (h : Rk g p q r t k I) (ht : 1 ≤ t) (hx : x.toInt = mostV p q r (((t - 1 : Nat) : Int) + 1) (VV p q r (t - 1)) (k / 10) (k % 10)) : Rk g p q r t (k + 1) (pp (pp I (ad g P_o) 70 b) (ad g P_o_follows) (100 * t + k) x) := by
  have hne : ad g P_o_follows ≠ ad g P_o := ly_ne hy (by decide) (by decide) (by decide)
  refine ⟨fun u a c hu ha hc => ?_, fun i hi => ?_⟩
  · rw [pp_ne _ _ (Or.inr (by omega)), pp_off _ _ hne]
    exact h.1 u a c hu ha hc
  · by_cases e : i = k
    · subst e
      rw [pp_self, hx]
      obtain ⟨s, rfl⟩ : ∃ s, t = s + 1 := ⟨t - 1, by omega⟩
      rfl
    · rw [pp_ne _ _ (Or.inr (by omega)), pp_off _ _ hne]
      exact h.2 i (by omega)
theorem Rk_next {g : GG} {p q : Int} {r t : Nat} {I : pI} (h : Rk g p q r t 100 I) : Rw g p q r (t + 1) I := by
  intro u a c hu ha hc
  by_cases e : u < t
  · exact h.1 u a c e ha hc
  · have e2 : u = t := by omega
    subst e2
    have h1 := h.2 (10 * a + c) (by omega)
    have e3 : (10 * a + c) / 10 = a := by omega
    have e4 : (10 * a + c) % 10 = c := by omega
    rw [e3, e4] at h1
    rw [show 100 * u + 10 * a + c = 100 * u + (10 * a + c) by omega]
    exact h1
set_option maxHeartbeats 4000000 in
set_option maxRecDepth 100000 in
theorem l_two126 {g : GG} {I : pI} {J : pJ} {R : pR} (hy : Ly g) (hr : Rf g R) (na nc nn nr : Nat) (xa xc xp xq xn xr xw : Int32) (ha : xa.toInt = (na : Int) ∧ na ≤ 9) (hc : xc.toInt = (nc : Int) ∧ nc ≤ 9) (hp : 0 ≤ xp.toInt ∧ xp.toInt ≤ 100) (hqq : 0 ≤ xq.toInt ∧ xq.toInt ≤ 100) (hn : xn.toInt = (nn : Int) ∧ nn ≤ 20) (hq : xr.toInt = (nr : Int) ∧ 1 ≤ nr ∧ nr ≤ 20) (hw : xw.toInt = 0 ∨ xw.toInt = 1) (t : Nat) (ht : 1 ≤ t ∧ t ≤ 20) (hnext : ∀ I3, Rw g xp.toInt xq.toInt nr (t + 1) I3 → WP g mX11_two 173 [(0, .ref (ad g P_o)), (1, .int xa), (2, .int xc), (3, .int xp), (4, .int xq), (5, .int xn), (6, .int xr), (7, .int xw), (8, .int (nI t))] [] I3 J R (fun r0 _ _ _ => ∃ x : Int32, r0 = some (.int x) ∧ x.toInt = twoR na nc xp.toInt xq.toInt nn nr xw.toInt))  : ∀ (m k : Nat) (I2 : pI), k + m = 100 → Rk g xp.toInt xq.toInt nr t k I2 → WP g mX11_two 126 [(0, .ref (ad g P_o)), (1, .int xa), (2, .int xc), (3, .int xp), (4, .int xq), (5, .int xn), (6, .int xr), (7, .int xw), (8, .int (nI t)), (9, .int (nI k))] [] I2 J R (fun r0 _ _ _ => ∃ x : Int32, r0 = some (.int x) ∧ x.toInt = twoR na nc xp.toInt xq.toInt nn nr xw.toInt) := by
  intro m
  induction m with
  | zero =>
    intro k I2 hk hv
    have hkb : k ≤ 100 := by omega
    have ek := nI_toInt (show k < 2 ^ 31 by omega)
    have et := nI_toInt (show t < 2 ^ 31 by omega)
    have e1 : (100 : Int32).toInt = 100 := rfl
    have e2 : (10 : Int32).toInt = 10 := rfl
    have b1 : ((100 : Int32) * nI t).toInt = 100 * (t : Int) := by rw [im (by rw [e1, et]; omega) (by rw [e1, et]; omega), e1, et]
    have b2 : ((100 : Int32) * nI t + nI k).toInt = 100 * (t : Int) + k := by rw [ia (by rw [b1, ek]; omega) (by rw [b1, ek]; omega), b1, ek]
    have b3 : (nI k / 10).toInt = ((k / 10 : Nat) : Int) := by rw [idv (by rw [ek]; omega) (by rw [e2]; omega), ek, e2]; omega
    have b4 : (nI k - nI k / 10 * 10).toInt = ((k % 10 : Nat) : Int) := by rw [ir (by rw [ek]; omega) (by rw [e2]; omega), ek, e2]; omega
    have hkt : (nI k).toInt = (k : Int) := nI_toInt (by omega)
    have c0 : True := trivial
    refine WP_iload dX11_two_126 rfl ?_
    refine WP_bipush (100) dX11_two_128 rfl ?_
    refine WP_icmp_ge 173 dX11_two_130 rfl (fun c130 => ?_) (fun c130 => absurd c130 (by intro cc; (try simp only [hkt, hkt] at cc); (all_goals (try simp only [cmp_lt, cmp_gt] at cc)); (all_goals (try simp only [le32, lt32, eq32, t64, Int32.reduceToInt, Int64.reduceToInt] at cc)); (all_goals (try simp (disch := ((try simp (disch := ((try simp (disch := omega) only [ia, is', im, ja, js, ir, idv, Int32.reduceToInt, Int64.reduceToInt, t64]); omega)) only [ia, is', im, ja, js, ir, idv, Int32.reduceToInt, Int64.reduceToInt, t64]); omega)) only [ia, is', im, ja, js, ir, idv, Int32.reduceToInt, Int64.reduceToInt, t64] at cc)); (all_goals (try simp only [hkt, hkt] at cc)); (all_goals (try simp only [not_true_eq_false, eq_self] at cc)); all_goals omega))
    have e100 : k = 100 := by omega
    subst e100
    exact WP_sub (fc rfl (fc rfl (fc rfl (fc rfl (fc rfl (fc rfl (fc rfl (fc rfl (fc rfl fn))))))))) (hnext I2 (Rk_next hv))
  | succ m ih =>
    intro k I2 hk hv
    have hkb : k ≤ 100 := by omega
    have ek := nI_toInt (show k < 2 ^ 31 by omega)
    have et := nI_toInt (show t < 2 ^ 31 by omega)
    have e1 : (100 : Int32).toInt = 100 := rfl
    have e2 : (10 : Int32).toInt = 10 := rfl
    have b1 : ((100 : Int32) * nI t).toInt = 100 * (t : Int) := by rw [im (by rw [e1, et]; omega) (by rw [e1, et]; omega), e1, et]
    have b2 : ((100 : Int32) * nI t + nI k).toInt = 100 * (t : Int) + k := by rw [ia (by rw [b1, ek]; omega) (by rw [b1, ek]; omega), b1, ek]
    have b3 : (nI k / 10).toInt = ((k / 10 : Nat) : Int) := by rw [idv (by rw [ek]; omega) (by rw [e2]; omega), ek, e2]; omega
    have b4 : (nI k - nI k / 10 * 10).toInt = ((k % 10 : Nat) : Int) := by rw [ir (by rw [ek]; omega) (by rw [e2]; omega), ek, e2]; omega
    have hkt : (nI k).toInt = (k : Int) := nI_toInt (by omega)
    have c0 : True := trivial
    refine WP_iload dX11_two_126 rfl ?_
    refine WP_bipush (100) dX11_two_128 rfl ?_
    refine WP_icmp_ge 173 dX11_two_130 rfl (fun c130 => absurd c130 (by intro cc; (try simp only [hkt, hkt] at cc); (all_goals (try simp only [cmp_lt, cmp_gt] at cc)); (all_goals (try simp only [le32, lt32, eq32, t64, Int32.reduceToInt, Int64.reduceToInt] at cc)); (all_goals (try simp (disch := ((try simp (disch := ((try simp (disch := omega) only [ia, is', im, ja, js, ir, idv, Int32.reduceToInt, Int64.reduceToInt, t64]); omega)) only [ia, is', im, ja, js, ir, idv, Int32.reduceToInt, Int64.reduceToInt, t64]); omega)) only [ia, is', im, ja, js, ir, idv, Int32.reduceToInt, Int64.reduceToInt, t64] at cc)); (all_goals (try simp only [hkt, hkt] at cc)); (all_goals (try simp only [not_true_eq_false, eq_self] at cc)); all_goals omega)) (fun c130 => ?_)
    have hrow := Rw_row (t := t - 1) (I := I2) (show Rw g xp.toInt xq.toInt nr (t - 1 + 1) I2 from fun u a c hu => hv.1 u a c (by omega)) (by omega) hp hqq
    refine WP_aload_n dX11_two_133 rfl ?_
    refine WP_getr dX11_two_134 fX11_307 rfl (ly_is hy _ _ rfl) (rf hr 0 69 45 (by decide)) ?_
    refine WP_bipush (100) dX11_two_137 rfl ?_
    refine WP_iload dX11_two_139 rfl ?_
    refine WP_imul dX11_two_141 ?_
    refine WP_iload dX11_two_142 rfl ?_
    refine WP_iadd dX11_two_144 ?_
    refine WP_aload_n dX11_two_145 rfl ?_
    refine WP_iload dX11_two_146 rfl ?_
    refine WP_iload dX11_two_148 rfl ?_
    refine WP_bipush (10) dX11_two_150 rfl ?_
    refine WP_idiv dX11_two_152 (by decide) ?_
    refine WP_iload dX11_two_153 rfl ?_
    refine WP_bipush (10) dX11_two_155 rfl ?_
    refine WP_irem dX11_two_157 (by decide) ?_
    refine WP_iload_n dX11_two_158 rfl ?_
    refine WP_iload dX11_two_159 rfl ?_
    refine WP_iload dX11_two_161 rfl ?_
    refine WP_callV6 (k := 11) dX11_two_163 ⟨⟨⟨by decide, by decide⟩, zX11_offer⟩, lX11_519, by decide, rfl, vX11_offer.1, vX11_offer.2⟩ (ly_is hy _ _ rfl) (s_offer hy hr (t - 1) (k / 10) (k % 10) nr (VV xp.toInt xq.toInt nr (t - 1)) _ _ _ _ _ _ ⟨by rw [et]; omega, by omega⟩ ⟨b3, by omega⟩ ⟨b4, by omega⟩ hp hqq hq hrow) (Nat.le_of_ble_eq_true rfl) ?_
    rintro r0 I3 J3 R3 ⟨x, rfl, hx, hI3, eJ, eR⟩
    rw [eJ, eR, hI3]
    simp only [Option.toList, List.cons_append, List.nil_append]
    refine WP_iast dX11_two_166 (ly_is hy _ _ rfl) (ly_in hy _ _ rfl (vin (by rw [b2]; omega) (by rw [b2]; omega))) ?_
    refine WP_iinc (ls' := [(0, _), (1, _), (2, _), (3, _), (4, _), (5, _), (6, _), (7, _), (8, _), (9, _)]) dX11_two_167 rfl (by decide) rfl ?_
    refine WP_goto 126 dX11_two_170 rfl ?_
    refine WP_sub (ls' := [(0, .ref (ad g P_o)), (1, .int xa), (2, .int xc), (3, .int xp), (4, .int xq), (5, .int xn), (6, .int xr), (7, .int xw), (8, .int (nI t)), (9, .int (nI (k + 1)))]) (fc rfl (fc rfl (fc rfl (fc rfl (fc rfl (fc rfl (fc rfl (fc rfl (fc rfl (fc (by rw [← nI_1]; rfl) fn)))))))))) (ih (k + 1) _ (by omega) ?_)
    rw [cl (n := 100 * t + k) (by rw [b2]; omega)]
    exact Rk_step hy hv ht.1 hx
set_option maxHeartbeats 4000000 in
set_option maxRecDepth 100000 in
theorem l_two116 {g : GG} {I : pI} {J : pJ} {R : pR} (hy : Ly g) (hr : Rf g R) (na nc nn nr : Nat) (xa xc xp xq xn xr xw : Int32) (ha : xa.toInt = (na : Int) ∧ na ≤ 9) (hc : xc.toInt = (nc : Int) ∧ nc ≤ 9) (hp : 0 ≤ xp.toInt ∧ xp.toInt ≤ 100) (hqq : 0 ≤ xq.toInt ∧ xq.toInt ≤ 100) (hn : xn.toInt = (nn : Int) ∧ nn ≤ 20) (hq : xr.toInt = (nr : Int) ∧ 1 ≤ nr ∧ nr ≤ 20) (hw : xw.toInt = 0 ∨ xw.toInt = 1) : ∀ (m k : Nat) (I2 : pI), k + m = (nn + 1) → (Rw g xp.toInt xq.toInt nr k I2 ∧ 1 ≤ k) → WP g mX11_two 116 [(0, .ref (ad g P_o)), (1, .int xa), (2, .int xc), (3, .int xp), (4, .int xq), (5, .int xn), (6, .int xr), (7, .int xw), (8, .int (nI k))] [] I2 J R (fun r0 _ _ _ => ∃ x : Int32, r0 = some (.int x) ∧ x.toInt = twoR na nc xp.toInt xq.toInt nn nr xw.toInt) := by
  intro m
  induction m with
  | zero =>
    intro k I2 hk hv
    have hkt : (nI k).toInt = (k : Int) := nI_toInt (by omega)
    have c0 : True := trivial
    refine WP_iload dX11_two_116 rfl ?_
    refine WP_iload dX11_two_118 rfl ?_
    refine WP_icmp_gt 179 dX11_two_120 rfl (fun c120 => ?_) (fun c120 => absurd c120 (by intro cc; (try simp only [hkt, hn.1, hkt] at cc); (all_goals (try simp only [cmp_lt, cmp_gt] at cc)); (all_goals (try simp only [le32, lt32, eq32, t64, Int32.reduceToInt, Int64.reduceToInt] at cc)); (all_goals (try simp (disch := ((try simp (disch := ((try simp (disch := omega) only [ia, is', im, ja, js, ir, idv, Int32.reduceToInt, Int64.reduceToInt, t64]); omega)) only [ia, is', im, ja, js, ir, idv, Int32.reduceToInt, Int64.reduceToInt, t64]); omega)) only [ia, is', im, ja, js, ir, idv, Int32.reduceToInt, Int64.reduceToInt, t64] at cc)); (all_goals (try simp only [hkt, hn.1, hkt] at cc)); (all_goals (try simp only [not_true_eq_false, eq_self] at cc)); all_goals omega))
    have e100 : k = nn + 1 := by omega
    subst e100
    exact WP_sub (fc rfl (fc rfl (fc rfl (fc rfl (fc rfl (fc rfl (fc rfl (fc rfl fn)))))))) (l_two179 hy hr na nc nn nr xa xc xp xq xn xr xw ha hc hp hqq hn hq hw hv.1)
  | succ m ih =>
    intro k I2 hk hv
    have hkt : (nI k).toInt = (k : Int) := nI_toInt (by omega)
    have c0 : True := trivial
    refine WP_iload dX11_two_116 rfl ?_
    refine WP_iload dX11_two_118 rfl ?_
    refine WP_icmp_gt 179 dX11_two_120 rfl (fun c120 => absurd c120 (by intro cc; (try simp only [hkt, hn.1, hkt] at cc); (all_goals (try simp only [cmp_lt, cmp_gt] at cc)); (all_goals (try simp only [le32, lt32, eq32, t64, Int32.reduceToInt, Int64.reduceToInt] at cc)); (all_goals (try simp (disch := ((try simp (disch := ((try simp (disch := omega) only [ia, is', im, ja, js, ir, idv, Int32.reduceToInt, Int64.reduceToInt, t64]); omega)) only [ia, is', im, ja, js, ir, idv, Int32.reduceToInt, Int64.reduceToInt, t64]); omega)) only [ia, is', im, ja, js, ir, idv, Int32.reduceToInt, Int64.reduceToInt, t64] at cc)); (all_goals (try simp only [hkt, hn.1, hkt] at cc)); (all_goals (try simp only [not_true_eq_false, eq_self] at cc)); all_goals omega)) (fun c120 => ?_)
    refine WP_iconst (0) dX11_two_123 rfl ?_
    refine WP_istore (ls' := [(0, _), (1, _), (2, _), (3, _), (4, _), (5, _), (6, _), (7, _), (8, _), (9, _)]) dX11_two_124 (by decide) rfl ?_
    refine WP_sub (ls' := [(0, .ref (ad g P_o)), (1, .int xa), (2, .int xc), (3, .int xp), (4, .int xq), (5, .int xn), (6, .int xr), (7, .int xw), (8, .int (nI k)), (9, .int (nI 0))]) (fc rfl (fc rfl (fc rfl (fc rfl (fc rfl (fc rfl (fc rfl (fc rfl (fc rfl (fc rfl fn)))))))))) (l_two126 (I := I2) (J := J) hy hr na nc nn nr xa xc xp xq xn xr xw ha hc hp hqq hn hq hw k (by omega) ?_ 100 0 _ (by omega) ⟨hv.1, fun i hi => absurd hi (by omega)⟩)
    intro I3 hI3
    refine WP_iinc (ls' := [(0, _), (1, _), (2, _), (3, _), (4, _), (5, _), (6, _), (7, _), (8, _)]) dX11_two_173 rfl (by decide) rfl ?_
    refine WP_goto 116 dX11_two_176 rfl ?_
    refine WP_sub (ls' := [(0, .ref (ad g P_o)), (1, .int xa), (2, .int xc), (3, .int xp), (4, .int xq), (5, .int xn), (6, .int xr), (7, .int xw), (8, .int (nI (k + 1)))]) (fc rfl (fc rfl (fc rfl (fc rfl (fc rfl (fc rfl (fc rfl (fc rfl (fc (by rw [← nI_1]; rfl) fn))))))))) (ih (k + 1) _ (by omega) ⟨hI3, by omega⟩)
set_option maxHeartbeats 4000000 in
set_option maxRecDepth 100000 in
theorem l_two92 {g : GG} {I : pI} {J : pJ} {R : pR} (hy : Ly g) (hr : Rf g R) (na nc nn nr : Nat) (xa xc xp xq xn xr xw : Int32) (ha : xa.toInt = (na : Int) ∧ na ≤ 9) (hc : xc.toInt = (nc : Int) ∧ nc ≤ 9) (hp : 0 ≤ xp.toInt ∧ xp.toInt ≤ 100) (hqq : 0 ≤ xq.toInt ∧ xq.toInt ≤ 100) (hn : xn.toInt = (nn : Int) ∧ nn ≤ 20) (hq : xr.toInt = (nr : Int) ∧ 1 ≤ nr ∧ nr ≤ 20) (hw : xw.toInt = 0 ∨ xw.toInt = 1) : ∀ (m k : Nat) (I2 : pI), k + m = 100 → (∀ i, i < k → I2 (ad g P_o_follows) i = 0) → WP g mX11_two 92 [(0, .ref (ad g P_o)), (1, .int xa), (2, .int xc), (3, .int xp), (4, .int xq), (5, .int xn), (6, .int xr), (7, .int xw), (8, .int (nI k))] [] I2 J R (fun r0 _ _ _ => ∃ x : Int32, r0 = some (.int x) ∧ x.toInt = twoR na nc xp.toInt xq.toInt nn nr xw.toInt) := by
  intro m
  induction m with
  | zero =>
    intro k I2 hk hv
    have hkt : (nI k).toInt = (k : Int) := nI_toInt (by omega)
    have c0 : True := trivial
    refine WP_iload dX11_two_92 rfl ?_
    refine WP_bipush (100) dX11_two_94 rfl ?_
    refine WP_icmp_ge 113 dX11_two_96 rfl (fun c96 => ?_) (fun c96 => absurd c96 (by intro cc; (try simp only [hkt, hkt] at cc); (all_goals (try simp only [cmp_lt, cmp_gt] at cc)); (all_goals (try simp only [le32, lt32, eq32, t64, Int32.reduceToInt, Int64.reduceToInt] at cc)); (all_goals (try simp (disch := ((try simp (disch := ((try simp (disch := omega) only [ia, is', im, ja, js, ir, idv, Int32.reduceToInt, Int64.reduceToInt, t64]); omega)) only [ia, is', im, ja, js, ir, idv, Int32.reduceToInt, Int64.reduceToInt, t64]); omega)) only [ia, is', im, ja, js, ir, idv, Int32.reduceToInt, Int64.reduceToInt, t64] at cc)); (all_goals (try simp only [hkt, hkt] at cc)); (all_goals (try simp only [not_true_eq_false, eq_self] at cc)); all_goals omega))
    refine WP_iconst (1) dX11_two_113 rfl ?_
    refine WP_istore (ls' := [(0, _), (1, _), (2, _), (3, _), (4, _), (5, _), (6, _), (7, _), (8, _)]) dX11_two_114 (by decide) rfl ?_
    refine WP_sub (ls' := [(0, .ref (ad g P_o)), (1, .int xa), (2, .int xc), (3, .int xp), (4, .int xq), (5, .int xn), (6, .int xr), (7, .int xw), (8, .int (nI 1))]) (fc rfl (fc rfl (fc rfl (fc rfl (fc rfl (fc rfl (fc rfl (fc rfl (fc rfl fn))))))))) (l_two116 (I := I) (J := J) hy hr na nc nn nr xa xc xp xq xn xr xw ha hc hp hqq hn hq hw nn 1 _ (by omega) ⟨?_, by omega⟩)
    intro u a c hu h1 h2
    have eu : u = 0 := by omega
    subst eu
    rw [hv _ (by omega)]
    rfl
  | succ m ih =>
    intro k I2 hk hv
    have hkt : (nI k).toInt = (k : Int) := nI_toInt (by omega)
    have c0 : True := trivial
    refine WP_iload dX11_two_92 rfl ?_
    refine WP_bipush (100) dX11_two_94 rfl ?_
    refine WP_icmp_ge 113 dX11_two_96 rfl (fun c96 => absurd c96 (by intro cc; (try simp only [hkt, hkt] at cc); (all_goals (try simp only [cmp_lt, cmp_gt] at cc)); (all_goals (try simp only [le32, lt32, eq32, t64, Int32.reduceToInt, Int64.reduceToInt] at cc)); (all_goals (try simp (disch := ((try simp (disch := ((try simp (disch := omega) only [ia, is', im, ja, js, ir, idv, Int32.reduceToInt, Int64.reduceToInt, t64]); omega)) only [ia, is', im, ja, js, ir, idv, Int32.reduceToInt, Int64.reduceToInt, t64]); omega)) only [ia, is', im, ja, js, ir, idv, Int32.reduceToInt, Int64.reduceToInt, t64] at cc)); (all_goals (try simp only [hkt, hkt] at cc)); (all_goals (try simp only [not_true_eq_false, eq_self] at cc)); all_goals omega)) (fun c96 => ?_)
    refine WP_aload_n dX11_two_99 rfl ?_
    refine WP_getr dX11_two_100 fX11_307 rfl (ly_is hy _ _ rfl) (rf hr 0 69 45 (by decide)) ?_
    refine WP_iload dX11_two_103 rfl ?_
    refine WP_iconst (0) dX11_two_105 rfl ?_
    refine WP_iast dX11_two_106 (ly_is hy _ _ rfl) (ly_in hy _ _ rfl (by (try simp only [hkt, hkt] at c0 c96 ⊢); (all_goals (try simp only [cmp_lt, cmp_gt] at c0 c96 ⊢)); (all_goals (try simp only [le32, lt32, eq32, t64, vp_in_iff, Int32.reduceToInt, Int64.reduceToInt] at c0 c96 ⊢)); (all_goals (try simp (disch := ((try simp (disch := ((try simp (disch := omega) only [ia, is', im, ja, js, ir, idv, Int32.reduceToInt, Int64.reduceToInt, t64]); omega)) only [ia, is', im, ja, js, ir, idv, Int32.reduceToInt, Int64.reduceToInt, t64]); omega)) only [ia, is', im, ja, js, ir, idv, Int32.reduceToInt, Int64.reduceToInt, t64] at c0 c96 ⊢)); (all_goals (try simp only [hkt, hkt] at c0 c96 ⊢)); all_goals (first | (constructor <;> omega) | (exfalso; omega)))) ?_
    refine WP_iinc (ls' := [(0, _), (1, _), (2, _), (3, _), (4, _), (5, _), (6, _), (7, _), (8, _)]) dX11_two_107 rfl (by decide) rfl ?_
    refine WP_goto 92 dX11_two_110 rfl ?_
    refine WP_sub (ls' := [(0, .ref (ad g P_o)), (1, .int xa), (2, .int xc), (3, .int xp), (4, .int xq), (5, .int xn), (6, .int xr), (7, .int xw), (8, .int (nI (k + 1)))]) (fc rfl (fc rfl (fc rfl (fc rfl (fc rfl (fc rfl (fc rfl (fc rfl (fc (by rw [← nI_1]; rfl) fn))))))))) (ih (k + 1) _ (by omega) ?_)
    intro i hi
    rw [cl hkt]
    by_cases e : i = k
    · subst e; rw [pp_self]
    · rw [pp_ne _ _ (Or.inr e)]; exact hv i (by omega)
def twoA (xa xc xp xq xn xr xw : Int32) : Int := if ((0 ≤ xa.toInt ∧ xa.toInt ≤ 9) ∧ (0 ≤ xc.toInt ∧ xc.toInt ≤ 9) ∧ (0 ≤ xp.toInt ∧ xp.toInt ≤ 100) ∧ (0 ≤ xq.toInt ∧ xq.toInt ≤ 100) ∧ (0 ≤ xn.toInt ∧ xn.toInt ≤ 20) ∧ (1 ≤ xr.toInt ∧ xr.toInt ≤ 20) ∧ (0 ≤ xw.toInt ∧ xw.toInt ≤ 1)) then twoR xa.toInt.toNat xc.toInt.toNat xp.toInt xq.toInt xn.toInt.toNat xr.toInt.toNat xw.toInt else -2
def iq (z : Int) : Post := fun r0 _ _ _ => ∃ x : Int32, r0 = some (.int x) ∧ x.toInt = z
set_option maxHeartbeats 4000000 in
set_option maxRecDepth 100000 in
theorem fr_two {g : GG} {I : pI} {J : pJ} {R : pR} (hy : Ly g) (hr : Rf g R) (hf : MF g I J) (xa xc xp xq xn xr xw : Int32) : SP g mX11_two [.ref (ad g P_o), .int xa, .int xc, .int xp, .int xq, .int xn, .int xr, .int xw] I J R (iq (twoA xa xc xp xq xn xr xw)) := by
  refine SP_of ⟨by decide, rfl⟩ (Nat.le_of_ble_eq_true rfl) ?_
  have c0 : True := trivial
  obtain ⟨hmc, h_taped, h_fault, h_faultAt, h_clauses, h_turnsTold, h_held, h_now, h_kept⟩ := hf
  have hmc0 := hmc
  obtain ⟨h_sorts, h_things, h_chestSort, h_storedThing, h_rot⟩ := hmc
  refine WP_iload_n dX11_two_0 rfl ?_
  refine WP_i2l dX11_two_1 ?_
  refine WP_lconst (0) dX11_two_2 rfl ?_
  refine WP_ldc2 (9) dX11_two_3 klX11_515 ?_
  refine WP_callS3p dX11_two_6 ⟨⟨⟨by decide, by decide⟩, zX11_in⟩, lX11_52, tX11_in⟩ (s_in _ _ _) (Nat.le_of_ble_eq_true rfl) ?_
  refine WP_ifb_eq 86 dX11_two_9 rfl (fun c9 => ?_) (fun c9 => ?_)
  · refine WP_bipush (-2) dX11_two_86 rfl ?_
    exact WP_iret dX11_two_88 rfl ⟨_, rfl, (by simp only [t64, Int64.reduceToInt] at c0 c9; unfold twoA; rw [if_neg (by omega)]; rfl)⟩
  · refine WP_iload_n dX11_two_12 rfl ?_
    refine WP_i2l dX11_two_13 ?_
    refine WP_lconst (0) dX11_two_14 rfl ?_
    refine WP_ldc2 (9) dX11_two_15 klX11_515 ?_
    refine WP_callS3p dX11_two_18 ⟨⟨⟨by decide, by decide⟩, zX11_in⟩, lX11_52, tX11_in⟩ (s_in _ _ _) (Nat.le_of_ble_eq_true rfl) ?_
    refine WP_ifb_eq 86 dX11_two_21 rfl (fun c21 => ?_) (fun c21 => ?_)
    · refine WP_bipush (-2) dX11_two_86 rfl ?_
      exact WP_iret dX11_two_88 rfl ⟨_, rfl, (by simp only [t64, Int64.reduceToInt] at c0 c9 c21; unfold twoA; rw [if_neg (by omega)]; rfl)⟩
    · refine WP_iload_n dX11_two_24 rfl ?_
      refine WP_i2l dX11_two_25 ?_
      refine WP_lconst (0) dX11_two_26 rfl ?_
      refine WP_ldc2 (100) dX11_two_27 klX11_517 ?_
      refine WP_callS3p dX11_two_30 ⟨⟨⟨by decide, by decide⟩, zX11_in⟩, lX11_52, tX11_in⟩ (s_in _ _ _) (Nat.le_of_ble_eq_true rfl) ?_
      refine WP_ifb_eq 86 dX11_two_33 rfl (fun c33 => ?_) (fun c33 => ?_)
      · refine WP_bipush (-2) dX11_two_86 rfl ?_
        exact WP_iret dX11_two_88 rfl ⟨_, rfl, (by simp only [t64, Int64.reduceToInt] at c0 c9 c21 c33; unfold twoA; rw [if_neg (by omega)]; rfl)⟩
      · refine WP_iload dX11_two_36 rfl ?_
        refine WP_i2l dX11_two_38 ?_
        refine WP_lconst (0) dX11_two_39 rfl ?_
        refine WP_ldc2 (100) dX11_two_40 klX11_517 ?_
        refine WP_callS3p dX11_two_43 ⟨⟨⟨by decide, by decide⟩, zX11_in⟩, lX11_52, tX11_in⟩ (s_in _ _ _) (Nat.le_of_ble_eq_true rfl) ?_
        refine WP_ifb_eq 86 dX11_two_46 rfl (fun c46 => ?_) (fun c46 => ?_)
        · refine WP_bipush (-2) dX11_two_86 rfl ?_
          exact WP_iret dX11_two_88 rfl ⟨_, rfl, (by simp only [t64, Int64.reduceToInt] at c0 c9 c21 c33 c46; unfold twoA; rw [if_neg (by omega)]; rfl)⟩
        · refine WP_iload dX11_two_49 rfl ?_
          refine WP_i2l dX11_two_51 ?_
          refine WP_lconst (0) dX11_two_52 rfl ?_
          refine WP_ldc2 (20) dX11_two_53 klX11_357 ?_
          refine WP_callS3p dX11_two_56 ⟨⟨⟨by decide, by decide⟩, zX11_in⟩, lX11_52, tX11_in⟩ (s_in _ _ _) (Nat.le_of_ble_eq_true rfl) ?_
          refine WP_ifb_eq 86 dX11_two_59 rfl (fun c59 => ?_) (fun c59 => ?_)
          · refine WP_bipush (-2) dX11_two_86 rfl ?_
            exact WP_iret dX11_two_88 rfl ⟨_, rfl, (by simp only [t64, Int64.reduceToInt] at c0 c9 c21 c33 c46 c59; unfold twoA; rw [if_neg (by omega)]; rfl)⟩
          · refine WP_iload dX11_two_62 rfl ?_
            refine WP_i2l dX11_two_64 ?_
            refine WP_lconst (1) dX11_two_65 rfl ?_
            refine WP_ldc2 (20) dX11_two_66 klX11_357 ?_
            refine WP_callS3p dX11_two_69 ⟨⟨⟨by decide, by decide⟩, zX11_in⟩, lX11_52, tX11_in⟩ (s_in _ _ _) (Nat.le_of_ble_eq_true rfl) ?_
            refine WP_ifb_eq 86 dX11_two_72 rfl (fun c72 => ?_) (fun c72 => ?_)
            · refine WP_bipush (-2) dX11_two_86 rfl ?_
              exact WP_iret dX11_two_88 rfl ⟨_, rfl, (by simp only [t64, Int64.reduceToInt] at c0 c9 c21 c33 c46 c59 c72; unfold twoA; rw [if_neg (by omega)]; rfl)⟩
            · refine WP_iload dX11_two_75 rfl ?_
              refine WP_i2l dX11_two_77 ?_
              refine WP_lconst (0) dX11_two_78 rfl ?_
              refine WP_lconst (1) dX11_two_79 rfl ?_
              refine WP_callS3p dX11_two_80 ⟨⟨⟨by decide, by decide⟩, zX11_in⟩, lX11_52, tX11_in⟩ (s_in _ _ _) (Nat.le_of_ble_eq_true rfl) ?_
              refine WP_ifb_ne 89 dX11_two_83 rfl (fun c83 => ?_) (fun c83 => ?_)
              · refine WP_iconst (0) dX11_two_89 rfl ?_
                refine WP_istore (ls' := [(0, _), (1, _), (2, _), (3, _), (4, _), (5, _), (6, _), (7, _), (8, _)]) dX11_two_90 (by decide) rfl ?_
                simp only [t64, Int64.reduceToInt] at c0 c9 c21 c33 c46 c59 c72 c83
                unfold twoA
                rw [if_pos (by omega)]
                refine WP_sub (ls' := [(0, .ref (ad g P_o)), (1, .int xa), (2, .int xc), (3, .int xp), (4, .int xq), (5, .int xn), (6, .int xr), (7, .int xw), (8, .int (nI 0))]) (fc rfl (fc rfl (fc rfl (fc rfl (fc rfl (fc rfl (fc rfl (fc rfl (fc rfl fn))))))))) (l_two92 (I := I) (J := J) hy hr xa.toInt.toNat xc.toInt.toNat xn.toInt.toNat xr.toInt.toNat xa xc xp xq xn xr xw (by omega) (by omega) (by omega) (by omega) (by omega) (by omega) (by omega) 100 0 _ (by omega) (fun i hi => absurd hi (by omega)))
              · refine WP_bipush (-2) dX11_two_86 rfl ?_
                exact WP_iret dX11_two_88 rfl ⟨_, rfl, (by simp only [t64, Int64.reduceToInt] at c0 c9 c21 c33 c46 c59 c72 c83; unfold twoA; rw [if_neg (by omega)]; rfl)⟩
