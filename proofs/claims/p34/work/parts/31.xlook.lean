def Nx (g : GG) (p q : Int) (r A C t j : Nat) (I : pI) : Prop := ∀ a c, a ≤ A → c ≤ C → (I (ad g P_moneys_follows) (10 * a + c)).toInt = if j ≤ a then VV p q r t a c else VV p q r (t - 1) a c
def Mx (g : GG) (p q : Int) (r A C t a0 j : Nat) (I : pI) : Prop := ∀ a c, a ≤ A → c ≤ C → (I (ad g P_moneys_follows) (10 * a + c)).toInt = if a0 < a ∨ (a = a0 ∧ j ≤ c) then VV p q r t a c else VV p q r (t - 1) a c
theorem Mx_start {g : GG} {p q : Int} {r A C t m : Nat} {I : pI} (h : Nx g p q r A C t (m + 1) I) : Mx g p q r A C t m (C + 1) I := by
  intro a c ha hc
  rw [h a c ha hc]
  by_cases e : m + 1 ≤ a
  · rw [if_pos e, if_pos (Or.inl (by omega))]
  · rw [if_neg e, if_neg (by omega)]
theorem Mx_end {g : GG} {p q : Int} {r A C t m : Nat} {I : pI} (h : Mx g p q r A C t m 0 I) : Nx g p q r A C t m I := by
  intro a c ha hc
  rw [h a c ha hc]
  by_cases e : m ≤ a
  · rw [if_pos e, if_pos (by omega)]
  · rw [if_neg e, if_neg (by omega)]
theorem Mx_step {g : GG} {p q : Int} {r A C t a0 j : Nat} {I : pI} {x : Int32} (h : Mx g p q r A C t a0 (j + 1) I) (hC : C ≤ 9) (ht : 1 ≤ t) (hj : j ≤ C) (hx : x.toInt = mostV p q r (t : Int) (VV p q r (t - 1)) a0 j) : Mx g p q r A C t a0 j (pp I (ad g P_moneys_follows) (10 * a0 + j) x) := by
  intro a c ha hc
  by_cases e : a = a0 ∧ c = j
  · obtain ⟨rfl, rfl⟩ := e
    rw [pp_self, hx, if_pos (Or.inr ⟨rfl, Nat.le_refl _⟩)]
    obtain ⟨s, rfl⟩ : ∃ s, t = s + 1 := ⟨t - 1, by omega⟩
    show mostV p q r (((s + 1 : Nat)) : Int) (VV p q r s) a c = mostV p q r ((s : Int) + 1) (VV p q r s) a c
    congr 1
  · rw [pp_ne _ _ (Or.inr (by omega)), h a c ha hc]
    by_cases e2 : a0 < a ∨ (a = a0 ∧ j + 1 ≤ c)
    · rw [if_pos e2, if_pos (by omega)]
    · rw [if_neg e2, if_neg (by omega)]
def Kc (g : GG) (xp xq : Int32) (r t : Nat) (I : pI) : Prop := I (ad g P_moneys) 0 = xp ∧ I (ad g P_moneys) 1 = xq ∧ I (ad g P_moneys) 2 = if (t : Int) % (r : Int) = 0 then 1 else 0
theorem Kc_pp {g : GG} (hy : LyX g) {xp xq x : Int32} {r t q : Nat} {I : pI} (h : Kc g xp xq r t I) : Kc g xp xq r t (pp I (ad g P_moneys_follows) q x) := by
  unfold Kc
  rw [pp_off _ _ (lyx_ne hy (show P_moneys ≠ P_moneys_follows by decide) (by decide) (by decide))]
  exact h
set_option maxHeartbeats 4000000 in
set_option maxRecDepth 100000 in
theorem lx_coins {g : GG} {I : pI} {J : pJ} {R : pR} (hy : LyX g) (hr : RfX g R) {Q : Post} (A C nn r : Nat) (xa xc xn xr xp xq : Int32) (hA : xa.toInt = (A : Int) ∧ A ≤ 9) (hC : xc.toInt = (C : Int) ∧ C ≤ 9) (hn : xn.toInt = (nn : Int) ∧ 1 ≤ nn ∧ nn ≤ 20) (hq : xr.toInt = (r : Int) ∧ 1 ≤ r ∧ r ≤ 20) (hp : 0 ≤ xp.toInt ∧ xp.toInt ≤ 100) (hqq : 0 ≤ xq.toInt ∧ xq.toInt ≤ 100) (t : Nat) (ht : 1 ≤ t ∧ t ≤ 20) (a0 : Nat) (xo : Int32) (ho : xo.toInt = (a0 : Int) ∧ a0 ≤ A) (hnext : ∀ I3, Mx g xp.toInt xq.toInt r A C t a0 0 I3 → Kc g xp xq r t I3 → WP g mX8_lookBack 90 [(0, .ref (ad g P_moneys)), (1, .int xa), (2, .int xc), (3, .int xn), (4, .int xr), (5, .int (nI t)), (6, .int xo)] [] I3 J R Q)  : ∀ (m k : Nat) (I2 : pI), k + m = (C + 1) → (Mx g xp.toInt xq.toInt r A C t a0 m I2 ∧ Kc g xp xq r t I2) → WP g mX8_lookBack 39 [(0, .ref (ad g P_moneys)), (1, .int xa), (2, .int xc), (3, .int xn), (4, .int xr), (5, .int (nI t)), (6, .int xo), (7, .int (nI m - 1))] [] I2 J R Q := by
  intro m
  induction m with
  | zero =>
    intro k I2 hk hv
    have hkt : (nI k).toInt = (k : Int) := nI_toInt (by omega)
    have c0 : True := trivial
    refine WP_iload dX8_lookBack_39 rfl ?_
    refine WP_if_lt 90 dX8_lookBack_41 rfl (fun c41 => ?_) (fun c41 => absurd c41 (fun cc => cc (by decide)))
    exact WP_sub (fc rfl (fc rfl (fc rfl (fc rfl (fc rfl (fc rfl (fc rfl fn))))))) (hnext I2 hv.1 hv.2)
  | succ m ih =>
    intro k I2 hk hv
    have em := nI_toInt (show m < 2 ^ 31 by omega)
    have em1 : (nI (m + 1) - 1).toInt = (m : Int) := by rw [nI_pred]; exact em
    have hrow : ∀ a2 c2, a2 ≤ a0 → c2 ≤ m → (I2 (ad g P_moneys_follows) (10 * a2 + c2)).toInt = VV xp.toInt xq.toInt r (t - 1) a2 c2 ∧ 0 ≤ VV xp.toInt xq.toInt r (t - 1) a2 c2 ∧ VV xp.toInt xq.toInt r (t - 1) a2 c2 ≤ 20000 := by
      intro a2 c2 h1 h2
      have b := VV_b (r := r) hp hqq (t - 1) a2 c2
      refine ⟨?_, b.1, by omega⟩
      rw [hv.1 a2 c2 (by omega) (by omega), if_neg (by omega)]
    have e10 : (10 : Int32).toInt = 10 := rfl
    have b1 : (xo * 10).toInt = (a0 : Int) * 10 := by rw [im (by rw [e10, ho.1]; omega) (by rw [e10, ho.1]; omega), e10, ho.1]
    have b2 : (xo * 10 + (nI (m + 1) - 1)).toInt = (a0 : Int) * 10 + m := by rw [ia (by rw [b1, em1]; omega) (by rw [b1, em1]; omega), b1, em1]
    have hkt : (nI k).toInt = (k : Int) := nI_toInt (by omega)
    have c0 : True := trivial
    refine WP_iload dX8_lookBack_39 rfl ?_
    refine WP_if_lt 90 dX8_lookBack_41 rfl (fun c41 => absurd c41 (by rw [nI_pred]; exact nI_pos (by omega))) (fun c41 => ?_)
    refine WP_aload_n dX8_lookBack_44 rfl ?_
    refine WP_iload dX8_lookBack_45 rfl ?_
    refine WP_iload dX8_lookBack_47 rfl ?_
    refine WP_callV2 (k := 8) dX8_lookBack_49 ⟨⟨⟨by decide, by decide⟩, zX8_offeringNote⟩, lX8_35, by decide, rfl, vX8_offeringNote.1, vX8_offeringNote.2⟩ (lyx_is hy _ _ rfl) (x_offNote hy hr r (t : Int) a0 m _ _ ⟨ho.1, by omega⟩ ⟨em1, by omega⟩ hv.2.2.2 (VV xp.toInt xq.toInt r (t - 1)) hrow (by rw [hv.2.1]; exact hp)) (Nat.le_of_ble_eq_true rfl) ?_
    rintro r0 I3 J3 R3 ⟨xoffNote, rfl, hoffNote, eI, eJ, eR⟩
    rw [eI, eJ, eR]
    simp only [Option.toList, List.cons_append, List.nil_append]
    refine WP_aload_n dX8_lookBack_52 rfl ?_
    refine WP_iload dX8_lookBack_53 rfl ?_
    refine WP_iload dX8_lookBack_55 rfl ?_
    refine WP_callV2 (k := 8) dX8_lookBack_57 ⟨⟨⟨by decide, by decide⟩, zX8_offeringOther⟩, lX8_38, by decide, rfl, vX8_offeringOther.1, vX8_offeringOther.2⟩ (lyx_is hy _ _ rfl) (x_offOther hy hr r (t : Int) a0 m _ _ ⟨ho.1, by omega⟩ ⟨em1, by omega⟩ hv.2.2.2 (VV xp.toInt xq.toInt r (t - 1)) hrow (by rw [hv.2.2.1]; exact hqq)) (Nat.le_of_ble_eq_true rfl) ?_
    rintro r0 I3 J3 R3 ⟨xoffOther, rfl, hoffOther, eI, eJ, eR⟩
    rw [eI, eJ, eR]
    simp only [Option.toList, List.cons_append, List.nil_append]
    refine WP_max dX8_lookBack_60 lX8_41 ⟨by decide, Nat.le_of_ble_eq_true rfl⟩ ?_
    refine WP_istore (ls' := [(0, _), (1, _), (2, _), (3, _), (4, _), (5, _), (6, _), (7, _), (8, _)]) dX8_lookBack_63 (by decide) rfl ?_
    refine WP_aload_n dX8_lookBack_65 rfl ?_
    refine WP_getr dX8_lookBack_66 fX8_9 rfl (lyx_is hy _ _ rfl) (rfx hr 69 3 70 (by decide)) ?_
    refine WP_iload dX8_lookBack_69 rfl ?_
    refine WP_bipush (10) dX8_lookBack_71 rfl ?_
    refine WP_imul dX8_lookBack_73 ?_
    refine WP_iload dX8_lookBack_74 rfl ?_
    refine WP_iadd dX8_lookBack_76 ?_
    refine WP_iconst (0) dX8_lookBack_77 rfl ?_
    refine WP_iload dX8_lookBack_78 rfl ?_
    refine WP_max dX8_lookBack_80 lX8_41 ⟨by decide, Nat.le_of_ble_eq_true rfl⟩ ?_
    refine WP_iast dX8_lookBack_83 (lyx_is hy _ _ rfl) (lyx_in hy _ _ rfl (vin (by rw [b2]; omega) (by rw [b2]; omega))) ?_
    refine WP_iinc (ls' := [(0, _), (1, _), (2, _), (3, _), (4, _), (5, _), (6, _), (7, _), (8, _)]) dX8_lookBack_84 rfl (by decide) rfl ?_
    refine WP_goto 39 dX8_lookBack_87 rfl ?_
    refine WP_sub (ls' := [(0, .ref (ad g P_moneys)), (1, .int xa), (2, .int xc), (3, .int xn), (4, .int xr), (5, .int (nI t)), (6, .int xo), (7, _)]) (fc rfl (fc rfl (fc rfl (fc rfl (fc rfl (fc rfl (fc rfl (fc (congrArg (fun z => some (Value.int z)) (m1s m)) fn)))))))) (ih (k + 1) _ (by omega) ?_)
    rw [cl (n := 10 * a0 + m) (by rw [b2]; omega)]
    refine ⟨Mx_step hv.1 hC.2 ht.1 (by omega) ?_, Kc_pp hy hv.2⟩
    rw [hv.2.1] at hoffNote
    rw [hv.2.2.1] at hoffOther
    unfold mostV
    rw [← hoffNote, ← hoffOther]
    have e0 : (0 : Int32).toInt = 0 := rfl
    (repeat' split) <;> simp only [lt32, e0] at * <;> omega
set_option maxHeartbeats 4000000 in
set_option maxRecDepth 100000 in
theorem lx_notes {g : GG} {I : pI} {J : pJ} {R : pR} (hy : LyX g) (hr : RfX g R) {Q : Post} (A C nn r : Nat) (xa xc xn xr xp xq : Int32) (hA : xa.toInt = (A : Int) ∧ A ≤ 9) (hC : xc.toInt = (C : Int) ∧ C ≤ 9) (hn : xn.toInt = (nn : Int) ∧ 1 ≤ nn ∧ nn ≤ 20) (hq : xr.toInt = (r : Int) ∧ 1 ≤ r ∧ r ≤ 20) (hp : 0 ≤ xp.toInt ∧ xp.toInt ≤ 100) (hqq : 0 ≤ xq.toInt ∧ xq.toInt ≤ 100) (t : Nat) (ht : 1 ≤ t ∧ t ≤ 20) (hnext : ∀ I3, Nx g xp.toInt xq.toInt r A C t 0 I3 → Kc g xp xq r t I3 → WP g mX8_lookBack 96 [(0, .ref (ad g P_moneys)), (1, .int xa), (2, .int xc), (3, .int xn), (4, .int xr), (5, .int (nI t))] [] I3 J R Q)  : ∀ (m k : Nat) (I2 : pI), k + m = (A + 1) → (Nx g xp.toInt xq.toInt r A C t m I2 ∧ Kc g xp xq r t I2) → WP g mX8_lookBack 31 [(0, .ref (ad g P_moneys)), (1, .int xa), (2, .int xc), (3, .int xn), (4, .int xr), (5, .int (nI t)), (6, .int (nI m - 1))] [] I2 J R Q := by
  intro m
  induction m with
  | zero =>
    intro k I2 hk hv
    have hkt : (nI k).toInt = (k : Int) := nI_toInt (by omega)
    have c0 : True := trivial
    refine WP_iload dX8_lookBack_31 rfl ?_
    refine WP_if_lt 96 dX8_lookBack_33 rfl (fun c33 => ?_) (fun c33 => absurd c33 (fun cc => cc (by decide)))
    exact WP_sub (fc rfl (fc rfl (fc rfl (fc rfl (fc rfl (fc rfl fn)))))) (hnext I2 hv.1 hv.2)
  | succ m ih =>
    intro k I2 hk hv
    have hkt : (nI k).toInt = (k : Int) := nI_toInt (by omega)
    have c0 : True := trivial
    refine WP_iload dX8_lookBack_31 rfl ?_
    refine WP_if_lt 96 dX8_lookBack_33 rfl (fun c33 => absurd c33 (by rw [nI_pred]; exact nI_pos (by omega))) (fun c33 => ?_)
    refine WP_iload_n dX8_lookBack_36 rfl ?_
    refine WP_istore (ls' := [(0, _), (1, _), (2, _), (3, _), (4, _), (5, _), (6, _), (7, _)]) dX8_lookBack_37 (by decide) rfl ?_
    have em1 : (nI (m + 1) - 1).toInt = (m : Int) := by rw [nI_pred]; exact nI_toInt (by omega)
    have eC : xc = nI (C + 1) - 1 := (eq32 _ _).mpr (by rw [nI_pred, nI_toInt (by omega)]; exact hC.1)
    refine WP_sub (ls' := [(0, .ref (ad g P_moneys)), (1, .int xa), (2, .int xc), (3, .int xn), (4, .int xr), (5, .int (nI t)), (6, .int (nI (m + 1) - 1)), (7, .int (nI (C + 1) - 1))]) (fc rfl (fc rfl (fc rfl (fc rfl (fc rfl (fc rfl (fc rfl (fc (congrArg (fun z => some (Value.int z)) eC) fn)))))))) (lx_coins (I := I) (J := J) hy hr A C nn r xa xc xn xr xp xq hA hC hn hq hp hqq t ht m _ ⟨em1, by omega⟩ ?_ (C + 1) 0 _ (by omega) ⟨Mx_start hv.1, hv.2⟩)
    intro I3 hI3 hK3
    refine WP_iinc (ls' := [(0, _), (1, _), (2, _), (3, _), (4, _), (5, _), (6, _)]) dX8_lookBack_90 rfl (by decide) rfl ?_
    refine WP_goto 31 dX8_lookBack_93 rfl ?_
    exact WP_sub (ls' := [(0, .ref (ad g P_moneys)), (1, .int xa), (2, .int xc), (3, .int xn), (4, .int xr), (5, .int (nI t)), (6, .int (nI m - 1))]) (fc rfl (fc rfl (fc rfl (fc rfl (fc rfl (fc rfl (fc (congrArg (fun z => some (Value.int z)) (m1s m)) fn))))))) (ih (k + 1) _ (by omega) ⟨Mx_end hI3, hK3⟩)
set_option maxHeartbeats 4000000 in
set_option maxRecDepth 100000 in
theorem lx_days {g : GG} {I : pI} {J : pJ} {R : pR} (hy : LyX g) (hr : RfX g R) (A C nn r : Nat) (xa xc xn xr xp xq : Int32) (hA : xa.toInt = (A : Int) ∧ A ≤ 9) (hC : xc.toInt = (C : Int) ∧ C ≤ 9) (hn : xn.toInt = (nn : Int) ∧ 1 ≤ nn ∧ nn ≤ 20) (hq : xr.toInt = (r : Int) ∧ 1 ≤ r ∧ r ≤ 20) (hp : 0 ≤ xp.toInt ∧ xp.toInt ≤ 100) (hqq : 0 ≤ xq.toInt ∧ xq.toInt ≤ 100)  : ∀ (m k : Nat) (I2 : pI), k + m = nn → ((∀ a c, a ≤ A → c ≤ C → (I2 (ad g P_moneys_follows) (10 * a + c)).toInt = VV xp.toInt xq.toInt r (k - 1) a c) ∧ I2 (ad g P_moneys) 0 = xp ∧ I2 (ad g P_moneys) 1 = xq ∧ 1 ≤ k) → WP g mX8_lookBack 11 [(0, .ref (ad g P_moneys)), (1, .int xa), (2, .int xc), (3, .int xn), (4, .int xr), (5, .int (nI k))] [] I2 J R (fun r0 I' J' R' => r0 = none ∧ (∀ a c, a ≤ A → c ≤ C → (I' (ad g P_moneys_follows) (10 * a + c)).toInt = VV xp.toInt xq.toInt r (nn - 1) a c) ∧ Kc g xp xq r nn I' ∧ J' = J ∧ R' = R) := by
  intro m
  induction m with
  | zero =>
    intro k I2 hk hv
    have hkt : (nI k).toInt = (k : Int) := nI_toInt (by omega)
    have c0 : True := trivial
    refine WP_iload dX8_lookBack_11 rfl ?_
    refine WP_iload_n dX8_lookBack_13 rfl ?_
    refine WP_icmp_ge 102 dX8_lookBack_14 rfl (fun c14 => ?_) (fun c14 => absurd c14 (by intro cc; (try simp only [hkt, hn.1, hkt] at cc); (all_goals (try simp only [cmp_lt, cmp_gt] at cc)); (all_goals (try simp only [le32, lt32, eq32, t64, Int32.reduceToInt, Int64.reduceToInt] at cc)); (all_goals (try simp (disch := ((try simp (disch := ((try simp (disch := omega) only [ia, is', im, ja, js, ir, idv, Int32.reduceToInt, Int64.reduceToInt, t64]); omega)) only [ia, is', im, ja, js, ir, idv, Int32.reduceToInt, Int64.reduceToInt, t64]); omega)) only [ia, is', im, ja, js, ir, idv, Int32.reduceToInt, Int64.reduceToInt, t64] at cc)); (all_goals (try simp only [hkt, hn.1, hkt] at cc)); (all_goals (try simp only [not_true_eq_false, eq_self] at cc)); all_goals omega))
    refine WP_aload_n dX8_lookBack_102 rfl ?_
    refine WP_iload_n dX8_lookBack_103 rfl ?_
    refine WP_iload dX8_lookBack_104 rfl ?_
    refine WP_callS2p dX8_lookBack_106 ⟨⟨⟨by decide, by decide⟩, zX8_losesOn⟩, lX8_31, tX8_losesOn⟩ (x_losesOn hy hr nn r _ _ hn.1 ⟨hq.1, hq.2.1⟩) (Nat.le_of_ble_eq_true rfl) ?_
    refine WP_puti dX8_lookBack_109 fX8_15 rfl rfl (lyx_is hy _ _ rfl) ?_
    exact WP_vret dX8_lookBack_112 rfl ⟨rfl, (fun a c ha hc => by have e : k = nn := (by omega); rw [pp_off _ _ (lyx_ne hy (show P_moneys_follows ≠ P_moneys by decide) (by decide) (by decide)), hv.1 a c ha hc, e]), ⟨(by rw [pp_ne _ _ (Or.inr (by decide))]; exact hv.2.1), (by rw [pp_ne _ _ (Or.inr (by decide))]; exact hv.2.2.1), (by rw [pp_self])⟩, rfl, rfl⟩
  | succ m ih =>
    intro k I2 hk hv
    have hkt : (nI k).toInt = (k : Int) := nI_toInt (by omega)
    have c0 : True := trivial
    refine WP_iload dX8_lookBack_11 rfl ?_
    refine WP_iload_n dX8_lookBack_13 rfl ?_
    refine WP_icmp_ge 102 dX8_lookBack_14 rfl (fun c14 => absurd c14 (by intro cc; (try simp only [hkt, hn.1, hkt] at cc); (all_goals (try simp only [cmp_lt, cmp_gt] at cc)); (all_goals (try simp only [le32, lt32, eq32, t64, Int32.reduceToInt, Int64.reduceToInt] at cc)); (all_goals (try simp (disch := ((try simp (disch := ((try simp (disch := omega) only [ia, is', im, ja, js, ir, idv, Int32.reduceToInt, Int64.reduceToInt, t64]); omega)) only [ia, is', im, ja, js, ir, idv, Int32.reduceToInt, Int64.reduceToInt, t64]); omega)) only [ia, is', im, ja, js, ir, idv, Int32.reduceToInt, Int64.reduceToInt, t64] at cc)); (all_goals (try simp only [hkt, hn.1, hkt] at cc)); (all_goals (try simp only [not_true_eq_false, eq_self] at cc)); all_goals omega)) (fun c14 => ?_)
    refine WP_aload_n dX8_lookBack_17 rfl ?_
    refine WP_iload dX8_lookBack_18 rfl ?_
    refine WP_iload dX8_lookBack_20 rfl ?_
    refine WP_callS2p dX8_lookBack_22 ⟨⟨⟨by decide, by decide⟩, zX8_losesOn⟩, lX8_31, tX8_losesOn⟩ (x_losesOn hy hr k r _ _ hkt ⟨hq.1, hq.2.1⟩) (Nat.le_of_ble_eq_true rfl) ?_
    refine WP_puti dX8_lookBack_25 fX8_15 rfl rfl (lyx_is hy _ _ rfl) ?_
    refine WP_iload_n dX8_lookBack_28 rfl ?_
    refine WP_istore (ls' := [(0, _), (1, _), (2, _), (3, _), (4, _), (5, _), (6, _)]) dX8_lookBack_29 (by decide) rfl ?_
    have eA : xa = nI (A + 1) - 1 := (eq32 _ _).mpr (by rw [nI_pred, nI_toInt (by omega)]; exact hA.1)
    refine WP_sub (ls' := [(0, .ref (ad g P_moneys)), (1, .int xa), (2, .int xc), (3, .int xn), (4, .int xr), (5, .int (nI k)), (6, .int (nI (A + 1) - 1))]) (fc rfl (fc rfl (fc rfl (fc rfl (fc rfl (fc rfl (fc (congrArg (fun z => some (Value.int z)) eA) fn))))))) (lx_notes (I := I) (J := J) hy hr A C nn r xa xc xn xr xp xq hA hC hn hq hp hqq k (by omega) ?_ (A + 1) 0 _ (by omega) ⟨(fun a c ha hc => by rw [pp_off _ _ (lyx_ne hy (show P_moneys_follows ≠ P_moneys by decide) (by decide) (by decide)), hv.1 a c ha hc, if_neg (by omega)]), ⟨(by rw [pp_ne _ _ (Or.inr (by decide))]; exact hv.2.1), (by rw [pp_ne _ _ (Or.inr (by decide))]; exact hv.2.2.1), (by rw [pp_self])⟩⟩)
    intro I3 hI3 hK3
    refine WP_iinc (ls' := [(0, _), (1, _), (2, _), (3, _), (4, _), (5, _)]) dX8_lookBack_96 rfl (by decide) rfl ?_
    refine WP_goto 11 dX8_lookBack_99 rfl ?_
    exact WP_sub (ls' := [(0, .ref (ad g P_moneys)), (1, .int xa), (2, .int xc), (3, .int xn), (4, .int xr), (5, .int (nI (k + 1)))]) (fc rfl (fc rfl (fc rfl (fc rfl (fc rfl (fc (by rw [← nI_1]; rfl) fn)))))) (ih (k + 1) _ (by omega) ⟨fun a c ha hc => by rw [hI3 a c ha hc, if_pos (by omega)]; rfl, hK3.1, hK3.2.1, by omega⟩)
set_option maxHeartbeats 4000000 in
set_option maxRecDepth 100000 in
theorem x_lookBack {g : GG} {I : pI} {J : pJ} {R : pR} (hy : LyX g) (hr : RfX g R) (A C nn r : Nat) (xa xc xn xr xp xq : Int32) (hA : xa.toInt = (A : Int) ∧ A ≤ 9) (hC : xc.toInt = (C : Int) ∧ C ≤ 9) (hn : xn.toInt = (nn : Int) ∧ 1 ≤ nn ∧ nn ≤ 20) (hq : xr.toInt = (r : Int) ∧ 1 ≤ r ∧ r ≤ 20) (hp : 0 ≤ xp.toInt ∧ xp.toInt ≤ 100) (hqq : 0 ≤ xq.toInt ∧ xq.toInt ≤ 100) (h0 : I (ad g P_moneys) 0 = xp) (h1 : I (ad g P_moneys) 1 = xq)  : SP g mX8_lookBack [.ref (ad g P_moneys), .int xa, .int xc, .int xn, .int xr] I J R (fun r0 I' J' R' => r0 = none ∧ (∀ a c, a ≤ A → c ≤ C → (I' (ad g P_moneys_follows) (10 * a + c)).toInt = VV xp.toInt xq.toInt r (nn - 1) a c) ∧ Kc g xp xq r nn I' ∧ J' = J ∧ R' = R) := by
  refine SP_of ⟨by decide, rfl⟩ (Nat.le_of_ble_eq_true rfl) ?_
  have c0 : True := trivial
  have hd : ad g P_moneys ≠ ad g P_moneys_follows := lyx_ne hy (by decide) (by decide) (by decide)
  refine WP_aload_n dX8_lookBack_0 rfl ?_
  refine WP_getr dX8_lookBack_1 fX8_9 rfl (lyx_is hy _ _ rfl) (rfx hr 69 3 70 (by decide)) ?_
  refine WP_iconst (0) dX8_lookBack_4 rfl ?_
  refine WP_callS2u dX8_lookBack_5 ⟨⟨⟨by decide, by decide⟩, zJ7_fill_53178⟩, lX8_25, tJ7_fill_53178⟩ (s_fill hy hr P_moneys_follows 100 rfl rfl (by decide) 0) (Nat.le_of_ble_eq_true rfl) ?_
  refine WP_iconst (1) dX8_lookBack_8 rfl ?_
  refine WP_istore (ls' := [(0, _), (1, _), (2, _), (3, _), (4, _), (5, _)]) dX8_lookBack_9 (by decide) rfl ?_
  refine WP_sub (ls' := [(0, .ref (ad g P_moneys)), (1, .int xa), (2, .int xc), (3, .int xn), (4, .int xr), (5, .int (nI 1))]) (fc rfl (fc rfl (fc rfl (fc rfl (fc rfl (fc rfl fn)))))) (lx_days (I := I) (J := J) hy hr A C nn r xa xc xn xr xp xq hA hC hn hq hp hqq (nn - 1) 1 _ (by omega) ⟨(fun a c ha hc => by rw [fi_in (by omega)]; rfl), (by rw [fi_off hd]; exact h0), (by rw [fi_off hd]; exact h1), Nat.le_refl 1⟩)
