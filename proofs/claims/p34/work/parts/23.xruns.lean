theorem xorI (a b : Nat) : nI a ^^^ nI b = nI (a ^^^ b) := by
  apply Int32.toBitVec_inj.1
  show BitVec.ofNat 32 a ^^^ BitVec.ofNat 32 b = BitVec.ofNat 32 (a ^^^ b)
  apply BitVec.eq_of_getLsbD_eq
  intro i hi
  simp [hi]
theorem xor7 {a : Int32} (h : 0 ≤ a.toInt) : 0 ≤ a ^^^ 7 := by
  have hr := rng a
  have e : a = nI a.toInt.toNat := (eq32 _ _).mpr (by rw [nI_toInt (by omega)]; omega)
  have h7 : (7 : Int32) = nI 7 := rfl
  rw [e, h7, xorI]
  exact nI_pos' (Nat.xor_lt_two_pow (by omega) (by decide))
def runs : List Nat := [P_course, P_trial, P_slot0, P_slot1, P_slot2]
theorem ru {p : Nat} (h : p ∈ runs) : kTX[p]? = some 4 ∧ kTX[p + 1]? = some 13 ∧ kTX[p + 2]? = some 13 ∧ nTX[p + 1]? = some 4 ∧ nTX[p + 2]? = some 28 ∧ (p, 4, p + 1) ∈ rTX ∧ (p, 5, p + 2) ∈ rTX ∧ p + 2 < 74 ∧ P_ta < p := by
  simp only [runs, List.mem_cons, List.not_mem_nil, or_false] at h
  rcases h with rfl | rfl | rfl | rfl | rfl <;> decide
theorem cp_fx {g : GG} (hy : LyX g) {S : List Nat} {I I1 : pI} {i a0 sp dp n : Nat} (h : fxX g S I I1) (hi : i < 74) (hm : i ∈ S) : fxX g S I (pcpy I1 a0 (ad g i) sp dp n) := fun j hj hn => by
  have hne : ad g j ≠ ad g i := lyx_ne hy (show j ≠ i from fun e => hn (e ▸ hm)) hj hi
  rw [← h j hj hn]
  funext q
  simp [pcpy, hne]
set_option maxHeartbeats 4000000 in
set_option maxRecDepth 100000 in
theorem x_become {g : GG} {I : pI} {J : pJ} {R : pR} (hy : LyX g) (hr : RfX g R) (p : Nat) (hp : p ∈ runs) (q : Nat) (hq : q ∈ runs)  : SP g mX4_become [.ref (ad g p), .ref (ad g q)] I J R (fun r I' J' R' => r = none ∧ fxX g [p, p + 1, p + 2] I I' ∧ R' = R) := by
  refine SP_of ⟨by decide, rfl⟩ (Nat.le_of_ble_eq_true rfl) ?_
  have c0 : True := trivial
  have hb := (ru hp).2.2.2.2.2.2.2.1
  refine WP_aload_n dX4_become_0 rfl ?_
  refine WP_aload_n dX4_become_1 rfl ?_
  refine WP_geti dX4_become_2 fX4_18 rfl (lyx_is hy _ _ (ru hq).1) ?_
  refine WP_puti dX4_become_5 fX4_18 rfl rfl (lyx_is hy _ _ (ru hp).1) ?_
  refine WP_aload_n dX4_become_8 rfl ?_
  refine WP_aload_n dX4_become_9 rfl ?_
  refine WP_geti dX4_become_10 fX4_22 rfl (lyx_is hy _ _ (ru hq).1) ?_
  refine WP_puti dX4_become_13 fX4_22 rfl rfl (lyx_is hy _ _ (ru hp).1) ?_
  refine WP_aload_n dX4_become_16 rfl ?_
  refine WP_aload_n dX4_become_17 rfl ?_
  refine WP_geti dX4_become_18 fX4_25 rfl (lyx_is hy _ _ (ru hq).1) ?_
  refine WP_puti dX4_become_21 fX4_25 rfl rfl (lyx_is hy _ _ (ru hp).1) ?_
  refine WP_aload_n dX4_become_24 rfl ?_
  refine WP_aload_n dX4_become_25 rfl ?_
  refine WP_getl dX4_become_26 fX4_28 rfl (lyx_is hy _ _ (ru hq).1) ?_
  refine WP_putl dX4_become_29 fX4_28 rfl rfl (lyx_is hy _ _ (ru hp).1) ?_
  refine WP_aload_n dX4_become_32 rfl ?_
  refine WP_getr dX4_become_33 fX4_9 rfl (lyx_is hy _ _ (ru hq).1) (rfx hr _ _ _ (ru hq).2.2.2.2.2.1) ?_
  refine WP_iconst (0) dX4_become_36 rfl ?_
  refine WP_aload_n dX4_become_37 rfl ?_
  refine WP_getr dX4_become_38 fX4_9 rfl (lyx_is hy _ _ (ru hp).1) (rfx hr _ _ _ (ru hp).2.2.2.2.2.1) ?_
  refine WP_iconst (0) dX4_become_41 rfl ?_
  refine WP_aload_n dX4_become_42 rfl ?_
  refine WP_getr dX4_become_43 fX4_9 rfl (lyx_is hy _ _ (ru hp).1) (rfx hr _ _ _ (ru hp).2.2.2.2.2.1) ?_
  refine WP_alen dX4_become_46 (lyx_is hy _ _ (ru hp).2.1) (by decide) ?_
  rw [lyx_n hy _ _ (ru hp).2.2.2.1]
  refine WP_copyi dX4_become_47 lX4_46 ⟨by decide, Nat.le_of_ble_eq_true rfl⟩ (lyx_is hy _ _ (ru hq).2.1) (lyx_is hy _ _ (ru hp).2.1) (by decide) (by decide) (by decide) (by rw [lyx_n hy _ _ (ru hq).2.2.2.1]; decide) (by rw [lyx_n hy _ _ (ru hp).2.2.2.1]; decide) ?_
  refine WP_aload_n dX4_become_50 rfl ?_
  refine WP_getr dX4_become_51 fX4_15 rfl (lyx_is hy _ _ (ru hq).1) (rfx hr _ _ _ (ru hq).2.2.2.2.2.2.1) ?_
  refine WP_iconst (0) dX4_become_54 rfl ?_
  refine WP_aload_n dX4_become_55 rfl ?_
  refine WP_getr dX4_become_56 fX4_15 rfl (lyx_is hy _ _ (ru hp).1) (rfx hr _ _ _ (ru hp).2.2.2.2.2.2.1) ?_
  refine WP_iconst (0) dX4_become_59 rfl ?_
  refine WP_aload_n dX4_become_60 rfl ?_
  refine WP_getr dX4_become_61 fX4_15 rfl (lyx_is hy _ _ (ru hp).1) (rfx hr _ _ _ (ru hp).2.2.2.2.2.2.1) ?_
  refine WP_alen dX4_become_64 (lyx_is hy _ _ (ru hp).2.2.1) (by decide) ?_
  rw [lyx_n hy _ _ (ru hp).2.2.2.2.1]
  refine WP_copyi dX4_become_65 lX4_46 ⟨by decide, Nat.le_of_ble_eq_true rfl⟩ (lyx_is hy _ _ (ru hq).2.2.1) (lyx_is hy _ _ (ru hp).2.2.1) (by decide) (by decide) (by decide) (by rw [lyx_n hy _ _ (ru hq).2.2.2.2.1]; decide) (by rw [lyx_n hy _ _ (ru hp).2.2.2.2.1]; decide) ?_
  exact WP_vret dX4_become_68 rfl ⟨rfl, cp_fx hy (cp_fx hy (fxX_pp hy (fxX_pp hy (fxX_pp hy fxX_rf (by omega) (by simp)) (by omega) (by simp)) (by omega) (by simp)) (by omega) (by simp)) (by omega) (by simp), rfl⟩
/-- a run as from the beginning -/
def R0 (g : GG) (p : Nat) (I : pI) (J : pJ) : Prop := I (ad g p) 0 = 0 ∧ I (ad g p) 1 = 0 ∧ I (ad g p) 2 = 0 ∧ J (ad g p) 3 = 0 ∧ ∀ q, q < 28 → I (ad g (p + 2)) q = 0
set_option maxHeartbeats 4000000 in
set_option maxRecDepth 100000 in
theorem x_begin {g : GG} {I : pI} {J : pJ} {R : pR} (hy : LyX g) (hr : RfX g R) (tw : Nat) (htw : kTX[tw]? = some 7 ∧ tw < 74) (p : Nat) (hp : p ∈ runs) (hne : tw ≠ p ∧ tw ≠ p + 2) (hs0 : I (ad g tw) 1 = 0)  : SP g mX4_begin [.ref (ad g p), .ref (ad g tw)] I J R (fun r I' J' R' => r = none ∧ fxX g [p, p + 1, p + 2] I I' ∧ R' = R ∧ R0 g p I' J' ∧ ∀ b, b ≠ ad g p → J' b = J b) := by
  refine SP_of ⟨by decide, rfl⟩ (Nat.le_of_ble_eq_true rfl) ?_
  have c0 : True := trivial
  have hb := (ru hp).2.2.2.2.2.2.2.1
  have hd : ad g p ≠ ad g (p + 2) := lyx_ne hy (by omega) (by omega) (by omega)
  refine WP_aload_n dX4_begin_0 rfl ?_
  refine WP_iconst (0) dX4_begin_1 rfl ?_
  refine WP_puti dX4_begin_2 fX4_18 rfl rfl (lyx_is hy _ _ (ru hp).1) ?_
  refine WP_aload_n dX4_begin_5 rfl ?_
  refine WP_iconst (0) dX4_begin_6 rfl ?_
  refine WP_puti dX4_begin_7 fX4_22 rfl rfl (lyx_is hy _ _ (ru hp).1) ?_
  refine WP_aload_n dX4_begin_10 rfl ?_
  refine WP_iconst (0) dX4_begin_11 rfl ?_
  refine WP_puti dX4_begin_12 fX4_25 rfl rfl (lyx_is hy _ _ (ru hp).1) ?_
  refine WP_aload_n dX4_begin_15 rfl ?_
  refine WP_lconst (0) dX4_begin_16 rfl ?_
  refine WP_putl dX4_begin_17 fX4_28 rfl rfl (lyx_is hy _ _ (ru hp).1) ?_
  refine WP_aload_n dX4_begin_20 rfl ?_
  refine WP_getr dX4_begin_21 fX4_15 rfl (lyx_is hy _ _ (ru hp).1) (rfx hr _ _ _ (ru hp).2.2.2.2.2.2.1) ?_
  refine WP_iconst (0) dX4_begin_24 rfl ?_
  refine WP_callS2u dX4_begin_25 ⟨⟨⟨by decide, by decide⟩, zJ7_fill_53178⟩, lX4_32, tJ7_fill_53178⟩ (s_fill hy hr (p + 2) 28 (ru hp).2.2.1 (ru hp).2.2.2.2.1 (by decide) 0) (Nat.le_of_ble_eq_true rfl) ?_
  refine WP_iconst (0) dX4_begin_28 rfl ?_
  refine WP_istore_n (ls' := [(0, _), (1, _), (2, _)]) dX4_begin_29 (by decide) rfl ?_
  refine WP_iload_n dX4_begin_30 rfl ?_
  refine WP_aload_n dX4_begin_31 rfl ?_
  refine WP_geti dX4_begin_32 fX4_38 rfl (lyx_is hy _ _ htw.1) ?_
  refine WP_icmp_ge 61 dX4_begin_35 rfl (fun c35 => ?_) (fun c35 => absurd c35 (by rw [fi_off (lyx_ne hy hne.2 htw.2 (by omega)), pp_off _ _ (lyx_ne hy hne.1 htw.2 (by omega)), pp_off _ _ (lyx_ne hy hne.1 htw.2 (by omega)), pp_off _ _ (lyx_ne hy hne.1 htw.2 (by omega)), hs0]; decide))
  exact WP_vret dX4_begin_61 rfl ⟨rfl, fi_fx hy (fxX_pp hy (fxX_pp hy (fxX_pp hy fxX_rf (by omega) (by simp)) (by omega) (by simp)) (by omega) (by simp)) (by omega) (by simp), rfl, ⟨(by rw [fi_off hd, pp_ne _ _ (Or.inr (by decide)), pp_ne _ _ (Or.inr (by decide)), pp_self]), (by rw [fi_off hd, pp_ne _ _ (Or.inr (by decide)), pp_self]), (by rw [fi_off hd, pp_self]), (by rw [pp_self]), fun q hq => fi_in hq⟩, fun b hb => pp_off _ _ hb⟩
set_option maxHeartbeats 4000000 in
set_option maxRecDepth 100000 in
theorem xr_anew {g : GG} {I : pI} {J : pJ} {R : pR} (hy : LyX g) (hr : RfX g R) (hf : XF g I J R)  : SP g mX10_anew [.ref (ad g P_x)] I J R (rq 0) := by
  refine SP_of ⟨by decide, rfl⟩ (Nat.le_of_ble_eq_true rfl) ?_
  have c0 : True := trivial
  have hf0 := hf
  obtain ⟨hxc, h_length, h_kind, h_place, h_clauses, h_turns, h_days, h_chestC, h_bought, h_held, h_cost0, h_s0, h_s1, h_s2, h_spare, h_loss, h_mloss, h_stamps⟩ := hf
  have hxc0 := hxc
  obtain ⟨h_town, h_sorts, h_things, h_chest, h_stored⟩ := hxc
  refine WP_aload_n dX10_anew_0 rfl ?_
  refine WP_getr dX10_anew_1 fX10_62 rfl (lyx_is hy _ _ rfl) (rfx hr 0 5 53 (by decide)) ?_
  refine WP_geti dX10_anew_4 fX10_232 rfl (lyx_is hy _ _ rfl) ?_
  refine WP_istore_n (ls' := [(0, _), (1, _)]) dX10_anew_7 (by decide) rfl ?_
  refine WP_aload_n dX10_anew_8 rfl ?_
  refine WP_getr dX10_anew_9 fX10_62 rfl (lyx_is hy _ _ rfl) (rfx hr 0 5 53 (by decide)) ?_
  refine WP_aload_n dX10_anew_12 rfl ?_
  refine WP_getr dX10_anew_13 fX10_33 rfl (lyx_is hy _ _ rfl) (rfx hr 0 2 5 (by decide)) ?_
  refine WP_getr dX10_anew_16 fX10_102 rfl (lyx_is hy _ _ rfl) h_town ?_
  refine WP_callV1 (k := 4) dX10_anew_19 ⟨⟨⟨by decide, by decide⟩, zX4_begin⟩, lX10_246, by decide, rfl, vX4_begin.1, vX4_begin.2⟩ (lyx_is hy _ _ rfl) (x_begin hy hr P_ta ⟨rfl, by decide⟩ P_course (by decide) (by decide) h_sorts) (Nat.le_of_ble_eq_true rfl) ?_
  rintro r I3 J3 R3 ⟨rfl, hx3, eR, hr3, hj3⟩
  rw [eR]
  simp only [Option.toList, List.cons_append, List.nil_append]
  refine WP_iload_n dX10_anew_22 rfl ?_
  exact WP_iret dX10_anew_23 rfl (by unfold rq; (try simp only [h_sorts, h_things, h_chest, h_stored, h_length, h_kind, h_place, h_clauses, h_turns, h_days, h_chestC, h_bought, h_held, h_loss, h_mloss, h_cost0] at c0 ⊢); (all_goals (try simp only [cmp_lt, cmp_gt] at c0 ⊢)); (all_goals (try simp only [le32, lt32, eq32, t64, vp_in_iff, Int32.reduceToInt, Int64.reduceToInt] at c0)); (all_goals (try simp (disch := ((try simp (disch := ((try simp (disch := omega) only [ia, is', im, ja, js, ir, idv, Int32.reduceToInt, Int64.reduceToInt, t64]); omega)) only [ia, is', im, ja, js, ir, idv, Int32.reduceToInt, Int64.reduceToInt, t64]); omega)) only [ia, is', im, ja, js, ir, idv, Int32.reduceToInt, Int64.reduceToInt, t64] at c0 ⊢)); (all_goals (try simp only [h_sorts, h_things, h_chest, h_stored, h_length, h_kind, h_place, h_clauses, h_turns, h_days, h_chestC, h_bought, h_held, h_loss, h_mloss, h_cost0] at c0 ⊢)); (all_goals (first | rfl | (rw [if_pos (by omega)]; done) | (rw [if_neg (by omega)]; done) | (rw [if_neg (by omega), if_pos (by omega)]; done) | (rw [if_neg (by omega), if_neg (by omega)]; done) | (exfalso; omega))))
set_option maxHeartbeats 4000000 in
set_option maxRecDepth 100000 in
theorem xk_keep0 {g : GG} {I : pI} {J : pJ} {R : pR} (hy : LyX g) (hr : RfX g R) (hf : XF g I J R)  : SP g mX10_keep [.ref (ad g P_x), .int 0] I J R (rq 0) := by
  refine SP_of ⟨by decide, rfl⟩ (Nat.le_of_ble_eq_true rfl) ?_
  have c0 : True := trivial
  have hf0 := hf
  obtain ⟨hxc, h_length, h_kind, h_place, h_clauses, h_turns, h_days, h_chestC, h_bought, h_held, h_cost0, h_s0, h_s1, h_s2, h_spare, h_loss, h_mloss, h_stamps⟩ := hf
  have hxc0 := hxc
  obtain ⟨h_town, h_sorts, h_things, h_chest, h_stored⟩ := hxc
  refine WP_iload_n dX10_keep_0 rfl ?_
  refine WP_if_lt 9 dX10_keep_1 rfl (fun c1 => absurd c1 (by decide)) (fun c1 => ?_)
  refine WP_iload_n dX10_keep_4 rfl ?_
  refine WP_iconst (3) dX10_keep_5 rfl ?_
  refine WP_icmp_lt 12 dX10_keep_6 rfl (fun c6 => ?_) (fun c6 => absurd c6 (by decide))
  refine WP_aload_n dX10_keep_12 rfl ?_
  refine WP_getr dX10_keep_13 fX10_69 rfl (lyx_is hy _ _ rfl) (rfx hr 0 7 59 (by decide)) ?_
  refine WP_iload_n dX10_keep_16 rfl ?_
  refine WP_aald dX10_keep_17 (lyx_is hy _ _ rfl) (lyx_in hy _ _ rfl (by rw [vp_in_iff]; decide)) (rfx hr 59 0 60 (by decide)) ?_
  refine WP_aload_n dX10_keep_18 rfl ?_
  refine WP_getr dX10_keep_19 fX10_62 rfl (lyx_is hy _ _ rfl) (rfx hr 0 5 53 (by decide)) ?_
  refine WP_callV1 (k := 4) dX10_keep_22 ⟨⟨⟨by decide, by decide⟩, zX4_become⟩, lX10_249, by decide, rfl, vX4_become.1, vX4_become.2⟩ (lyx_is hy _ _ rfl) (x_become hy hr P_slot0 (by decide) P_course (by decide)) (Nat.le_of_ble_eq_true rfl) ?_
  rintro r I3 J3 R3 ⟨rfl, hx3, eR⟩
  rw [eR]
  simp only [Option.toList, List.cons_append, List.nil_append]
  refine WP_aload_n dX10_keep_25 rfl ?_
  refine WP_getr dX10_keep_26 fX10_62 rfl (lyx_is hy _ _ rfl) (rfx hr 0 5 53 (by decide)) ?_
  refine WP_geti dX10_keep_29 fX10_232 rfl (lyx_is hy _ _ rfl) ?_
  exact WP_iret dX10_keep_32 rfl (by unfold rq; rw [hx3 P_course (by decide) (by decide), h_days])
set_option maxHeartbeats 4000000 in
set_option maxRecDepth 100000 in
theorem xk_take0 {g : GG} {I : pI} {J : pJ} {R : pR} (hy : LyX g) (hr : RfX g R) (hf : XF g I J R)  : SP g mX10_take [.ref (ad g P_x), .int 0] I J R (rq (-4)) := by
  refine SP_of ⟨by decide, rfl⟩ (Nat.le_of_ble_eq_true rfl) ?_
  have c0 : True := trivial
  have hf0 := hf
  obtain ⟨hxc, h_length, h_kind, h_place, h_clauses, h_turns, h_days, h_chestC, h_bought, h_held, h_cost0, h_s0, h_s1, h_s2, h_spare, h_loss, h_mloss, h_stamps⟩ := hf
  have hxc0 := hxc
  obtain ⟨h_town, h_sorts, h_things, h_chest, h_stored⟩ := hxc
  refine WP_iload_n dX10_take_0 rfl ?_
  refine WP_if_lt 9 dX10_take_1 rfl (fun c1 => absurd c1 (by decide)) (fun c1 => ?_)
  refine WP_iload_n dX10_take_4 rfl ?_
  refine WP_iconst (3) dX10_take_5 rfl ?_
  refine WP_icmp_lt 12 dX10_take_6 rfl (fun c6 => ?_) (fun c6 => absurd c6 (by decide))
  refine WP_aload_n dX10_take_12 rfl ?_
  refine WP_getr dX10_take_13 fX10_69 rfl (lyx_is hy _ _ rfl) (rfx hr 0 7 59 (by decide)) ?_
  refine WP_iload_n dX10_take_16 rfl ?_
  refine WP_aald dX10_take_17 (lyx_is hy _ _ rfl) (lyx_in hy _ _ rfl (by rw [vp_in_iff]; decide)) (rfx hr 59 0 60 (by decide)) ?_
  refine WP_geti dX10_take_18 fX10_232 rfl (lyx_is hy _ _ rfl) ?_
  refine WP_iconst (-1) dX10_take_21 rfl ?_
  refine WP_icmp_ne 28 dX10_take_22 rfl (fun c22 => absurd c22 (by rw [h_s0]; decide)) (fun c22 => ?_)
  refine WP_bipush (-4) dX10_take_25 rfl ?_
  exact WP_iret dX10_take_27 rfl (by unfold rq; (try simp only [h_sorts, h_things, h_chest, h_stored, h_length, h_kind, h_place, h_clauses, h_turns, h_days, h_chestC, h_bought, h_held, h_loss, h_mloss, h_cost0] at c0 c1 c6 c22 ⊢); (all_goals (try simp only [cmp_lt, cmp_gt] at c0 c1 c6 c22 ⊢)); (all_goals (try simp only [le32, lt32, eq32, t64, vp_in_iff, Int32.reduceToInt, Int64.reduceToInt] at c0 c1 c6 c22)); (all_goals (try simp (disch := ((try simp (disch := ((try simp (disch := omega) only [ia, is', im, ja, js, ir, idv, Int32.reduceToInt, Int64.reduceToInt, t64]); omega)) only [ia, is', im, ja, js, ir, idv, Int32.reduceToInt, Int64.reduceToInt, t64]); omega)) only [ia, is', im, ja, js, ir, idv, Int32.reduceToInt, Int64.reduceToInt, t64] at c0 c1 c6 c22 ⊢)); (all_goals (try simp only [h_sorts, h_things, h_chest, h_stored, h_length, h_kind, h_place, h_clauses, h_turns, h_days, h_chestC, h_bought, h_held, h_loss, h_mloss, h_cost0] at c0 c1 c6 c22 ⊢)); (all_goals (first | rfl | (rw [if_pos (by omega)]; done) | (rw [if_neg (by omega)]; done) | (rw [if_neg (by omega), if_pos (by omega)]; done) | (rw [if_neg (by omega), if_neg (by omega)]; done) | (exfalso; omega))))
set_option maxHeartbeats 4000000 in
set_option maxRecDepth 100000 in
theorem xk_keep1 {g : GG} {I : pI} {J : pJ} {R : pR} (hy : LyX g) (hr : RfX g R) (hf : XF g I J R)  : SP g mX10_keep [.ref (ad g P_x), .int 1] I J R (rq 0) := by
  refine SP_of ⟨by decide, rfl⟩ (Nat.le_of_ble_eq_true rfl) ?_
  have c0 : True := trivial
  have hf0 := hf
  obtain ⟨hxc, h_length, h_kind, h_place, h_clauses, h_turns, h_days, h_chestC, h_bought, h_held, h_cost0, h_s0, h_s1, h_s2, h_spare, h_loss, h_mloss, h_stamps⟩ := hf
  have hxc0 := hxc
  obtain ⟨h_town, h_sorts, h_things, h_chest, h_stored⟩ := hxc
  refine WP_iload_n dX10_keep_0 rfl ?_
  refine WP_if_lt 9 dX10_keep_1 rfl (fun c1 => absurd c1 (by decide)) (fun c1 => ?_)
  refine WP_iload_n dX10_keep_4 rfl ?_
  refine WP_iconst (3) dX10_keep_5 rfl ?_
  refine WP_icmp_lt 12 dX10_keep_6 rfl (fun c6 => ?_) (fun c6 => absurd c6 (by decide))
  refine WP_aload_n dX10_keep_12 rfl ?_
  refine WP_getr dX10_keep_13 fX10_69 rfl (lyx_is hy _ _ rfl) (rfx hr 0 7 59 (by decide)) ?_
  refine WP_iload_n dX10_keep_16 rfl ?_
  refine WP_aald dX10_keep_17 (lyx_is hy _ _ rfl) (lyx_in hy _ _ rfl (by rw [vp_in_iff]; decide)) (rfx hr 59 1 63 (by decide)) ?_
  refine WP_aload_n dX10_keep_18 rfl ?_
  refine WP_getr dX10_keep_19 fX10_62 rfl (lyx_is hy _ _ rfl) (rfx hr 0 5 53 (by decide)) ?_
  refine WP_callV1 (k := 4) dX10_keep_22 ⟨⟨⟨by decide, by decide⟩, zX4_become⟩, lX10_249, by decide, rfl, vX4_become.1, vX4_become.2⟩ (lyx_is hy _ _ rfl) (x_become hy hr P_slot1 (by decide) P_course (by decide)) (Nat.le_of_ble_eq_true rfl) ?_
  rintro r I3 J3 R3 ⟨rfl, hx3, eR⟩
  rw [eR]
  simp only [Option.toList, List.cons_append, List.nil_append]
  refine WP_aload_n dX10_keep_25 rfl ?_
  refine WP_getr dX10_keep_26 fX10_62 rfl (lyx_is hy _ _ rfl) (rfx hr 0 5 53 (by decide)) ?_
  refine WP_geti dX10_keep_29 fX10_232 rfl (lyx_is hy _ _ rfl) ?_
  exact WP_iret dX10_keep_32 rfl (by unfold rq; rw [hx3 P_course (by decide) (by decide), h_days])
set_option maxHeartbeats 4000000 in
set_option maxRecDepth 100000 in
theorem xk_take1 {g : GG} {I : pI} {J : pJ} {R : pR} (hy : LyX g) (hr : RfX g R) (hf : XF g I J R)  : SP g mX10_take [.ref (ad g P_x), .int 1] I J R (rq (-4)) := by
  refine SP_of ⟨by decide, rfl⟩ (Nat.le_of_ble_eq_true rfl) ?_
  have c0 : True := trivial
  have hf0 := hf
  obtain ⟨hxc, h_length, h_kind, h_place, h_clauses, h_turns, h_days, h_chestC, h_bought, h_held, h_cost0, h_s0, h_s1, h_s2, h_spare, h_loss, h_mloss, h_stamps⟩ := hf
  have hxc0 := hxc
  obtain ⟨h_town, h_sorts, h_things, h_chest, h_stored⟩ := hxc
  refine WP_iload_n dX10_take_0 rfl ?_
  refine WP_if_lt 9 dX10_take_1 rfl (fun c1 => absurd c1 (by decide)) (fun c1 => ?_)
  refine WP_iload_n dX10_take_4 rfl ?_
  refine WP_iconst (3) dX10_take_5 rfl ?_
  refine WP_icmp_lt 12 dX10_take_6 rfl (fun c6 => ?_) (fun c6 => absurd c6 (by decide))
  refine WP_aload_n dX10_take_12 rfl ?_
  refine WP_getr dX10_take_13 fX10_69 rfl (lyx_is hy _ _ rfl) (rfx hr 0 7 59 (by decide)) ?_
  refine WP_iload_n dX10_take_16 rfl ?_
  refine WP_aald dX10_take_17 (lyx_is hy _ _ rfl) (lyx_in hy _ _ rfl (by rw [vp_in_iff]; decide)) (rfx hr 59 1 63 (by decide)) ?_
  refine WP_geti dX10_take_18 fX10_232 rfl (lyx_is hy _ _ rfl) ?_
  refine WP_iconst (-1) dX10_take_21 rfl ?_
  refine WP_icmp_ne 28 dX10_take_22 rfl (fun c22 => absurd c22 (by rw [h_s1]; decide)) (fun c22 => ?_)
  refine WP_bipush (-4) dX10_take_25 rfl ?_
  exact WP_iret dX10_take_27 rfl (by unfold rq; (try simp only [h_sorts, h_things, h_chest, h_stored, h_length, h_kind, h_place, h_clauses, h_turns, h_days, h_chestC, h_bought, h_held, h_loss, h_mloss, h_cost0] at c0 c1 c6 c22 ⊢); (all_goals (try simp only [cmp_lt, cmp_gt] at c0 c1 c6 c22 ⊢)); (all_goals (try simp only [le32, lt32, eq32, t64, vp_in_iff, Int32.reduceToInt, Int64.reduceToInt] at c0 c1 c6 c22)); (all_goals (try simp (disch := ((try simp (disch := ((try simp (disch := omega) only [ia, is', im, ja, js, ir, idv, Int32.reduceToInt, Int64.reduceToInt, t64]); omega)) only [ia, is', im, ja, js, ir, idv, Int32.reduceToInt, Int64.reduceToInt, t64]); omega)) only [ia, is', im, ja, js, ir, idv, Int32.reduceToInt, Int64.reduceToInt, t64] at c0 c1 c6 c22 ⊢)); (all_goals (try simp only [h_sorts, h_things, h_chest, h_stored, h_length, h_kind, h_place, h_clauses, h_turns, h_days, h_chestC, h_bought, h_held, h_loss, h_mloss, h_cost0] at c0 c1 c6 c22 ⊢)); (all_goals (first | rfl | (rw [if_pos (by omega)]; done) | (rw [if_neg (by omega)]; done) | (rw [if_neg (by omega), if_pos (by omega)]; done) | (rw [if_neg (by omega), if_neg (by omega)]; done) | (exfalso; omega))))
set_option maxHeartbeats 4000000 in
set_option maxRecDepth 100000 in
theorem xk_keep2 {g : GG} {I : pI} {J : pJ} {R : pR} (hy : LyX g) (hr : RfX g R) (hf : XF g I J R)  : SP g mX10_keep [.ref (ad g P_x), .int 2] I J R (rq 0) := by
  refine SP_of ⟨by decide, rfl⟩ (Nat.le_of_ble_eq_true rfl) ?_
  have c0 : True := trivial
  have hf0 := hf
  obtain ⟨hxc, h_length, h_kind, h_place, h_clauses, h_turns, h_days, h_chestC, h_bought, h_held, h_cost0, h_s0, h_s1, h_s2, h_spare, h_loss, h_mloss, h_stamps⟩ := hf
  have hxc0 := hxc
  obtain ⟨h_town, h_sorts, h_things, h_chest, h_stored⟩ := hxc
  refine WP_iload_n dX10_keep_0 rfl ?_
  refine WP_if_lt 9 dX10_keep_1 rfl (fun c1 => absurd c1 (by decide)) (fun c1 => ?_)
  refine WP_iload_n dX10_keep_4 rfl ?_
  refine WP_iconst (3) dX10_keep_5 rfl ?_
  refine WP_icmp_lt 12 dX10_keep_6 rfl (fun c6 => ?_) (fun c6 => absurd c6 (by decide))
  refine WP_aload_n dX10_keep_12 rfl ?_
  refine WP_getr dX10_keep_13 fX10_69 rfl (lyx_is hy _ _ rfl) (rfx hr 0 7 59 (by decide)) ?_
  refine WP_iload_n dX10_keep_16 rfl ?_
  refine WP_aald dX10_keep_17 (lyx_is hy _ _ rfl) (lyx_in hy _ _ rfl (by rw [vp_in_iff]; decide)) (rfx hr 59 2 66 (by decide)) ?_
  refine WP_aload_n dX10_keep_18 rfl ?_
  refine WP_getr dX10_keep_19 fX10_62 rfl (lyx_is hy _ _ rfl) (rfx hr 0 5 53 (by decide)) ?_
  refine WP_callV1 (k := 4) dX10_keep_22 ⟨⟨⟨by decide, by decide⟩, zX4_become⟩, lX10_249, by decide, rfl, vX4_become.1, vX4_become.2⟩ (lyx_is hy _ _ rfl) (x_become hy hr P_slot2 (by decide) P_course (by decide)) (Nat.le_of_ble_eq_true rfl) ?_
  rintro r I3 J3 R3 ⟨rfl, hx3, eR⟩
  rw [eR]
  simp only [Option.toList, List.cons_append, List.nil_append]
  refine WP_aload_n dX10_keep_25 rfl ?_
  refine WP_getr dX10_keep_26 fX10_62 rfl (lyx_is hy _ _ rfl) (rfx hr 0 5 53 (by decide)) ?_
  refine WP_geti dX10_keep_29 fX10_232 rfl (lyx_is hy _ _ rfl) ?_
  exact WP_iret dX10_keep_32 rfl (by unfold rq; rw [hx3 P_course (by decide) (by decide), h_days])
set_option maxHeartbeats 4000000 in
set_option maxRecDepth 100000 in
theorem xk_take2 {g : GG} {I : pI} {J : pJ} {R : pR} (hy : LyX g) (hr : RfX g R) (hf : XF g I J R)  : SP g mX10_take [.ref (ad g P_x), .int 2] I J R (rq (-4)) := by
  refine SP_of ⟨by decide, rfl⟩ (Nat.le_of_ble_eq_true rfl) ?_
  have c0 : True := trivial
  have hf0 := hf
  obtain ⟨hxc, h_length, h_kind, h_place, h_clauses, h_turns, h_days, h_chestC, h_bought, h_held, h_cost0, h_s0, h_s1, h_s2, h_spare, h_loss, h_mloss, h_stamps⟩ := hf
  have hxc0 := hxc
  obtain ⟨h_town, h_sorts, h_things, h_chest, h_stored⟩ := hxc
  refine WP_iload_n dX10_take_0 rfl ?_
  refine WP_if_lt 9 dX10_take_1 rfl (fun c1 => absurd c1 (by decide)) (fun c1 => ?_)
  refine WP_iload_n dX10_take_4 rfl ?_
  refine WP_iconst (3) dX10_take_5 rfl ?_
  refine WP_icmp_lt 12 dX10_take_6 rfl (fun c6 => ?_) (fun c6 => absurd c6 (by decide))
  refine WP_aload_n dX10_take_12 rfl ?_
  refine WP_getr dX10_take_13 fX10_69 rfl (lyx_is hy _ _ rfl) (rfx hr 0 7 59 (by decide)) ?_
  refine WP_iload_n dX10_take_16 rfl ?_
  refine WP_aald dX10_take_17 (lyx_is hy _ _ rfl) (lyx_in hy _ _ rfl (by rw [vp_in_iff]; decide)) (rfx hr 59 2 66 (by decide)) ?_
  refine WP_geti dX10_take_18 fX10_232 rfl (lyx_is hy _ _ rfl) ?_
  refine WP_iconst (-1) dX10_take_21 rfl ?_
  refine WP_icmp_ne 28 dX10_take_22 rfl (fun c22 => absurd c22 (by rw [h_s2]; decide)) (fun c22 => ?_)
  refine WP_bipush (-4) dX10_take_25 rfl ?_
  exact WP_iret dX10_take_27 rfl (by unfold rq; (try simp only [h_sorts, h_things, h_chest, h_stored, h_length, h_kind, h_place, h_clauses, h_turns, h_days, h_chestC, h_bought, h_held, h_loss, h_mloss, h_cost0] at c0 c1 c6 c22 ⊢); (all_goals (try simp only [cmp_lt, cmp_gt] at c0 c1 c6 c22 ⊢)); (all_goals (try simp only [le32, lt32, eq32, t64, vp_in_iff, Int32.reduceToInt, Int64.reduceToInt] at c0 c1 c6 c22)); (all_goals (try simp (disch := ((try simp (disch := ((try simp (disch := omega) only [ia, is', im, ja, js, ir, idv, Int32.reduceToInt, Int64.reduceToInt, t64]); omega)) only [ia, is', im, ja, js, ir, idv, Int32.reduceToInt, Int64.reduceToInt, t64]); omega)) only [ia, is', im, ja, js, ir, idv, Int32.reduceToInt, Int64.reduceToInt, t64] at c0 c1 c6 c22 ⊢)); (all_goals (try simp only [h_sorts, h_things, h_chest, h_stored, h_length, h_kind, h_place, h_clauses, h_turns, h_days, h_chestC, h_bought, h_held, h_loss, h_mloss, h_cost0] at c0 c1 c6 c22 ⊢)); (all_goals (first | rfl | (rw [if_pos (by omega)]; done) | (rw [if_neg (by omega)]; done) | (rw [if_neg (by omega), if_pos (by omega)]; done) | (rw [if_neg (by omega), if_neg (by omega)]; done) | (exfalso; omega))))
theorem c3 {P : Int32 → Prop} {a : Int32} (h : 0 ≤ a.toInt ∧ a.toInt ≤ 2) (h0 : P 0) (h1 : P 1) (h2 : P 2) : P a := by
  have e : a = 0 ∨ a = 1 ∨ a = 2 := by
    simp only [eq32, Int32.reduceToInt]; omega
  rcases e with rfl | rfl | rfl
  · exact h0
  · exact h1
  · exact h2
set_option maxHeartbeats 4000000 in
set_option maxRecDepth 100000 in
theorem xr_keep {g : GG} {I : pI} {J : pJ} {R : pR} (hy : LyX g) (hr : RfX g R) (hf : XF g I J R) (a : Int32) : SP g mX10_keep [.ref (ad g P_x), .int a] I J R (rq (if 0 ≤ a.toInt ∧ a.toInt ≤ 2 then 0 else -2)) := by
  by_cases h : 0 ≤ a.toInt ∧ a.toInt ≤ 2
  · rw [if_pos h]
    exact c3 (P := fun z => SP g mX10_keep [.ref (ad g P_x), .int z] I J R (rq (0))) h (xk_keep0 hy hr hf) (xk_keep1 hy hr hf) (xk_keep2 hy hr hf)
  · rw [if_neg h]
    refine SP_of ⟨by decide, rfl⟩ (Nat.le_of_ble_eq_true rfl) ?_
    refine WP_iload_n dX10_keep_0 rfl ?_
    refine WP_if_lt 9 dX10_keep_1 rfl (fun c1 => ?_) (fun c1 => ?_)
    · refine WP_bipush (-2) dX10_keep_9 rfl ?_
      exact WP_iret dX10_keep_11 rfl rfl
    · refine WP_iload_n dX10_keep_4 rfl ?_
      refine WP_iconst (3) dX10_keep_5 rfl ?_
      refine WP_icmp_lt 12 dX10_keep_6 rfl (fun c6 => absurd c6 (by intro cc; simp only [lt32, Int32.reduceToInt] at cc c1; omega)) (fun c6 => ?_)
      refine WP_bipush (-2) dX10_keep_9 rfl ?_
      exact WP_iret dX10_keep_11 rfl rfl
set_option maxHeartbeats 4000000 in
set_option maxRecDepth 100000 in
theorem xr_take {g : GG} {I : pI} {J : pJ} {R : pR} (hy : LyX g) (hr : RfX g R) (hf : XF g I J R) (a : Int32) : SP g mX10_take [.ref (ad g P_x), .int a] I J R (rq (if 0 ≤ a.toInt ∧ a.toInt ≤ 2 then -4 else -2)) := by
  by_cases h : 0 ≤ a.toInt ∧ a.toInt ≤ 2
  · rw [if_pos h]
    exact c3 (P := fun z => SP g mX10_take [.ref (ad g P_x), .int z] I J R (rq (-4))) h (xk_take0 hy hr hf) (xk_take1 hy hr hf) (xk_take2 hy hr hf)
  · rw [if_neg h]
    refine SP_of ⟨by decide, rfl⟩ (Nat.le_of_ble_eq_true rfl) ?_
    refine WP_iload_n dX10_take_0 rfl ?_
    refine WP_if_lt 9 dX10_take_1 rfl (fun c1 => ?_) (fun c1 => ?_)
    · refine WP_bipush (-2) dX10_take_9 rfl ?_
      exact WP_iret dX10_take_11 rfl rfl
    · refine WP_iload_n dX10_take_4 rfl ?_
      refine WP_iconst (3) dX10_take_5 rfl ?_
      refine WP_icmp_lt 12 dX10_take_6 rfl (fun c6 => absurd c6 (by intro cc; simp only [lt32, Int32.reduceToInt] at cc c1; omega)) (fun c6 => ?_)
      refine WP_bipush (-2) dX10_take_9 rfl ?_
      exact WP_iret dX10_take_11 rfl rfl
