set_option maxHeartbeats 4000000 in
set_option maxRecDepth 100000 in
theorem s_byteAt0 {g : GG} {I : pI} {J : pJ} {R : pR} (hy : Ly g) (hr : Rf g R) (a : Int32) (hl : I (ad g P_o) 2 = 0) (ha : a = 0) : SP g mX11_byteAt [.ref (ad g P_o), .int a] I J R (pq (.int 0) I J R) := by
  refine SP_of ⟨by decide, rfl⟩ (Nat.le_of_ble_eq_true rfl) ?_
  have c0 : True := trivial
  refine WP_iload_n dX11_byteAt_0 rfl ?_
  refine WP_aload_n dX11_byteAt_1 rfl ?_
  refine WP_geti dX11_byteAt_2 fX11_13 rfl (ly_is hy _ _ rfl) ?_
  refine WP_icmp_ge 21 dX11_byteAt_5 rfl (fun c5 => ?_) (fun c5 => absurd c5 (by rw [hl, ha]; decide))
  refine WP_iconst (0) dX11_byteAt_21 rfl ?_
  exact WP_iret dX11_byteAt_22 rfl ⟨rfl, rfl, rfl, rfl⟩
set_option maxHeartbeats 4000000 in
set_option maxRecDepth 100000 in
theorem s_scan0 {g : GG} {I : pI} {J : pJ} {R : pR} (hy : Ly g) (hr : Rf g R) (hl : I (ad g P_o) 2 = 0) (hb : I (ad g P_o) 4 = 0) : SP g mX11_scan [.ref (ad g P_o)] I J R (pu (pp (pp I (ad g P_o) 3 (I (ad g P_o) 4)) (ad g P_o) 5 0) J R) := by
  refine SP_of ⟨by decide, rfl⟩ (Nat.le_of_ble_eq_true rfl) ?_
  have c0 : True := trivial
  refine WP_aload_n dX11_scan_0 rfl ?_
  refine WP_geti dX11_scan_1 fX11_20 rfl (ly_is hy _ _ rfl) ?_
  refine WP_aload_n dX11_scan_4 rfl ?_
  refine WP_geti dX11_scan_5 fX11_13 rfl (ly_is hy _ _ rfl) ?_
  refine WP_icmp_ge 52 dX11_scan_8 rfl (fun c8 => ?_) (fun c8 => absurd c8 (by rw [hl, hb]; decide))
  refine WP_aload_n dX11_scan_52 rfl ?_
  refine WP_aload_n dX11_scan_53 rfl ?_
  refine WP_geti dX11_scan_54 fX11_20 rfl (ly_is hy _ _ rfl) ?_
  refine WP_puti dX11_scan_57 fX11_7 rfl rfl (ly_is hy _ _ rfl) ?_
  refine WP_aload_n dX11_scan_60 rfl ?_
  refine WP_aload_n dX11_scan_61 rfl ?_
  refine WP_geti dX11_scan_62 fX11_7 rfl (ly_is hy _ _ rfl) ?_
  refine WP_callV1p (k := 11) dX11_scan_65 ⟨⟨⟨by decide, by decide⟩, zX11_byteAt⟩, lX11_23, by decide, rfl, vX11_byteAt.1, vX11_byteAt.2⟩ (ly_is hy _ _ rfl) (s_byteAt0 hy hr _ (by rw [pp_ne _ _ (Or.inr (by decide))]; exact hl) (by rw [pp_self]; exact hb)) (Nat.le_of_ble_eq_true rfl) ?_
  refine WP_istore_n (ls' := [(0, _), (1, _)]) dX11_scan_68 (by decide) rfl ?_
  refine WP_aload_n dX11_scan_69 rfl ?_
  refine WP_geti dX11_scan_70 fX11_7 rfl (ly_is hy _ _ rfl) ?_
  refine WP_aload_n dX11_scan_73 rfl ?_
  refine WP_geti dX11_scan_74 fX11_13 rfl (ly_is hy _ _ rfl) ?_
  refine WP_icmp_ne 88 dX11_scan_77 rfl (fun c77 => absurd c77 (by rw [pp_self, pp_ne _ _ (Or.inr (by decide)), hl, hb]; decide)) (fun c77 => ?_)
  refine WP_aload_n dX11_scan_80 rfl ?_
  refine WP_iconst (0) dX11_scan_81 rfl ?_
  refine WP_puti dX11_scan_82 fX11_27 rfl rfl (ly_is hy _ _ rfl) ?_
  refine WP_goto 273 dX11_scan_85 rfl ?_
  exact WP_vret dX11_scan_273 rfl ⟨rfl, rfl, rfl, rfl⟩
/-- behind open() on an empty tape -/
def opn (g : GG) (I : pI) : pI := pp (pp (pp (pp (pp (pp (pp I (ad g P_o) 2 (I (ad g P_o) 1)) (ad g P_o) 1 0) (ad g P_o) 4 0) (ad g P_o) 8 0) (ad g P_o) 9 (-1)) (ad g P_o) 3 0) (ad g P_o) 5 0
theorem opn_o {g : GG} {I : pI} (q : Nat) (hq : q ≠ 1 ∧ q ≠ 2 ∧ q ≠ 3 ∧ q ≠ 4 ∧ q ≠ 5 ∧ q ≠ 8 ∧ q ≠ 9) : opn g I (ad g P_o) q = I (ad g P_o) q := by
  unfold opn
  rw [pp_ne _ _ (Or.inr hq.2.2.2.2.1), pp_ne _ _ (Or.inr hq.2.2.1), pp_ne _ _ (Or.inr hq.2.2.2.2.2.2), pp_ne _ _ (Or.inr hq.2.2.2.2.2.1), pp_ne _ _ (Or.inr hq.2.2.2.1), pp_ne _ _ (Or.inr hq.1), pp_ne _ _ (Or.inr hq.2.1)]
theorem opn_hand {g : GG} {I : pI} : opn g I (ad g P_o) 5 = 0 := by unfold opn; rw [pp_self]
theorem opn_fx {g : GG} (hy : Ly g) {I : pI} : fx g [P_o] I (opn g I) := fx_pp hy (fx_pp hy (fx_pp hy (fx_pp hy (fx_pp hy (fx_pp hy (fx_pp hy fx_rf (by decide) (by decide)) (by decide) (by decide)) (by decide) (by decide)) (by decide) (by decide)) (by decide) (by decide)) (by decide) (by decide)) (by decide) (by decide)
theorem opn_mc {g : GG} (hy : Ly g) {I : pI} (h : MC g I) : MC g (opn g I) := by
  obtain ⟨a1, a2, a3, a4, a5⟩ := h
  refine ⟨?_, ?_, ?_, ?_, fun q => ?_⟩
  · rw [opn_o 10 (by decide), a1]
  · rw [opn_o 11 (by decide), a2]
  · rw [opn_o 13 (by decide), a3]
  · rw [opn_o 14 (by decide), a4]
  · rw [opn_fx hy P_o_rot (by decide) (by decide), a5]
set_option maxHeartbeats 4000000 in
set_option maxRecDepth 100000 in
theorem s_open0 {g : GG} {I : pI} {J : pJ} {R : pR} (hy : Ly g) (hr : Rf g R) (ht : I (ad g P_o) 1 = 0) : SP g mX11_open [.ref (ad g P_o)] I J R (pu (opn g I) J R) := by
  refine SP_of ⟨by decide, rfl⟩ (Nat.le_of_ble_eq_true rfl) ?_
  have c0 : True := trivial
  refine WP_aload_n dX11_open_0 rfl ?_
  refine WP_aload_n dX11_open_1 rfl ?_
  refine WP_geti dX11_open_2 fX11_75 rfl (ly_is hy _ _ rfl) ?_
  refine WP_puti dX11_open_5 fX11_13 rfl rfl (ly_is hy _ _ rfl) ?_
  refine WP_aload_n dX11_open_8 rfl ?_
  refine WP_iconst (0) dX11_open_9 rfl ?_
  refine WP_puti dX11_open_10 fX11_75 rfl rfl (ly_is hy _ _ rfl) ?_
  refine WP_aload_n dX11_open_13 rfl ?_
  refine WP_iconst (0) dX11_open_14 rfl ?_
  refine WP_puti dX11_open_15 fX11_20 rfl rfl (ly_is hy _ _ rfl) ?_
  refine WP_aload_n dX11_open_18 rfl ?_
  refine WP_iconst (0) dX11_open_19 rfl ?_
  refine WP_puti dX11_open_20 fX11_3 rfl rfl (ly_is hy _ _ rfl) ?_
  refine WP_aload_n dX11_open_23 rfl ?_
  refine WP_iconst (-1) dX11_open_24 rfl ?_
  refine WP_puti dX11_open_25 fX11_10 rfl rfl (ly_is hy _ _ rfl) ?_
  refine WP_aload_n dX11_open_28 rfl ?_
  refine WP_callV0u (k := 11) dX11_open_29 ⟨⟨⟨by decide, by decide⟩, zX11_scan⟩, lX11_63, by decide, rfl, vX11_scan.1, vX11_scan.2⟩ (ly_is hy _ _ rfl) (s_scan0 hy hr (by rw [pp_ne _ _ (Or.inr (by decide)), pp_ne _ _ (Or.inr (by decide)), pp_ne _ _ (Or.inr (by decide)), pp_ne _ _ (Or.inr (by decide)), pp_self]; exact ht) (by rw [pp_ne _ _ (Or.inr (by decide)), pp_ne _ _ (Or.inr (by decide)), pp_self])) (Nat.le_of_ble_eq_true rfl) ?_
  exact WP_vret dX11_open_32 rfl ⟨rfl, by unfold opn; rw [pp_ne (q := 9) _ _ (Or.inr (by decide)), pp_ne (q := 8) _ _ (Or.inr (by decide)), pp_self], rfl, rfl⟩
set_option maxHeartbeats 4000000 in
set_option maxRecDepth 100000 in
theorem fr_book {g : GG} {I : pI} {J : pJ} {R : pR} (hy : Ly g) (hr : Rf g R) (hf : MF g I J)  : SP g mX11_book [.ref (ad g P_o)] I J R (rq (-3)) := by
  refine SP_of ⟨by decide, rfl⟩ (Nat.le_of_ble_eq_true rfl) ?_
  have c0 : True := trivial
  obtain ⟨hmc, h_taped, h_fault, h_faultAt, h_clauses, h_turnsTold, h_held, h_now, h_kept⟩ := hf
  have hmc0 := hmc
  obtain ⟨h_sorts, h_things, h_chestSort, h_storedThing, h_rot⟩ := hmc
  refine WP_aload_n dX11_book_0 rfl ?_
  refine WP_callV0u (k := 11) dX11_book_1 ⟨⟨⟨by decide, by decide⟩, zX11_open⟩, lX11_323, by decide, rfl, vX11_open.1, vX11_open.2⟩ (ly_is hy _ _ rfl) (s_open0 hy hr h_taped) (Nat.le_of_ble_eq_true rfl) ?_
  refine WP_bipush (-3) dX11_book_4 rfl ?_
  refine WP_istore_n (ls' := [(0, _), (1, _)]) dX11_book_6 (by decide) rfl ?_
  refine WP_iconst (0) dX11_book_7 rfl ?_
  refine WP_istore_n (ls' := [(0, _), (1, _), (2, _)]) dX11_book_8 (by decide) rfl ?_
  refine WP_aload_n dX11_book_9 rfl ?_
  refine WP_geti dX11_book_10 fX11_27 rfl (ly_is hy _ _ rfl) ?_
  refine WP_if_eq 153 dX11_book_13 rfl (fun c13 => ?_) (fun c13 => absurd c13 (by rw [opn_hand]; decide))
  refine WP_iload_n dX11_book_153 rfl ?_
  exact WP_iret dX11_book_154 rfl rfl
set_option maxHeartbeats 4000000 in
set_option maxRecDepth 100000 in
theorem fr_values {g : GG} {I : pI} {J : pJ} {R : pR} (hy : Ly g) (hr : Rf g R) (hf : MF g I J)  : SP g mX11_values [.ref (ad g P_o)] I J R (rq 1) := by
  refine SP_of ⟨by decide, rfl⟩ (Nat.le_of_ble_eq_true rfl) ?_
  have c0 : True := trivial
  obtain ⟨hmc, h_taped, h_fault, h_faultAt, h_clauses, h_turnsTold, h_held, h_now, h_kept⟩ := hf
  have hmc0 := hmc
  obtain ⟨h_sorts, h_things, h_chestSort, h_storedThing, h_rot⟩ := hmc
  refine WP_aload_n dX11_values_0 rfl ?_
  refine WP_geti dX11_values_1 fX11_3 rfl (ly_is hy _ _ rfl) ?_
  refine WP_istore_n (ls' := [(0, _), (1, _)]) dX11_values_4 (by decide) rfl ?_
  refine WP_aload_n dX11_values_5 rfl ?_
  refine WP_geti dX11_values_6 fX11_10 rfl (ly_is hy _ _ rfl) ?_
  refine WP_istore_n (ls' := [(0, _), (1, _), (2, _)]) dX11_values_9 (by decide) rfl ?_
  refine WP_aload_n dX11_values_10 rfl ?_
  refine WP_callV0u (k := 11) dX11_values_11 ⟨⟨⟨by decide, by decide⟩, zX11_open⟩, lX11_323, by decide, rfl, vX11_open.1, vX11_open.2⟩ (ly_is hy _ _ rfl) (s_open0 hy hr h_taped) (Nat.le_of_ble_eq_true rfl) ?_
  refine WP_iconst (1) dX11_values_14 rfl ?_
  refine WP_istore_n (ls' := [(0, _), (1, _), (2, _), (3, _)]) dX11_values_15 (by decide) rfl ?_
  refine WP_iconst (0) dX11_values_16 rfl ?_
  refine WP_istore (ls' := [(0, _), (1, _), (2, _), (3, _), (4, _)]) dX11_values_17 (by decide) rfl ?_
  refine WP_iload dX11_values_19 rfl ?_
  refine WP_aload_n dX11_values_21 rfl ?_
  refine WP_geti dX11_values_22 fX11_329 rfl (ly_is hy _ _ rfl) ?_
  refine WP_icmp_ge 98 dX11_values_25 rfl (fun c25 => ?_) (fun c25 => absurd c25 (by rw [opn_o 10 (by decide), h_sorts]; decide))
  refine WP_iload_n dX11_values_98 rfl ?_
  refine WP_if_eq 113 dX11_values_99 rfl (fun c99 => absurd c99 (by decide)) (fun c99 => ?_)
  refine WP_aload_n dX11_values_102 rfl ?_
  refine WP_geti dX11_values_103 fX11_27 rfl (ly_is hy _ _ rfl) ?_
  refine WP_if_ne 113 dX11_values_106 rfl (fun c106 => absurd c106 (by rw [opn_hand]; decide)) (fun c106 => ?_)
  refine WP_iconst (1) dX11_values_109 rfl ?_
  refine WP_goto 114 dX11_values_110 rfl ?_
  refine WP_istore_n (ls' := [(0, _), (1, _), (2, _), (3, _), (4, _)]) dX11_values_114 (by decide) rfl ?_
  refine WP_aload_n dX11_values_115 rfl ?_
  refine WP_iload_n dX11_values_116 rfl ?_
  refine WP_puti dX11_values_117 fX11_3 rfl rfl (ly_is hy _ _ rfl) ?_
  refine WP_aload_n dX11_values_120 rfl ?_
  refine WP_iload_n dX11_values_121 rfl ?_
  refine WP_puti dX11_values_122 fX11_10 rfl rfl (ly_is hy _ _ rfl) ?_
  refine WP_iload_n dX11_values_125 rfl ?_
  refine WP_if_ne 131 dX11_values_126 rfl (fun c126 => ?_) (fun c126 => absurd c126 (by decide))
  refine WP_iconst (0) dX11_values_131 rfl ?_
  refine WP_istore (ls' := [(0, _), (1, _), (2, _), (3, _), (4, _)]) dX11_values_132 (by decide) rfl ?_
  refine WP_iload dX11_values_134 rfl ?_
  refine WP_aload_n dX11_values_136 rfl ?_
  refine WP_geti dX11_values_137 fX11_329 rfl (ly_is hy _ _ rfl) ?_
  refine WP_icmp_ge 183 dX11_values_140 rfl (fun c140 => ?_) (fun c140 => absurd c140 (by rw [pp_ne _ _ (Or.inr (by decide)), pp_ne _ _ (Or.inr (by decide)), opn_o 10 (by decide), h_sorts]; decide))
  refine WP_iconst (1) dX11_values_183 rfl ?_
  exact WP_iret dX11_values_184 rfl rfl
