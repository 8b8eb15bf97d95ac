set_option maxHeartbeats 4000000 in
set_option maxRecDepth 100000 in
theorem x_rewind {g : GG} {I : pI} {J : pJ} {R : pR} (hy : LyX g) (hr : RfX g R)  : SP g mX5_rewind [.ref (ad g P_tape)] I J R (pu (pp I (ad g P_tape) 6 0) J R) := by
  refine SP_of ⟨by decide, rfl⟩ (Nat.le_of_ble_eq_true rfl) ?_
  have c0 : True := trivial
  refine WP_aload_n dX5_rewind_0 rfl ?_
  refine WP_iconst (0) dX5_rewind_1 rfl ?_
  refine WP_puti dX5_rewind_2 fX5_19 rfl rfl (lyx_is hy _ _ rfl) ?_
  exact WP_vret dX5_rewind_5 rfl ⟨rfl, rfl, rfl, rfl⟩
set_option maxHeartbeats 4000000 in
set_option maxRecDepth 100000 in
theorem x_next0 {g : GG} {I : pI} {J : pJ} {R : pR} (hy : LyX g) (hr : RfX g R) (hl : I (ad g P_tape) 1 = 0) (ha : I (ad g P_tape) 6 = 0) : SP g mX5_next [.ref (ad g P_tape)] I J R (pu (pp (pp I (ad g P_tape) 3 (I (ad g P_tape) 6)) (ad g P_tape) 2 0) J R) := by
  refine SP_of ⟨by decide, rfl⟩ (Nat.le_of_ble_eq_true rfl) ?_
  have c0 : True := trivial
  refine WP_aload_n dX5_next_0 rfl ?_
  refine WP_geti dX5_next_1 fX5_19 rfl (lyx_is hy _ _ rfl) ?_
  refine WP_aload_n dX5_next_4 rfl ?_
  refine WP_geti dX5_next_5 fX5_15 rfl (lyx_is hy _ _ rfl) ?_
  refine WP_icmp_ge 52 dX5_next_8 rfl (fun c8 => ?_) (fun c8 => absurd c8 (by rw [hl, ha]; decide))
  refine WP_aload_n dX5_next_52 rfl ?_
  refine WP_aload_n dX5_next_53 rfl ?_
  refine WP_geti dX5_next_54 fX5_19 rfl (lyx_is hy _ _ rfl) ?_
  refine WP_puti dX5_next_57 fX5_22 rfl rfl (lyx_is hy _ _ rfl) ?_
  refine WP_aload_n dX5_next_60 rfl ?_
  refine WP_geti dX5_next_61 fX5_19 rfl (lyx_is hy _ _ rfl) ?_
  refine WP_aload_n dX5_next_64 rfl ?_
  refine WP_geti dX5_next_65 fX5_15 rfl (lyx_is hy _ _ rfl) ?_
  refine WP_icmp_lt 79 dX5_next_68 rfl (fun c68 => absurd c68 (by rw [pp_ne _ _ (Or.inr (by decide)), pp_ne _ _ (Or.inr (by decide)), hl, ha]; decide)) (fun c68 => ?_)
  refine WP_aload_n dX5_next_71 rfl ?_
  refine WP_iconst (0) dX5_next_72 rfl ?_
  refine WP_puti dX5_next_73 fX5_25 rfl rfl (lyx_is hy _ _ rfl) ?_
  refine WP_goto 156 dX5_next_76 rfl ?_
  exact WP_vret dX5_next_156 rfl ⟨rfl, rfl, rfl, rfl⟩
set_option maxHeartbeats 4000000 in
set_option maxRecDepth 100000 in
theorem x_note0 {g : GG} {I : pI} {J : pJ} {R : pR} (hy : LyX g) (hr : RfX g R)  : SP g mX3_note [.ref (ad g P_reader), .int 0] I J R (pu (pp (pp I (ad g P_reader) 0 0) (ad g P_reader) 1 (-1)) J R) := by
  refine SP_of ⟨by decide, rfl⟩ (Nat.le_of_ble_eq_true rfl) ?_
  have c0 : True := trivial
  refine WP_aload_n dX3_note_0 rfl ?_
  refine WP_iload_n dX3_note_1 rfl ?_
  refine WP_puti dX3_note_2 fX3_19 rfl rfl (lyx_is hy _ _ rfl) ?_
  refine WP_aload_n dX3_note_5 rfl ?_
  refine WP_iload_n dX3_note_6 rfl ?_
  refine WP_if_ne 14 dX3_note_7 rfl (fun c7 => absurd c7 (by decide)) (fun c7 => ?_)
  refine WP_iconst (-1) dX3_note_10 rfl ?_
  refine WP_goto 21 dX3_note_11 rfl ?_
  refine WP_puti dX3_note_21 fX3_23 rfl rfl (lyx_is hy _ _ rfl) ?_
  exact WP_vret dX3_note_24 rfl ⟨rfl, rfl, rfl, rfl⟩
set_option maxHeartbeats 4000000 in
set_option maxRecDepth 100000 in
theorem x_readBook0 {g : GG} {I : pI} {J : pJ} {R : pR} (hy : LyX g) (hr : RfX g R) (hl : I (ad g P_tape) 1 = 0) : SP g mX3_readBook [.ref (ad g P_reader), .ref (ad g P_ta)] I J R (fun r I' J' R' => r = some (.int (-3)) ∧ R' = R) := by
  refine SP_of ⟨by decide, rfl⟩ (Nat.le_of_ble_eq_true rfl) ?_
  have c0 : True := trivial
  refine WP_bipush (-3) dX3_readBook_0 rfl ?_
  refine WP_istore_n (ls' := [(0, _), (1, _), (2, _)]) dX3_readBook_2 (by decide) rfl ?_
  refine WP_aload_n dX3_readBook_3 rfl ?_
  refine WP_iconst (0) dX3_readBook_4 rfl ?_
  refine WP_callV1u (k := 3) dX3_readBook_5 ⟨⟨⟨by decide, by decide⟩, zX3_note⟩, lX3_31, by decide, rfl, vX3_note.1, vX3_note.2⟩ (lyx_is hy _ _ rfl) (x_note0 hy hr) (Nat.le_of_ble_eq_true rfl) ?_
  refine WP_aload_n dX3_readBook_8 rfl ?_
  refine WP_getr dX3_readBook_9 fX3_15 rfl (lyx_is hy _ _ rfl) (rfx hr 3 2 1 (by decide)) ?_
  refine WP_callV0u (k := 5) dX3_readBook_12 ⟨⟨⟨by decide, by decide⟩, zX5_rewind⟩, lX3_35, by decide, rfl, vX5_rewind.1, vX5_rewind.2⟩ (lyx_is hy _ _ rfl) (x_rewind hy hr) (Nat.le_of_ble_eq_true rfl) ?_
  refine WP_iconst (0) dX3_readBook_15 rfl ?_
  refine WP_istore_n (ls' := [(0, _), (1, _), (2, _), (3, _)]) dX3_readBook_16 (by decide) rfl ?_
  refine WP_iload_n dX3_readBook_17 rfl ?_
  refine WP_sipush (900) dX3_readBook_18 rfl ?_
  refine WP_icmp_gt 91 dX3_readBook_21 rfl (fun c21 => absurd c21 (by decide)) (fun c21 => ?_)
  refine WP_aload_n dX3_readBook_24 rfl ?_
  refine WP_getr dX3_readBook_25 fX3_15 rfl (lyx_is hy _ _ rfl) (rfx hr 3 2 1 (by decide)) ?_
  refine WP_callV0u (k := 5) dX3_readBook_28 ⟨⟨⟨by decide, by decide⟩, zX5_next⟩, lX3_40, by decide, rfl, vX5_next.1, vX5_next.2⟩ (lyx_is hy _ _ rfl) (x_next0 hy hr (by rw [pp_ne _ _ (Or.inr (by decide)), pp_off _ _ (lyx_ne hy (show P_tape ≠ P_reader by decide) (by decide) (by decide)), pp_off _ _ (lyx_ne hy (show P_tape ≠ P_reader by decide) (by decide) (by decide))]; exact hl) (by rw [pp_self])) (Nat.le_of_ble_eq_true rfl) ?_
  refine WP_aload_n dX3_readBook_31 rfl ?_
  refine WP_getr dX3_readBook_32 fX3_15 rfl (lyx_is hy _ _ rfl) (rfx hr 3 2 1 (by decide)) ?_
  refine WP_geti dX3_readBook_35 fX3_43 rfl (lyx_is hy _ _ rfl) ?_
  refine WP_if_ne 44 dX3_readBook_38 rfl (fun c38 => absurd c38 (by rw [pp_self]; decide)) (fun c38 => ?_)
  refine WP_goto 91 dX3_readBook_41 rfl ?_
  refine WP_iload_n dX3_readBook_91 rfl ?_
  exact WP_iret dX3_readBook_92 rfl ⟨rfl, rfl⟩
set_option maxHeartbeats 4000000 in
set_option maxRecDepth 100000 in
theorem xr_book {g : GG} {I : pI} {J : pJ} {R : pR} (hy : LyX g) (hr : RfX g R) (hf : XF g I J R)  : SP g mX10_book [.ref (ad g P_x)] I J R (rq (-3)) := by
  refine SP_of ⟨by decide, rfl⟩ (Nat.le_of_ble_eq_true rfl) ?_
  have c0 : True := trivial
  have hf0 := hf
  obtain ⟨hxc, h_length, h_kind, h_place, h_clauses, h_turns, h_days, h_chestC, h_bought, h_held, h_cost0, h_s0, h_s1, h_s2, h_spare, h_loss, h_mloss, h_stamps⟩ := hf
  have hxc0 := hxc
  obtain ⟨h_town, h_sorts, h_things, h_chest, h_stored⟩ := hxc
  refine WP_aload_n dX10_book_0 rfl ?_
  refine WP_getr dX10_book_1 fX10_21 rfl (lyx_is hy _ _ rfl) (rfx hr 0 1 3 (by decide)) ?_
  refine WP_aload_n dX10_book_4 rfl ?_
  refine WP_getr dX10_book_5 fX10_33 rfl (lyx_is hy _ _ rfl) (rfx hr 0 2 5 (by decide)) ?_
  refine WP_getr dX10_book_8 fX10_102 rfl (lyx_is hy _ _ rfl) h_town ?_
  refine WP_callV1 (k := 3) dX10_book_11 ⟨⟨⟨by decide, by decide⟩, zX3_readBook⟩, lX10_328, by decide, rfl, vX3_readBook.1, vX3_readBook.2⟩ (lyx_is hy _ _ rfl) (x_readBook0 hy hr h_length) (Nat.le_of_ble_eq_true rfl) ?_
  rintro r I3 J3 R3 ⟨rfl, eR⟩
  rw [eR]
  simp only [Option.toList, List.cons_append, List.nil_append]
  refine WP_istore_n (ls' := [(0, _), (1, _)]) dX10_book_14 (by decide) rfl ?_
  refine WP_aload_n dX10_book_15 rfl ?_
  refine WP_getr dX10_book_16 fX10_12 rfl (lyx_is hy _ _ rfl) (rfx hr 0 0 1 (by decide)) ?_
  refine WP_iconst (0) dX10_book_19 rfl ?_
  refine WP_puti dX10_book_20 fX10_90 rfl rfl (lyx_is hy _ _ rfl) ?_
  refine WP_iload_n dX10_book_23 rfl ?_
  exact WP_iret dX10_book_24 rfl rfl
set_option maxHeartbeats 4000000 in
set_option maxRecDepth 100000 in
theorem x_readValues0 {g : GG} {I : pI} {J : pJ} {R : pR} (hy : LyX g) (hr : RfX g R) (hl : I (ad g P_tape) 1 = 0) (hs0 : I (ad g P_ta) 1 = 0) : SP g mX3_readValues [.ref (ad g P_reader), .ref (ad g P_ta), .ref (ad g P_meeting_draft)] I J R (fun r I' J' R' => r = some (.int 1) ∧ R' = R) := by
  refine SP_of ⟨by decide, rfl⟩ (Nat.le_of_ble_eq_true rfl) ?_
  have c0 : True := trivial
  refine WP_aload_n dX3_readValues_0 rfl ?_
  refine WP_getr dX3_readValues_1 fX3_15 rfl (lyx_is hy _ _ rfl) (rfx hr 3 2 1 (by decide)) ?_
  refine WP_callV0u (k := 5) dX3_readValues_4 ⟨⟨⟨by decide, by decide⟩, zX5_rewind⟩, lX3_35, by decide, rfl, vX5_rewind.1, vX5_rewind.2⟩ (lyx_is hy _ _ rfl) (x_rewind hy hr) (Nat.le_of_ble_eq_true rfl) ?_
  refine WP_iconst (0) dX3_readValues_7 rfl ?_
  refine WP_istore_n (ls' := [(0, _), (1, _), (2, _), (3, _)]) dX3_readValues_8 (by decide) rfl ?_
  refine WP_iload_n dX3_readValues_9 rfl ?_
  refine WP_aload_n dX3_readValues_10 rfl ?_
  refine WP_geti dX3_readValues_11 fX3_66 rfl (lyx_is hy _ _ rfl) ?_
  refine WP_icmp_ge 76 dX3_readValues_14 rfl (fun c14 => ?_) (fun c14 => absurd c14 (by rw [pp_off _ _ (lyx_ne hy (show P_ta ≠ P_tape by decide) (by decide) (by decide)), hs0]; decide))
  refine WP_aload_n dX3_readValues_76 rfl ?_
  refine WP_getr dX3_readValues_77 fX3_15 rfl (lyx_is hy _ _ rfl) (rfx hr 3 2 1 (by decide)) ?_
  refine WP_callV0u (k := 5) dX3_readValues_80 ⟨⟨⟨by decide, by decide⟩, zX5_next⟩, lX3_40, by decide, rfl, vX5_next.1, vX5_next.2⟩ (lyx_is hy _ _ rfl) (x_next0 hy hr (by rw [pp_ne _ _ (Or.inr (by decide))]; exact hl) (by rw [pp_self])) (Nat.le_of_ble_eq_true rfl) ?_
  refine WP_aload_n dX3_readValues_83 rfl ?_
  refine WP_getr dX3_readValues_84 fX3_15 rfl (lyx_is hy _ _ rfl) (rfx hr 3 2 1 (by decide)) ?_
  refine WP_geti dX3_readValues_87 fX3_43 rfl (lyx_is hy _ _ rfl) ?_
  refine WP_if_ne 97 dX3_readValues_90 rfl (fun c90 => absurd c90 (by rw [pp_self]; decide)) (fun c90 => ?_)
  refine WP_iconst (1) dX3_readValues_93 rfl ?_
  refine WP_goto 98 dX3_readValues_94 rfl ?_
  exact WP_zret dX3_readValues_98 rfl rfl ⟨rfl, rfl⟩
set_option maxHeartbeats 4000000 in
set_option maxRecDepth 100000 in
theorem x_takeDraft {g : GG} {I : pI} {J : pJ} {R : pR} (hy : LyX g) (hr : RfX g R)  : SP g mX1_takeDraft [.ref (ad g P_meeting)] I J R (fun r I' J' R' => r = none ∧ R' = R) := by
  refine SP_of ⟨by decide, rfl⟩ (Nat.le_of_ble_eq_true rfl) ?_
  have c0 : True := trivial
  refine WP_aload_n dX1_takeDraft_0 rfl ?_
  refine WP_getr dX1_takeDraft_1 fX1_9 rfl (lyx_is hy _ _ rfl) (rfx hr 71 2 72 (by decide)) ?_
  refine WP_iconst (0) dX1_takeDraft_4 rfl ?_
  refine WP_aload_n dX1_takeDraft_5 rfl ?_
  refine WP_getr dX1_takeDraft_6 fX1_15 rfl (lyx_is hy _ _ rfl) (rfx hr 71 3 73 (by decide)) ?_
  refine WP_iconst (0) dX1_takeDraft_9 rfl ?_
  refine WP_aload_n dX1_takeDraft_10 rfl ?_
  refine WP_getr dX1_takeDraft_11 fX1_15 rfl (lyx_is hy _ _ rfl) (rfx hr 71 3 73 (by decide)) ?_
  refine WP_alen dX1_takeDraft_14 (lyx_is hy _ _ rfl) (by decide) ?_
  rw [lyx_n hy _ _ rfl]
  refine WP_copyi dX1_takeDraft_15 lX1_28 ⟨by decide, Nat.le_of_ble_eq_true rfl⟩ (lyx_is hy _ _ rfl) (lyx_is hy _ _ rfl) (by decide) (by decide) (by decide) (by rw [lyx_n hy _ _ rfl]; decide) (by rw [lyx_n hy _ _ rfl]; decide) ?_
  exact WP_vret dX1_takeDraft_18 rfl ⟨rfl, rfl⟩
set_option maxHeartbeats 4000000 in
set_option maxRecDepth 100000 in
theorem xr_values {g : GG} {I : pI} {J : pJ} {R : pR} (hy : LyX g) (hr : RfX g R) (hf : XF g I J R)  : SP g mX10_values [.ref (ad g P_x)] I J R (rq 1) := by
  refine SP_of ⟨by decide, rfl⟩ (Nat.le_of_ble_eq_true rfl) ?_
  have c0 : True := trivial
  have hf0 := hf
  obtain ⟨hxc, h_length, h_kind, h_place, h_clauses, h_turns, h_days, h_chestC, h_bought, h_held, h_cost0, h_s0, h_s1, h_s2, h_spare, h_loss, h_mloss, h_stamps⟩ := hf
  have hxc0 := hxc
  obtain ⟨h_town, h_sorts, h_things, h_chest, h_stored⟩ := hxc
  refine WP_aload_n dX10_values_0 rfl ?_
  refine WP_getr dX10_values_1 fX10_21 rfl (lyx_is hy _ _ rfl) (rfx hr 0 1 3 (by decide)) ?_
  refine WP_aload_n dX10_values_4 rfl ?_
  refine WP_getr dX10_values_5 fX10_33 rfl (lyx_is hy _ _ rfl) (rfx hr 0 2 5 (by decide)) ?_
  refine WP_getr dX10_values_8 fX10_102 rfl (lyx_is hy _ _ rfl) h_town ?_
  refine WP_aload_n dX10_values_11 rfl ?_
  refine WP_getr dX10_values_12 fX10_83 rfl (lyx_is hy _ _ rfl) (rfx hr 0 9 71 (by decide)) ?_
  refine WP_getr dX10_values_15 fX10_296 rfl (lyx_is hy _ _ rfl) (rfx hr 71 2 72 (by decide)) ?_
  refine WP_callV2 (k := 3) dX10_values_18 ⟨⟨⟨by decide, by decide⟩, zX3_readValues⟩, lX10_299, by decide, rfl, vX3_readValues.1, vX3_readValues.2⟩ (lyx_is hy _ _ rfl) (x_readValues0 hy hr h_length h_sorts) (Nat.le_of_ble_eq_true rfl) ?_
  rintro r I3 J3 R3 ⟨rfl, eR⟩
  rw [eR]
  simp only [Option.toList, List.cons_append, List.nil_append]
  refine WP_istore_n (ls' := [(0, _), (1, _)]) dX10_values_21 (by decide) rfl ?_
  refine WP_aload_n dX10_values_22 rfl ?_
  refine WP_getr dX10_values_23 fX10_12 rfl (lyx_is hy _ _ rfl) (rfx hr 0 0 1 (by decide)) ?_
  refine WP_iconst (0) dX10_values_26 rfl ?_
  refine WP_puti dX10_values_27 fX10_90 rfl rfl (lyx_is hy _ _ rfl) ?_
  refine WP_iload_n dX10_values_30 rfl ?_
  refine WP_if_ne 36 dX10_values_31 rfl (fun c31 => ?_) (fun c31 => absurd c31 (by decide))
  refine WP_aload_n dX10_values_36 rfl ?_
  refine WP_getr dX10_values_37 fX10_83 rfl (lyx_is hy _ _ rfl) (rfx hr 0 9 71 (by decide)) ?_
  refine WP_callV0 (k := 1) dX10_values_40 ⟨⟨⟨by decide, by decide⟩, zX1_takeDraft⟩, lX10_303, by decide, rfl, vX1_takeDraft.1, vX1_takeDraft.2⟩ (lyx_is hy _ _ rfl) (x_takeDraft hy hr) (Nat.le_of_ble_eq_true rfl) ?_
  rintro r I4 J4 R4 ⟨rfl, eR2⟩
  rw [eR2]
  simp only [Option.toList, List.cons_append, List.nil_append]
  refine WP_iconst (1) dX10_values_43 rfl ?_
  exact WP_iret dX10_values_44 rfl rfl
set_option maxHeartbeats 4000000 in
set_option maxRecDepth 100000 in
theorem xr_meet {g : GG} {I : pI} {J : pJ} {R : pR} (hy : LyX g) (hr : RfX g R) (hf : XF g I J R) (a b c e f h : Int32) : SP g mX10_meet [.ref (ad g P_x), .int a, .int b, .int c, .int e, .int f, .int h] I J R (rq (-1000000)) := by
  refine SP_of ⟨by decide, rfl⟩ (Nat.le_of_ble_eq_true rfl) ?_
  have c0 : True := trivial
  have hf0 := hf
  obtain ⟨hxc, h_length, h_kind, h_place, h_clauses, h_turns, h_days, h_chestC, h_bought, h_held, h_cost0, h_s0, h_s1, h_s2, h_spare, h_loss, h_mloss, h_stamps⟩ := hf
  have hxc0 := hxc
  obtain ⟨h_town, h_sorts, h_things, h_chest, h_stored⟩ := hxc
  refine WP_aload_n dX10_meet_0 rfl ?_
  refine WP_iload_n dX10_meet_1 rfl ?_
  refine WP_callV1p (k := 10) dX10_meet_2 ⟨⟨⟨by decide, by decide⟩, zX10_isSort⟩, lX10_152, by decide, rfl, vX10_isSort.1, vX10_isSort.2⟩ (lyx_is hy _ _ rfl) (x_isSort hy hr hxc0 _) (Nat.le_of_ble_eq_true rfl) ?_
  refine WP_if_eq 39 dX10_meet_5 rfl (fun c5 => ?_) (fun c5 => absurd c5 (fun h => h rfl))
  refine WP_ldcw (-1000000) dX10_meet_39 kX10_309 ?_
  exact WP_iret dX10_meet_42 rfl rfl
set_option maxHeartbeats 4000000 in
set_option maxRecDepth 100000 in
theorem x_start0 {g : GG} {I : pI} {J : pJ} {R : pR} (hy : LyX g) (hr : RfX g R) (b c : Int32) (hs0 : I (ad g P_ta) 1 = 0) : SP g mX1_start [.ref (ad g P_meeting), .ref (ad g P_ta), .int b, .int c] I J R (fun r I' J' R' => r = none ∧ I' (ad g P_meeting) 4 = 0 ∧ I' (ad g P_ta) 1 = 0 ∧ R' = R) := by
  refine SP_of ⟨by decide, rfl⟩ (Nat.le_of_ble_eq_true rfl) ?_
  have c0 : True := trivial
  have hd : ad g P_ta ≠ ad g P_meeting := lyx_ne hy (by decide) (by decide) (by decide)
  refine WP_iconst (0) dX1_start_0 rfl ?_
  refine WP_istore (ls' := [(0, _), (1, _), (2, _), (3, _), (4, _)]) dX1_start_1 (by decide) rfl ?_
  refine WP_iconst (0) dX1_start_3 rfl ?_
  refine WP_istore (ls' := [(0, _), (1, _), (2, _), (3, _), (4, _), (5, _)]) dX1_start_4 (by decide) rfl ?_
  refine WP_iconst (0) dX1_start_6 rfl ?_
  refine WP_istore (ls' := [(0, _), (1, _), (2, _), (3, _), (4, _), (5, _), (6, _)]) dX1_start_7 (by decide) rfl ?_
  refine WP_iload dX1_start_9 rfl ?_
  refine WP_aload_n dX1_start_11 rfl ?_
  refine WP_geti dX1_start_12 fX1_34 rfl (lyx_is hy _ _ rfl) ?_
  refine WP_icmp_ge 55 dX1_start_15 rfl (fun c15 => ?_) (fun c15 => absurd c15 (by rw [hs0]; decide))
  refine WP_aload_n dX1_start_55 rfl ?_
  refine WP_aload_n dX1_start_56 rfl ?_
  refine WP_geti dX1_start_57 fX1_34 rfl (lyx_is hy _ _ rfl) ?_
  refine WP_puti dX1_start_60 fX1_18 rfl rfl (lyx_is hy _ _ rfl) ?_
  refine WP_aload_n dX1_start_63 rfl ?_
  refine WP_iload_n dX1_start_64 rfl ?_
  refine WP_puti dX1_start_65 fX1_40 rfl rfl (lyx_is hy _ _ rfl) ?_
  refine WP_aload_n dX1_start_68 rfl ?_
  refine WP_bipush (10) dX1_start_69 rfl ?_
  refine WP_iload_n dX1_start_71 rfl ?_
  refine WP_imul dX1_start_72 ?_
  refine WP_i2l dX1_start_73 ?_
  refine WP_putl dX1_start_74 fX1_43 rfl rfl (lyx_is hy _ _ rfl) ?_
  refine WP_aload_n dX1_start_77 rfl ?_
  refine WP_iload dX1_start_78 rfl ?_
  refine WP_iconst (1) dX1_start_80 rfl ?_
  refine WP_icmp_ge 88 dX1_start_81 rfl (fun c81 => absurd c81 (by decide)) (fun c81 => ?_)
  refine WP_lconst (0) dX1_start_84 rfl ?_
  refine WP_goto 100 dX1_start_85 rfl ?_
  refine WP_putl dX1_start_100 fX1_47 rfl rfl (lyx_is hy _ _ rfl) ?_
  exact WP_vret dX1_start_103 rfl ⟨rfl, (by rw [pp_ne _ _ (Or.inr (by decide)), pp_self, hs0]), (by rw [pp_off _ _ hd, pp_off _ _ hd, hs0]), rfl⟩
set_option maxHeartbeats 4000000 in
set_option maxRecDepth 100000 in
theorem x_isAtRest0 {g : GG} {I : pI} {J : pJ} {R : pR} (hy : LyX g) (hr : RfX g R) (b c : Int32) (hs0 : I (ad g P_meeting) 4 = 0) : SP g mX1_isAtRest [.ref (ad g P_meeting), .int b, .int c] I J R (pq (.int 1) I J R) := by
  refine SP_of ⟨by decide, rfl⟩ (Nat.le_of_ble_eq_true rfl) ?_
  have c0 : True := trivial
  refine WP_iconst (0) dX1_isAtRest_0 rfl ?_
  refine WP_istore_n (ls' := [(0, _), (1, _), (2, _), (3, _)]) dX1_isAtRest_1 (by decide) rfl ?_
  refine WP_iload_n dX1_isAtRest_2 rfl ?_
  refine WP_aload_n dX1_isAtRest_3 rfl ?_
  refine WP_geti dX1_isAtRest_4 fX1_18 rfl (lyx_is hy _ _ rfl) ?_
  refine WP_icmp_ge 81 dX1_isAtRest_7 rfl (fun c7 => ?_) (fun c7 => absurd c7 (by rw [hs0]; decide))
  refine WP_iconst (1) dX1_isAtRest_81 rfl ?_
  exact WP_zret dX1_isAtRest_82 rfl rfl ⟨rfl, rfl, rfl, rfl⟩
set_option maxHeartbeats 4000000 in
set_option maxRecDepth 100000 in
theorem xr_rests {g : GG} {I : pI} {J : pJ} {R : pR} (hy : LyX g) (hr : RfX g R) (hf : XF g I J R) (a b c : Int32) : SP g mX10_rests [.ref (ad g P_x), .int a, .int b, .int c] I J R (rq (if (0 ≤ a.toInt ∧ a.toInt ≤ 100) ∧ (0 ≤ b.toInt ∧ b.toInt ≤ 900) ∧ (0 ≤ c.toInt ∧ c.toInt ≤ 40) then 1 else -2)) := by
  refine SP_of ⟨by decide, rfl⟩ (Nat.le_of_ble_eq_true rfl) ?_
  have c0 : True := trivial
  have hf0 := hf
  obtain ⟨hxc, h_length, h_kind, h_place, h_clauses, h_turns, h_days, h_chestC, h_bought, h_held, h_cost0, h_s0, h_s1, h_s2, h_spare, h_loss, h_mloss, h_stamps⟩ := hf
  have hxc0 := hxc
  obtain ⟨h_town, h_sorts, h_things, h_chest, h_stored⟩ := hxc
  refine WP_iload_n dX10_rests_0 rfl ?_
  refine WP_iload_n dX10_rests_1 rfl ?_
  refine WP_iload_n dX10_rests_2 rfl ?_
  refine WP_callS3p dX10_rests_3 ⟨⟨⟨by decide, by decide⟩, zX10_isMeeting⟩, lX10_306, tX10_isMeeting⟩ (x_isMeeting hy hr _ _ _) (Nat.le_of_ble_eq_true rfl) ?_
  refine WP_ifb_ne 12 dX10_rests_6 rfl (fun c6 => ?_) (fun c6 => ?_)
  · refine WP_iconst (1) dX10_rests_12 rfl ?_
    refine WP_aload_n dX10_rests_13 rfl ?_
    refine WP_getr dX10_rests_14 fX10_33 rfl (lyx_is hy _ _ rfl) (rfx hr 0 2 5 (by decide)) ?_
    refine WP_getr dX10_rests_17 fX10_102 rfl (lyx_is hy _ _ rfl) h_town ?_
    refine WP_geti dX10_rests_20 fX10_114 rfl (lyx_is hy _ _ rfl) ?_
    refine WP_ishl dX10_rests_23 ?_
    rw [h_sorts]
    refine WP_istore (ls' := [(0, _), (1, _), (2, _), (3, _), (4, _)]) dX10_rests_24 (by decide) rfl ?_
    refine WP_iconst (0) dX10_rests_26 rfl ?_
    refine WP_istore (ls' := [(0, _), (1, _), (2, _), (3, _), (4, _), (5, _)]) dX10_rests_27 (by decide) rfl ?_
    refine WP_iconst (0) dX10_rests_29 rfl ?_
    refine WP_istore (ls' := [(0, _), (1, _), (2, _), (3, _), (4, _), (5, _), (6, _)]) dX10_rests_30 (by decide) rfl ?_
    refine WP_iload dX10_rests_32 rfl ?_
    refine WP_iload dX10_rests_34 rfl ?_
    refine WP_icmp_ge 83 dX10_rests_36 rfl (fun c36 => absurd c36 (by decide)) (fun c36 => ?_)
    refine WP_aload_n dX10_rests_39 rfl ?_
    refine WP_getr dX10_rests_40 fX10_83 rfl (lyx_is hy _ _ rfl) (rfx hr 0 9 71 (by decide)) ?_
    refine WP_aload_n dX10_rests_43 rfl ?_
    refine WP_getr dX10_rests_44 fX10_33 rfl (lyx_is hy _ _ rfl) (rfx hr 0 2 5 (by decide)) ?_
    refine WP_getr dX10_rests_47 fX10_102 rfl (lyx_is hy _ _ rfl) h_town ?_
    refine WP_iload dX10_rests_50 rfl ?_
    refine WP_iload_n dX10_rests_52 rfl ?_
    refine WP_callV3 (k := 1) dX10_rests_53 ⟨⟨⟨by decide, by decide⟩, zX1_start⟩, lX10_310, by decide, rfl, vX1_start.1, vX1_start.2⟩ (lyx_is hy _ _ rfl) (x_start0 hy hr _ _ h_sorts) (Nat.le_of_ble_eq_true rfl) ?_
    rintro r I3 J3 R3 ⟨rfl, hm3, hs3, eR⟩
    rw [eR]
    simp only [Option.toList, List.cons_append, List.nil_append]
    refine WP_aload_n dX10_rests_56 rfl ?_
    refine WP_getr dX10_rests_57 fX10_83 rfl (lyx_is hy _ _ rfl) (rfx hr 0 9 71 (by decide)) ?_
    refine WP_iload_n dX10_rests_60 rfl ?_
    refine WP_iload_n dX10_rests_61 rfl ?_
    refine WP_callV2p (k := 1) dX10_rests_62 ⟨⟨⟨by decide, by decide⟩, zX1_isAtRest⟩, lX10_325, by decide, rfl, vX1_isAtRest.1, vX1_isAtRest.2⟩ (lyx_is hy _ _ rfl) (x_isAtRest0 hy hr _ _ hm3) (Nat.le_of_ble_eq_true rfl) ?_
    refine WP_if_eq 77 dX10_rests_65 rfl (fun c65 => absurd c65 (by decide)) (fun c65 => ?_)
    refine WP_iload dX10_rests_68 rfl ?_
    refine WP_iconst (1) dX10_rests_70 rfl ?_
    refine WP_iload dX10_rests_71 rfl ?_
    refine WP_ishl dX10_rests_73 ?_
    refine WP_ior dX10_rests_74 ?_
    refine WP_istore (ls' := [(0, _), (1, _), (2, _), (3, _), (4, _), (5, _), (6, _)]) dX10_rests_75 (by decide) rfl ?_
    refine WP_iinc (ls' := [(0, _), (1, _), (2, _), (3, _), (4, _), (5, _), (6, _)]) dX10_rests_77 rfl (by decide) rfl ?_
    refine WP_goto 32 dX10_rests_80 rfl ?_
    refine WP_iload dX10_rests_32 rfl ?_
    refine WP_iload dX10_rests_34 rfl ?_
    refine WP_icmp_ge 83 dX10_rests_36 rfl (fun c36 => ?_) (fun c36 => absurd c36 (by decide))
    refine WP_iload dX10_rests_83 rfl ?_
    exact WP_iret dX10_rests_85 rfl (by unfold rq; rw [if_pos c6]; rfl)
  · refine WP_bipush (-2) dX10_rests_9 rfl ?_
    exact WP_iret dX10_rests_11 rfl (by unfold rq; rw [if_neg c6])
set_option maxHeartbeats 4000000 in
set_option maxRecDepth 100000 in
theorem x_stampsOf {g : GG} {I : pI} {J : pJ} {R : pR} (hy : LyX g) (hr : RfX g R) (a b : Int32) : SP g mX10_stampsOf [.int a, .int b] I J R (pq (.int ((a * b + 999) / 1000)) I J R) := by
  refine SP_of ⟨by decide, rfl⟩ (Nat.le_of_ble_eq_true rfl) ?_
  have c0 : True := trivial
  refine WP_iload_n dX10_stampsOf_0 rfl ?_
  refine WP_iload_n dX10_stampsOf_1 rfl ?_
  refine WP_imul dX10_stampsOf_2 ?_
  refine WP_sipush (999) dX10_stampsOf_3 rfl ?_
  refine WP_iadd dX10_stampsOf_6 ?_
  refine WP_sipush (1000) dX10_stampsOf_7 rfl ?_
  refine WP_idiv dX10_stampsOf_10 (by decide) ?_
  exact WP_iret dX10_stampsOf_11 rfl ⟨rfl, rfl, rfl, rfl⟩
set_option maxHeartbeats 4000000 in
set_option maxRecDepth 100000 in
theorem l_held {g : GG} {I : pI} {J : pJ} {R : pR} (hy : LyX g) (hr : RfX g R) (hz : ∀ q, I (ad g P_market_losses) q = 0) (a : Int32) : ∀ (m k : Nat) (I2 : pI), k + m = 7 → I2 = I → WP g mX0_heldForWeek 4 [(0, .ref (ad g P_market)), (1, .int a), (2, .int a), (3, .int (nI k))] [] I2 J R (pq (.int a) I J R) := by
  intro m
  induction m with
  | zero =>
    intro k I2 hk hv
    have hkt : (nI k).toInt = (k : Int) := nI_toInt (by omega)
    have c0 : True := trivial
    refine WP_iload_n dX0_heldForWeek_4 rfl ?_
    refine WP_bipush (7) dX0_heldForWeek_5 rfl ?_
    refine WP_icmp_ge 29 dX0_heldForWeek_7 rfl (fun c7 => ?_) (fun c7 => absurd c7 (by intro cc; (try simp only [hkt, hkt] at cc); (all_goals (try simp only [cmp_lt, cmp_gt] at cc)); (all_goals (try simp only [le32, lt32, eq32, t64, Int32.reduceToInt, Int64.reduceToInt] at cc)); (all_goals (try simp (disch := ((try simp (disch := ((try simp (disch := omega) only [ia, is', im, ja, js, ir, idv, Int32.reduceToInt, Int64.reduceToInt, t64]); omega)) only [ia, is', im, ja, js, ir, idv, Int32.reduceToInt, Int64.reduceToInt, t64]); omega)) only [ia, is', im, ja, js, ir, idv, Int32.reduceToInt, Int64.reduceToInt, t64] at cc)); (all_goals (try simp only [hkt, hkt] at cc)); (all_goals (try simp only [not_true_eq_false, eq_self] at cc)); all_goals omega))
    refine WP_iload_n dX0_heldForWeek_29 rfl ?_
    exact WP_iret dX0_heldForWeek_30 rfl ⟨rfl, hv, rfl, rfl⟩
  | succ m ih =>
    intro k I2 hk hv
    have hkt : (nI k).toInt = (k : Int) := nI_toInt (by omega)
    have c0 : True := trivial
    refine WP_iload_n dX0_heldForWeek_4 rfl ?_
    refine WP_bipush (7) dX0_heldForWeek_5 rfl ?_
    refine WP_icmp_ge 29 dX0_heldForWeek_7 rfl (fun c7 => absurd c7 (by intro cc; (try simp only [hkt, hkt] at cc); (all_goals (try simp only [cmp_lt, cmp_gt] at cc)); (all_goals (try simp only [le32, lt32, eq32, t64, Int32.reduceToInt, Int64.reduceToInt] at cc)); (all_goals (try simp (disch := ((try simp (disch := ((try simp (disch := omega) only [ia, is', im, ja, js, ir, idv, Int32.reduceToInt, Int64.reduceToInt, t64]); omega)) only [ia, is', im, ja, js, ir, idv, Int32.reduceToInt, Int64.reduceToInt, t64]); omega)) only [ia, is', im, ja, js, ir, idv, Int32.reduceToInt, Int64.reduceToInt, t64] at cc)); (all_goals (try simp only [hkt, hkt] at cc)); (all_goals (try simp only [not_true_eq_false, eq_self] at cc)); all_goals omega)) (fun c7 => ?_)
    refine WP_iload_n dX0_heldForWeek_10 rfl ?_
    refine WP_iload_n dX0_heldForWeek_11 rfl ?_
    refine WP_aload_n dX0_heldForWeek_12 rfl ?_
    refine WP_getr dX0_heldForWeek_13 fX0_15 rfl (lyx_is hy _ _ rfl) (rfx hr 5 2 23 (by decide)) ?_
    refine WP_iload_n dX0_heldForWeek_16 rfl ?_
    refine WP_iald dX0_heldForWeek_17 (lyx_is hy _ _ rfl) (lyx_in hy _ _ rfl (by (try simp only [hkt, hkt] at c0 c7 ⊢); (all_goals (try simp only [cmp_lt, cmp_gt] at c0 c7 ⊢)); (all_goals (try simp only [le32, lt32, eq32, t64, vp_in_iff, Int32.reduceToInt, Int64.reduceToInt] at c0 c7 ⊢)); (all_goals (try simp (disch := ((try simp (disch := ((try simp (disch := omega) only [ia, is', im, ja, js, ir, idv, Int32.reduceToInt, Int64.reduceToInt, t64]); omega)) only [ia, is', im, ja, js, ir, idv, Int32.reduceToInt, Int64.reduceToInt, t64]); omega)) only [ia, is', im, ja, js, ir, idv, Int32.reduceToInt, Int64.reduceToInt, t64] at c0 c7 ⊢)); (all_goals (try simp only [hkt, hkt] at c0 c7 ⊢)); all_goals (first | (constructor <;> omega) | (exfalso; omega)))) ?_
    refine WP_callN2p dX0_heldForWeek_18 ⟨⟨⟨by decide, by decide⟩, zX10_stampsOf⟩, lX0_60, tX10_stampsOf⟩ (x_stampsOf hy hr _ _) (Nat.le_of_ble_eq_true rfl) ?_
    refine WP_isub dX0_heldForWeek_21 ?_
    refine WP_istore_n (ls' := [(0, _), (1, _), (2, _), (3, _)]) dX0_heldForWeek_22 (by decide) rfl ?_
    refine WP_iinc (ls' := [(0, _), (1, _), (2, _), (3, _)]) dX0_heldForWeek_23 rfl (by decide) rfl ?_
    refine WP_goto 4 dX0_heldForWeek_26 rfl ?_
    refine WP_sub (ls' := [(0, .ref (ad g P_market)), (1, .int a), (2, _), (3, .int (nI (k + 1)))]) (fc rfl (fc rfl (fc (by rw [hv, hz, stamp0, Int32.sub_zero]; rfl) (fc (by rw [← nI_1]; rfl) fn)))) (ih (k + 1) _ (by omega) ?_)
    exact hv
set_option maxHeartbeats 4000000 in
set_option maxRecDepth 100000 in
theorem x_heldForWeek {g : GG} {I : pI} {J : pJ} {R : pR} (hy : LyX g) (hr : RfX g R) (hz : ∀ q, I (ad g P_market_losses) q = 0) (a : Int32) : SP g mX0_heldForWeek [.ref (ad g P_market), .int a] I J R (pq (.int a) I J R) := by
  refine SP_of ⟨by decide, rfl⟩ (Nat.le_of_ble_eq_true rfl) ?_
  have c0 : True := trivial
  refine WP_iload_n dX0_heldForWeek_0 rfl ?_
  refine WP_istore_n (ls' := [(0, _), (1, _), (2, _)]) dX0_heldForWeek_1 (by decide) rfl ?_
  refine WP_iconst (0) dX0_heldForWeek_2 rfl ?_
  refine WP_istore_n (ls' := [(0, _), (1, _), (2, _), (3, _)]) dX0_heldForWeek_3 (by decide) rfl ?_
  refine WP_sub (ls' := [(0, .ref (ad g P_market)), (1, .int a), (2, .int a), (3, .int (nI 0))]) (fc rfl (fc rfl (fc rfl (fc rfl fn)))) (l_held (I := I) (J := J) hy hr hz a 7 0 _ (by omega) ?_)
  rfl
set_option maxHeartbeats 4000000 in
set_option maxRecDepth 100000 in
theorem lx_lend0 {g : GG} {I : pI} {J : pJ} {R : pR} (hy : LyX g) (hr : RfX g R) (a b c : Int32) (N : Nat) (hN : (N : Int) = b.toInt)  : ∀ (m k : Nat) (I2 : pI) (lf : Int32), k + m = N → True → WP g mX10_lend 55 [(0, .ref (ad g P_x)), (1, .int a), (2, .int b), (3, .int c), (4, .int 0), (5, .int lf), (6, .int (nI k))] [] I2 J R (rq (lentF m lf c)) := by
  intro m
  induction m with
  | zero =>
    intro k I2 lf hk hv
    have hbr := rng b
    have hkt : (nI k).toInt = (k : Int) := nI_toInt (by omega)
    have c0 : True := trivial
    refine WP_iload dX10_lend_55 rfl ?_
    refine WP_iload_n dX10_lend_57 rfl ?_
    refine WP_icmp_ge 98 dX10_lend_58 rfl (fun c58 => ?_) (fun c58 => absurd c58 (by intro cc; (try simp only [hkt, hkt] at cc); (all_goals (try simp only [cmp_lt, cmp_gt] at cc)); (all_goals (try simp only [le32, lt32, eq32, t64, Int32.reduceToInt, Int64.reduceToInt] at cc)); (all_goals (try simp (disch := ((try simp (disch := ((try simp (disch := omega) only [ia, is', im, ja, js, ir, idv, Int32.reduceToInt, Int64.reduceToInt, t64]); omega)) only [ia, is', im, ja, js, ir, idv, Int32.reduceToInt, Int64.reduceToInt, t64]); omega)) only [ia, is', im, ja, js, ir, idv, Int32.reduceToInt, Int64.reduceToInt, t64] at cc)); (all_goals (try simp only [hkt, hkt] at cc)); (all_goals (try simp only [not_true_eq_false, eq_self] at cc)); all_goals omega))
    refine WP_iload dX10_lend_98 rfl ?_
    exact WP_iret dX10_lend_100 rfl rfl
  | succ m ih =>
    intro k I2 lf hk hv
    have hbr := rng b
    have hkt : (nI k).toInt = (k : Int) := nI_toInt (by omega)
    have c0 : True := trivial
    refine WP_iload dX10_lend_55 rfl ?_
    refine WP_iload_n dX10_lend_57 rfl ?_
    refine WP_icmp_ge 98 dX10_lend_58 rfl (fun c58 => absurd c58 (by intro cc; (try simp only [hkt, hkt] at cc); (all_goals (try simp only [cmp_lt, cmp_gt] at cc)); (all_goals (try simp only [le32, lt32, eq32, t64, Int32.reduceToInt, Int64.reduceToInt] at cc)); (all_goals (try simp (disch := ((try simp (disch := ((try simp (disch := omega) only [ia, is', im, ja, js, ir, idv, Int32.reduceToInt, Int64.reduceToInt, t64]); omega)) only [ia, is', im, ja, js, ir, idv, Int32.reduceToInt, Int64.reduceToInt, t64]); omega)) only [ia, is', im, ja, js, ir, idv, Int32.reduceToInt, Int64.reduceToInt, t64] at cc)); (all_goals (try simp only [hkt, hkt] at cc)); (all_goals (try simp only [not_true_eq_false, eq_self] at cc)); all_goals omega)) (fun c58 => ?_)
    refine WP_iload dX10_lend_61 rfl ?_
    refine WP_if_ne 81 dX10_lend_63 rfl (fun c63 => absurd c63 (by decide)) (fun c63 => ?_)
    refine WP_iload dX10_lend_66 rfl ?_
    refine WP_sipush (1000) dX10_lend_68 rfl ?_
    refine WP_iload_n dX10_lend_71 rfl ?_
    refine WP_isub dX10_lend_72 ?_
    refine WP_imul dX10_lend_73 ?_
    refine WP_sipush (1000) dX10_lend_74 rfl ?_
    refine WP_idiv dX10_lend_77 (by decide) ?_
    refine WP_goto 90 dX10_lend_78 rfl ?_
    refine WP_istore (ls' := [(0, _), (1, _), (2, _), (3, _), (4, _), (5, _), (6, _)]) dX10_lend_90 (by decide) rfl ?_
    refine WP_iinc (ls' := [(0, _), (1, _), (2, _), (3, _), (4, _), (5, _), (6, _)]) dX10_lend_92 rfl (by decide) rfl ?_
    refine WP_goto 55 dX10_lend_95 rfl ?_
    refine WP_sub (ls' := [(0, .ref (ad g P_x)), (1, .int a), (2, .int b), (3, .int c), (4, .int 0), (5, _), (6, .int (nI (k + 1)))]) (fc rfl (fc rfl (fc rfl (fc rfl (fc rfl (fc rfl (fc (by rw [← nI_1]; rfl) fn))))))) (ih (k + 1) _ _ (by omega) ?_)
    trivial
set_option maxHeartbeats 4000000 in
set_option maxRecDepth 100000 in
theorem lx_lend1 {g : GG} {I : pI} {J : pJ} {R : pR} (hy : LyX g) (hr : RfX g R) (a b c : Int32) (N : Nat) (hN : (N : Int) = b.toInt) (hz : ∀ q, I (ad g P_market_losses) q = 0)  : ∀ (m k : Nat) (I2 : pI), k + m = N → I2 = I → WP g mX10_lend 55 [(0, .ref (ad g P_x)), (1, .int a), (2, .int b), (3, .int c), (4, .int 1), (5, .int a), (6, .int (nI k))] [] I2 J R (rq a) := by
  intro m
  induction m with
  | zero =>
    intro k I2 hk hv
    have hbr := rng b
    have hkt : (nI k).toInt = (k : Int) := nI_toInt (by omega)
    have c0 : True := trivial
    refine WP_iload dX10_lend_55 rfl ?_
    refine WP_iload_n dX10_lend_57 rfl ?_
    refine WP_icmp_ge 98 dX10_lend_58 rfl (fun c58 => ?_) (fun c58 => absurd c58 (by intro cc; (try simp only [hkt, hkt] at cc); (all_goals (try simp only [cmp_lt, cmp_gt] at cc)); (all_goals (try simp only [le32, lt32, eq32, t64, Int32.reduceToInt, Int64.reduceToInt] at cc)); (all_goals (try simp (disch := ((try simp (disch := ((try simp (disch := omega) only [ia, is', im, ja, js, ir, idv, Int32.reduceToInt, Int64.reduceToInt, t64]); omega)) only [ia, is', im, ja, js, ir, idv, Int32.reduceToInt, Int64.reduceToInt, t64]); omega)) only [ia, is', im, ja, js, ir, idv, Int32.reduceToInt, Int64.reduceToInt, t64] at cc)); (all_goals (try simp only [hkt, hkt] at cc)); (all_goals (try simp only [not_true_eq_false, eq_self] at cc)); all_goals omega))
    refine WP_iload dX10_lend_98 rfl ?_
    exact WP_iret dX10_lend_100 rfl rfl
  | succ m ih =>
    intro k I2 hk hv
    have hbr := rng b
    have hkt : (nI k).toInt = (k : Int) := nI_toInt (by omega)
    have c0 : True := trivial
    refine WP_iload dX10_lend_55 rfl ?_
    refine WP_iload_n dX10_lend_57 rfl ?_
    refine WP_icmp_ge 98 dX10_lend_58 rfl (fun c58 => absurd c58 (by intro cc; (try simp only [hkt, hkt] at cc); (all_goals (try simp only [cmp_lt, cmp_gt] at cc)); (all_goals (try simp only [le32, lt32, eq32, t64, Int32.reduceToInt, Int64.reduceToInt] at cc)); (all_goals (try simp (disch := ((try simp (disch := ((try simp (disch := omega) only [ia, is', im, ja, js, ir, idv, Int32.reduceToInt, Int64.reduceToInt, t64]); omega)) only [ia, is', im, ja, js, ir, idv, Int32.reduceToInt, Int64.reduceToInt, t64]); omega)) only [ia, is', im, ja, js, ir, idv, Int32.reduceToInt, Int64.reduceToInt, t64] at cc)); (all_goals (try simp only [hkt, hkt] at cc)); (all_goals (try simp only [not_true_eq_false, eq_self] at cc)); all_goals omega)) (fun c58 => ?_)
    refine WP_iload dX10_lend_61 rfl ?_
    refine WP_if_ne 81 dX10_lend_63 rfl (fun c63 => ?_) (fun c63 => absurd c63 (by decide))
    refine WP_aload_n dX10_lend_81 rfl ?_
    refine WP_getr dX10_lend_82 fX10_33 rfl (lyx_is hy _ _ rfl) (rfx hr 0 2 5 (by decide)) ?_
    refine WP_iload dX10_lend_85 rfl ?_
    refine WP_callV1p (k := 0) dX10_lend_87 ⟨⟨⟨by decide, by decide⟩, zX0_heldForWeek⟩, lX10_289, by decide, rfl, vX0_heldForWeek.1, vX0_heldForWeek.2⟩ (lyx_is hy _ _ rfl) (x_heldForWeek hy hr (by rw [hv]; exact hz) _) (Nat.le_of_ble_eq_true rfl) ?_
    refine WP_istore (ls' := [(0, _), (1, _), (2, _), (3, _), (4, _), (5, _), (6, _)]) dX10_lend_90 (by decide) rfl ?_
    refine WP_iinc (ls' := [(0, _), (1, _), (2, _), (3, _), (4, _), (5, _), (6, _)]) dX10_lend_92 rfl (by decide) rfl ?_
    refine WP_goto 55 dX10_lend_95 rfl ?_
    refine WP_sub (ls' := [(0, .ref (ad g P_x)), (1, .int a), (2, .int b), (3, .int c), (4, .int 1), (5, .int a), (6, .int (nI (k + 1)))]) (fc rfl (fc rfl (fc rfl (fc rfl (fc rfl (fc rfl (fc (by rw [← nI_1]; rfl) fn))))))) (ih (k + 1) _ (by omega) ?_)
    exact hv
set_option maxHeartbeats 4000000 in
set_option maxRecDepth 100000 in
theorem xr_lend {g : GG} {I : pI} {J : pJ} {R : pR} (hy : LyX g) (hr : RfX g R) (hf : XF g I J R) (a b c e : Int32) : SP g mX10_lend [.ref (ad g P_x), .int a, .int b, .int c, .int e] I J R (rq (if ((0 ≤ a.toInt ∧ a.toInt ≤ 999) ∧ (0 ≤ b.toInt ∧ b.toInt ≤ 52) ∧ (0 ≤ c.toInt ∧ c.toInt ≤ 1000) ∧ (0 ≤ e.toInt ∧ e.toInt ≤ 1)) then (if e = 0 then lentF b.toInt.toNat a c else a) else -2)) := by
  refine SP_of ⟨by decide, rfl⟩ (Nat.le_of_ble_eq_true rfl) ?_
  have c0 : True := trivial
  have hf0 := hf
  obtain ⟨hxc, h_length, h_kind, h_place, h_clauses, h_turns, h_days, h_chestC, h_bought, h_held, h_cost0, h_s0, h_s1, h_s2, h_spare, h_loss, h_mloss, h_stamps⟩ := hf
  have hxc0 := hxc
  obtain ⟨h_town, h_sorts, h_things, h_chest, h_stored⟩ := hxc
  refine WP_iload_n dX10_lend_0 rfl ?_
  refine WP_iconst (0) dX10_lend_1 rfl ?_
  refine WP_sipush (999) dX10_lend_2 rfl ?_
  refine WP_callS3p dX10_lend_5 ⟨⟨⟨by decide, by decide⟩, zX10_within⟩, lX10_206, tX10_within⟩ (x_within hy hr _ _ _) (Nat.le_of_ble_eq_true rfl) ?_
  refine WP_ifb_eq 32 dX10_lend_8 rfl (fun c8 => ?_) (fun c8 => ?_)
  · refine WP_bipush (-2) dX10_lend_32 rfl ?_
    exact WP_iret dX10_lend_34 rfl (by unfold rq; (try simp only [eq32, Int32.reduceToInt] at c0 c8); rw [if_neg (by omega)])
  · refine WP_iload_n dX10_lend_11 rfl ?_
    refine WP_iconst (0) dX10_lend_12 rfl ?_
    refine WP_bipush (52) dX10_lend_13 rfl ?_
    refine WP_callS3p dX10_lend_15 ⟨⟨⟨by decide, by decide⟩, zX10_within⟩, lX10_206, tX10_within⟩ (x_within hy hr _ _ _) (Nat.le_of_ble_eq_true rfl) ?_
    refine WP_ifb_eq 32 dX10_lend_18 rfl (fun c18 => ?_) (fun c18 => ?_)
    · refine WP_bipush (-2) dX10_lend_32 rfl ?_
      exact WP_iret dX10_lend_34 rfl (by unfold rq; (try simp only [eq32, Int32.reduceToInt] at c0 c8 c18); rw [if_neg (by omega)])
    · refine WP_iload_n dX10_lend_21 rfl ?_
      refine WP_iconst (0) dX10_lend_22 rfl ?_
      refine WP_sipush (1000) dX10_lend_23 rfl ?_
      refine WP_callS3p dX10_lend_26 ⟨⟨⟨by decide, by decide⟩, zX10_within⟩, lX10_206, tX10_within⟩ (x_within hy hr _ _ _) (Nat.le_of_ble_eq_true rfl) ?_
      refine WP_ifb_ne 35 dX10_lend_29 rfl (fun c29 => ?_) (fun c29 => ?_)
      · refine WP_iload dX10_lend_35 rfl ?_
        refine WP_if_eq 49 dX10_lend_37 rfl (fun c37 => ?_) (fun c37 => ?_)
        · refine WP_iload_n dX10_lend_49 rfl ?_
          refine WP_istore (ls' := [(0, _), (1, _), (2, _), (3, _), (4, _), (5, _)]) dX10_lend_50 (by decide) rfl ?_
          refine WP_iconst (0) dX10_lend_52 rfl ?_
          refine WP_istore (ls' := [(0, _), (1, _), (2, _), (3, _), (4, _), (5, _), (6, _)]) dX10_lend_53 (by decide) rfl ?_
          simp only [Int32.reduceToInt] at c8 c18 c29
          by_cases he : e = 0
          · subst he
            rw [if_pos ⟨c8, c18, c29, by decide⟩, if_pos rfl]
            refine WP_sub (ls' := [(0, .ref (ad g P_x)), (1, .int a), (2, .int b), (3, .int c), (4, .int 0), (5, .int a), (6, .int (nI 0))]) (fc rfl (fc rfl (fc rfl (fc rfl (fc rfl (fc rfl (fc rfl fn))))))) (lx_lend0 (I := I) (J := J) hy hr a b c b.toInt.toNat (by omega) b.toInt.toNat 0 _ _ (by omega) ?_)
            trivial
          · have he1 : e = 1 := by first | exact absurd c37 he | exact c43
            subst he1
            rw [if_pos ⟨c8, c18, c29, by decide⟩, if_neg (by decide)]
            refine WP_sub (ls' := [(0, .ref (ad g P_x)), (1, .int a), (2, .int b), (3, .int c), (4, .int 1), (5, .int a), (6, .int (nI 0))]) (fc rfl (fc rfl (fc rfl (fc rfl (fc rfl (fc rfl (fc rfl fn))))))) (lx_lend1 (I := I) (J := J) hy hr a b c b.toInt.toNat (by omega) h_mloss b.toInt.toNat 0 _ (by omega) ?_)
            rfl
        · refine WP_iload dX10_lend_40 rfl ?_
          refine WP_iconst (1) dX10_lend_42 rfl ?_
          refine WP_icmp_eq 49 dX10_lend_43 rfl (fun c43 => ?_) (fun c43 => ?_)
          · refine WP_iload_n dX10_lend_49 rfl ?_
            refine WP_istore (ls' := [(0, _), (1, _), (2, _), (3, _), (4, _), (5, _)]) dX10_lend_50 (by decide) rfl ?_
            refine WP_iconst (0) dX10_lend_52 rfl ?_
            refine WP_istore (ls' := [(0, _), (1, _), (2, _), (3, _), (4, _), (5, _), (6, _)]) dX10_lend_53 (by decide) rfl ?_
            simp only [Int32.reduceToInt] at c8 c18 c29
            by_cases he : e = 0
            · subst he
              rw [if_pos ⟨c8, c18, c29, by decide⟩, if_pos rfl]
              refine WP_sub (ls' := [(0, .ref (ad g P_x)), (1, .int a), (2, .int b), (3, .int c), (4, .int 0), (5, .int a), (6, .int (nI 0))]) (fc rfl (fc rfl (fc rfl (fc rfl (fc rfl (fc rfl (fc rfl fn))))))) (lx_lend0 (I := I) (J := J) hy hr a b c b.toInt.toNat (by omega) b.toInt.toNat 0 _ _ (by omega) ?_)
              trivial
            · have he1 : e = 1 := by first | exact absurd c37 he | exact c43
              subst he1
              rw [if_pos ⟨c8, c18, c29, by decide⟩, if_neg (by decide)]
              refine WP_sub (ls' := [(0, .ref (ad g P_x)), (1, .int a), (2, .int b), (3, .int c), (4, .int 1), (5, .int a), (6, .int (nI 0))]) (fc rfl (fc rfl (fc rfl (fc rfl (fc rfl (fc rfl (fc rfl fn))))))) (lx_lend1 (I := I) (J := J) hy hr a b c b.toInt.toNat (by omega) h_mloss b.toInt.toNat 0 _ (by omega) ?_)
              rfl
          · refine WP_bipush (-2) dX10_lend_46 rfl ?_
            exact WP_iret dX10_lend_48 rfl (by unfold rq; (try simp only [eq32, Int32.reduceToInt] at c0 c8 c18 c29 c37 c43); rw [if_neg (by omega)])
      · refine WP_bipush (-2) dX10_lend_32 rfl ?_
        exact WP_iret dX10_lend_34 rfl (by unfold rq; (try simp only [eq32, Int32.reduceToInt] at c0 c8 c18 c29); rw [if_neg (by omega)])
theorem need0 {a : Int32} (h : 0 ≤ a.toInt ∧ a.toInt ≤ 999) : (a * 1000 + (1000 - 0) - 1) / (1000 - 0) = a := by
  have e1 : (1000 : Int32).toInt = 1000 := rfl
  have e0 : ((1000 : Int32) - 0).toInt = 1000 := rfl
  have e2 : (1 : Int32).toInt = 1 := rfl
  have b1 : (a * 1000).toInt = a.toInt * 1000 := by rw [im (by rw [e1]; omega) (by rw [e1]; omega), e1]
  have b2 : (a * 1000 + (1000 - 0)).toInt = a.toInt * 1000 + 1000 := by rw [ia (by rw [b1, e0]; omega) (by rw [b1, e0]; omega), b1, e0]
  have b3 : (a * 1000 + (1000 - 0) - 1).toInt = a.toInt * 1000 + 999 := by rw [is' (by rw [b2, e2]; omega) (by rw [b2, e2]; omega), b2, e2]; omega
  apply (eq32 _ _).mpr
  rw [idv (by rw [b3]; omega) (by rw [e0]; omega), b3, e0]
  omega
set_option maxHeartbeats 4000000 in
set_option maxRecDepth 100000 in
theorem x_neededAhead {g : GG} {I : pI} {J : pJ} {R : pR} (hy : LyX g) (hr : RfX g R) (hz : ∀ q, I (ad g P_market_losses) q = 0) (a b : Int32) (ha : 0 ≤ a.toInt ∧ a.toInt ≤ 999) (hb : 0 ≤ b.toInt ∧ b.toInt < 7) : SP g mX0_neededAhead [.ref (ad g P_market), .int a, .int b] I J R (pq (.int a) I J R) := by
  refine SP_of ⟨by decide, rfl⟩ (Nat.le_of_ble_eq_true rfl) ?_
  have c0 : True := trivial
  refine WP_sipush (1000) dX0_neededAhead_0 rfl ?_
  refine WP_aload_n dX0_neededAhead_3 rfl ?_
  refine WP_getr dX0_neededAhead_4 fX0_15 rfl (lyx_is hy _ _ rfl) (rfx hr 5 2 23 (by decide)) ?_
  refine WP_iload_n dX0_neededAhead_7 rfl ?_
  refine WP_iald dX0_neededAhead_8 (lyx_is hy _ _ rfl) (lyx_in hy _ _ rfl (vin hb.1 hb.2)) ?_
  rw [hz]
  refine WP_isub dX0_neededAhead_9 ?_
  refine WP_istore_n (ls' := [(0, _), (1, _), (2, _), (3, _)]) dX0_neededAhead_10 (by decide) rfl ?_
  refine WP_iload_n dX0_neededAhead_11 rfl ?_
  refine WP_iconst (1) dX0_neededAhead_12 rfl ?_
  refine WP_icmp_ge 21 dX0_neededAhead_13 rfl (fun c13 => ?_) (fun c13 => absurd c13 (by decide))
  refine WP_iload_n dX0_neededAhead_21 rfl ?_
  refine WP_sipush (1000) dX0_neededAhead_22 rfl ?_
  refine WP_imul dX0_neededAhead_25 ?_
  refine WP_iload_n dX0_neededAhead_26 rfl ?_
  refine WP_iadd dX0_neededAhead_27 ?_
  refine WP_iconst (1) dX0_neededAhead_28 rfl ?_
  refine WP_isub dX0_neededAhead_29 ?_
  refine WP_iload_n dX0_neededAhead_30 rfl ?_
  refine WP_idiv dX0_neededAhead_31 (by decide) ?_
  exact WP_iret dX0_neededAhead_32 rfl ⟨(by rw [need0 ha]), rfl, rfl, rfl⟩
theorem m1s (n : Nat) : nI (n + 1) - 1 + Int32.ofInt (-1) = nI n - 1 := by
  rw [nI_pred]
  apply (eq32 _ _).mpr
  have e1 : (Int32.ofInt (-1)).toInt = -1 := by decide
  have e2 : (1 : Int32).toInt = 1 := rfl
  rw [Int32.toInt_add, Int32.toInt_sub, e1, e2, Int.sub_eq_add_neg]
set_option maxHeartbeats 4000000 in
set_option maxRecDepth 100000 in
theorem lx_early {g : GG} {I : pI} {J : pJ} {R : pR} (hy : LyX g) (hr : RfX g R) (hz : ∀ q, I (ad g P_market_losses) q = 0) (a b c : Int32) (ha : 0 ≤ a.toInt ∧ a.toInt ≤ 999) (hc : 0 ≤ c.toInt ∧ c.toInt < 7) (N : Nat) (hN : N ≤ 60) : ∀ (m k : Nat) (I2 : pI), k + m = N → I2 = I → WP g mX10_early 39 [(0, .ref (ad g P_x)), (1, .int a), (2, .int b), (3, .int c), (4, .int a), (5, .int (nI m - 1))] [] I2 J R (rq a) := by
  intro m
  induction m with
  | zero =>
    intro k I2 hk hv
    have c0 : True := trivial
    skip
    refine WP_iload dX10_early_39 rfl ?_
    refine WP_if_lt 78 dX10_early_41 rfl (fun c41 => ?_) (fun c41 => absurd (show nI 0 - 1 < 0 by decide) c41)
    refine WP_iload dX10_early_78 rfl ?_
    exact WP_iret dX10_early_80 rfl rfl
  | succ m ih =>
    intro k I2 hk hv
    have c0 : True := trivial
    have e7 : (7 : Int32).toInt = 7 := rfl
    have em := nI_toInt (show m < 2 ^ 31 by omega)
    have ec : (c + (nI (m + 1) - 1)).toInt = c.toInt + m := by rw [nI_pred, ia (by rw [em]; omega) (by rw [em]; omega), em]
    have ec7 : ((c + (nI (m + 1) - 1)) - (c + (nI (m + 1) - 1)) / 7 * 7).toInt = (c.toInt + m) % 7 := by rw [ir (by rw [ec]; omega) (by rw [e7]; omega), ec, e7]
    refine WP_iload dX10_early_39 rfl ?_
    refine WP_if_lt 78 dX10_early_41 rfl (fun c41 => absurd c41 (by rw [nI_pred]; exact nI_pos (by omega))) (fun c41 => ?_)
    refine WP_aload_n dX10_early_44 rfl ?_
    refine WP_getr dX10_early_45 fX10_33 rfl (lyx_is hy _ _ rfl) (rfx hr 0 2 5 (by decide)) ?_
    refine WP_iload dX10_early_48 rfl ?_
    refine WP_iload_n dX10_early_50 rfl ?_
    refine WP_iload dX10_early_51 rfl ?_
    refine WP_iadd dX10_early_53 ?_
    skip
    refine WP_bipush (7) dX10_early_54 rfl ?_
    refine WP_irem dX10_early_56 (by decide) ?_
    refine WP_callV2p (k := 0) dX10_early_57 ⟨⟨⟨by decide, by decide⟩, zX0_neededAhead⟩, lX10_293, by decide, rfl, vX0_neededAhead.1, vX0_neededAhead.2⟩ (lyx_is hy _ _ rfl) (x_neededAhead hy hr (by rw [hv]; exact hz) _ _ ha (by rw [ec7]; omega)) (Nat.le_of_ble_eq_true rfl) ?_
    refine WP_istore (ls' := [(0, _), (1, _), (2, _), (3, _), (4, _), (5, _)]) dX10_early_60 (by decide) rfl ?_
    refine WP_iload dX10_early_62 rfl ?_
    refine WP_sipush (999) dX10_early_64 rfl ?_
    refine WP_icmp_le 72 dX10_early_67 rfl (fun c67 => ?_) (fun c67 => absurd c67 (by rw [le32]; intro cc; apply cc; simp only [Int32.reduceToInt]; omega))
    refine WP_iinc (ls' := [(0, _), (1, _), (2, _), (3, _), (4, _), (5, _)]) dX10_early_72 rfl (by decide) rfl ?_
    refine WP_goto 39 dX10_early_75 rfl ?_
    refine WP_sub (ls' := [(0, .ref (ad g P_x)), (1, .int a), (2, .int b), (3, .int c), (4, .int a), (5, _)]) (fc rfl (fc rfl (fc rfl (fc rfl (fc rfl (fc (congrArg (fun z => some (Value.int z)) (m1s m)) fn)))))) (ih (k + 1) _ (by omega) ?_)
    exact hv
set_option maxHeartbeats 4000000 in
set_option maxRecDepth 100000 in
theorem xr_early {g : GG} {I : pI} {J : pJ} {R : pR} (hy : LyX g) (hr : RfX g R) (hf : XF g I J R) (a b c : Int32) : SP g mX10_early [.ref (ad g P_x), .int a, .int b, .int c] I J R (rq (if (0 ≤ a.toInt ∧ a.toInt ≤ 999) ∧ (0 ≤ b.toInt ∧ b.toInt ≤ 60) ∧ (0 ≤ c.toInt ∧ c.toInt < 7) then a else -2)) := by
  refine SP_of ⟨by decide, rfl⟩ (Nat.le_of_ble_eq_true rfl) ?_
  have c0 : True := trivial
  have hf0 := hf
  obtain ⟨hxc, h_length, h_kind, h_place, h_clauses, h_turns, h_days, h_chestC, h_bought, h_held, h_cost0, h_s0, h_s1, h_s2, h_spare, h_loss, h_mloss, h_stamps⟩ := hf
  have hxc0 := hxc
  obtain ⟨h_town, h_sorts, h_things, h_chest, h_stored⟩ := hxc
  refine WP_iload_n dX10_early_0 rfl ?_
  refine WP_iconst (0) dX10_early_1 rfl ?_
  refine WP_sipush (999) dX10_early_2 rfl ?_
  refine WP_callS3p dX10_early_5 ⟨⟨⟨by decide, by decide⟩, zX10_within⟩, lX10_206, tX10_within⟩ (x_within hy hr _ _ _) (Nat.le_of_ble_eq_true rfl) ?_
  refine WP_ifb_eq 28 dX10_early_8 rfl (fun c8 => ?_) (fun c8 => ?_)
  · refine WP_bipush (-2) dX10_early_28 rfl ?_
    exact WP_iret dX10_early_30 rfl (by unfold rq; (try simp only [eq32, Int32.reduceToInt] at c0 c8); rw [if_neg (by omega)])
  · refine WP_iload_n dX10_early_11 rfl ?_
    refine WP_iconst (0) dX10_early_12 rfl ?_
    refine WP_bipush (60) dX10_early_13 rfl ?_
    refine WP_callS3p dX10_early_15 ⟨⟨⟨by decide, by decide⟩, zX10_within⟩, lX10_206, tX10_within⟩ (x_within hy hr _ _ _) (Nat.le_of_ble_eq_true rfl) ?_
    refine WP_ifb_eq 28 dX10_early_18 rfl (fun c18 => ?_) (fun c18 => ?_)
    · refine WP_bipush (-2) dX10_early_28 rfl ?_
      exact WP_iret dX10_early_30 rfl (by unfold rq; (try simp only [eq32, Int32.reduceToInt] at c0 c8 c18); rw [if_neg (by omega)])
    · refine WP_iload_n dX10_early_21 rfl ?_
      refine WP_callS1p dX10_early_22 ⟨⟨⟨by decide, by decide⟩, zX10_isDay⟩, lX10_156, tX10_isDay⟩ (x_isDay hy hr _) (Nat.le_of_ble_eq_true rfl) ?_
      refine WP_ifb_ne 31 dX10_early_25 rfl (fun c25 => ?_) (fun c25 => ?_)
      · refine WP_iload_n dX10_early_31 rfl ?_
        refine WP_istore (ls' := [(0, _), (1, _), (2, _), (3, _), (4, _)]) dX10_early_32 (by decide) rfl ?_
        refine WP_iload_n dX10_early_34 rfl ?_
        refine WP_iconst (1) dX10_early_35 rfl ?_
        refine WP_isub dX10_early_36 ?_
        refine WP_istore (ls' := [(0, _), (1, _), (2, _), (3, _), (4, _), (5, _)]) dX10_early_37 (by decide) rfl ?_
        simp only [Int32.reduceToInt] at c8 c18
        rw [if_pos ⟨c8, c18, c25⟩]
        have eb : b = nI b.toInt.toNat := (eq32 _ _).mpr (by have := rng b; rw [nI_toInt (by omega)]; omega)
        refine WP_sub (ls' := [(0, .ref (ad g P_x)), (1, .int a), (2, .int b), (3, .int c), (4, .int a), (5, .int (nI b.toInt.toNat - 1))]) (fc rfl (fc rfl (fc rfl (fc rfl (fc rfl (fc (by rw [← eb]; rfl) fn)))))) (lx_early (I := I) (J := J) hy hr h_mloss a b c c8 c25 b.toInt.toNat (by omega) b.toInt.toNat 0 _ (by omega) rfl)
      · refine WP_bipush (-2) dX10_early_28 rfl ?_
        exact WP_iret dX10_early_30 rfl (by unfold rq; (try simp only [eq32, Int32.reduceToInt] at c0 c8 c18 c25); rw [if_neg (by omega)])
