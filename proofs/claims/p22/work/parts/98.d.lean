set_option maxHeartbeats 4000000 in
set_option maxRecDepth 100000 in
theorem sx_searchx_6 {g : GG} {n : Int} {L : Int32} (hy : LyX g)  {I : pI} {J : pJ} {R : pR} (hr : RfX g R) (hP : NL g R) (hT : R (ad g 5) 0 = some (ad g 6)) (hI : XI g n L I) (so : Int32) (da : Int32) (co : Int32) (st : Int32) (nn : Int32) (so_lo : 0 ≤ so.toInt) (so_hi : so.toInt ≤ 3) (da_lo : 0 ≤ da.toInt) (da_hi : da.toInt ≤ 6) (co_lo : 0 ≤ co.toInt) (co_hi : co.toInt ≤ 60) (st_lo : 0 ≤ st.toInt) (st_hi : st.toInt ≤ 5) (nn_lo : 1 ≤ nn.toInt) (nn_hi : nn.toInt ≤ 28) : SP g mX2_search [.ref (ad g 43), .int so, .int da, .int co, .int st, .int nn] I J R (fun r I' J' R' => (XI g n L I' ∧ (RfX g R' ∧ (R' (ad g 5) 0 = R (ad g 5) 0 ∧ R' (ad g 0) 10 = R (ad g 0) 10) ∧ NL g R') ∧ fz 74 g [43, 44, 47, 48] I I' ∧ fz 74 g [45, 46] J J') ∧ ∃ v : Int32, r = some (.int v) ∧ 0 ≤ v.toInt ∧ v.toInt ≤ 47 ∧ (∃ T : Nat → Int32, LD g 6 I so.toInt da.toInt T ∧ AOKd T co.toInt st.toInt v.toInt)) := by
  refine SP_of ⟨by decide, rfl⟩ (Nat.le_of_ble_eq_true rfl) ?_
  have e12369 : I (ad g 1) 1 = L := hI.2
  have b12370 := BT_get hI.1 1 1 2 (0) (0) (900) (by decide) 1 (by decide) (by decide)
  rw [e12369] at b12370
  have fr0 : fz 74 g [43, 44, 47, 48] I I := fz_rf
  have frj0 : fz 74 g [45, 46] J J := fz_rf
  refine WP_aload_n dX2_search_0 rfl ?_
  refine WP_getr dX2_search_1 fX2_18 rfl (lyx_is hy 43 2 rfl) (rfx hr 43 4 45 (by decide)) ?_
  refine WP_lconst (0) dX2_search_4 rfl ?_
  obtain ⟨l12371, hl12371, el12371⟩ : ∃ v : Int64, v.toInt = 0 ∧ (0 : Int64) = v := ⟨_, rfl, rfl⟩
  rw [el12371]; clear el12371
  refine WP_callS2 dX2_search_5 ⟨⟨⟨by decide, by decide⟩, zJ7_fill_d0a16⟩, lX2_36, tJ7_fill_d0a16⟩ (sx_fillJx_45 hy hr hI l12371 ) (Nat.le_of_ble_eq_true rfl) ?_
  intro r Ia J12372 Ra hq
  obtain ⟨⟨ea, ec, fjJ12372, pJ12372⟩, rfl⟩ := hq
  rw [ea, ec]
  clear ea ec Ia Ra
  have fr12373 : fz 74 g [45, 46] J J12372 := fz_tr frj0 (fz_mono fjJ12372 (by decide))
  refine WP_aload_n dX2_search_8 rfl ?_
  refine WP_getr dX2_search_9 fX2_18 rfl (lyx_is hy 43 2 rfl) (rfx hr 43 4 45 (by decide)) ?_
  refine WP_iload dX2_search_12 rfl ?_
  refine WP_lconst (1) dX2_search_14 rfl ?_
  obtain ⟨l12374, hl12374, el12374⟩ : ∃ v : Int64, v.toInt = 1 ∧ (1 : Int64) = v := ⟨_, rfl, rfl⟩
  rw [el12374]; clear el12374
  refine WP_iload_n dX2_search_15 rfl ?_
  refine WQ_lshl1 dX2_search_16 hl12374 (by omega) (by omega) (fun l12375 ql12375 => ?_)
  refine WQ_last dX2_search_17 (lyx_is hy 45 14 rfl) (lyx_n hy 45 168 rfl) (by omega) (by omega) (fun J12376 eJ12376 => ?_)
  have fr12377 : fz 74 g [45, 46] J J12376 := by rw [eJ12376]; exact fzx_pp hy fr12373 (by decide) (by decide)
  have xJ12376 := eJ12376
  rw [cl (x := st) (n := st.toInt.toNat) (by omega)] at xJ12376
  have ZJ12376 := ZB_0 (co := co) (st := st) pJ12372 hl12371 xJ12376 ql12375 (by omega)
  clear eJ12376
  refine WQ_iconst (0) (0) dX2_search_18 rfl rfl (fun v12378 hv12378 => ?_)
  refine WP_istore (ls' := [(0, _), (1, _), (2, _), (3, _), (4, _), (5, _), (6, _)]) dX2_search_19 (by decide) rfl ?_
  have lp21_12382 : ∀ (mz : Nat) (i12379 : Int32) (I12380 : pI) (J12381 : pJ) (RI12380 : pR), RfX g RI12380 → RI12380 (ad g 5) 0 = some (ad g 6) → RI12380 (ad g 0) 10 = R (ad g 0) 10 → NL g RI12380 → XI g n L I12380 → fz 74 g [43, 44, 47, 48] I I12380 → fz 74 g [45, 46] J J12381 → 0 ≤ i12379.toInt → i12379.toInt ≤ 27 → i12379.toInt ≤ nn.toInt - 1 → (FWD g 6 I (J12381 (ad g 45)) so.toInt da.toInt i12379.toInt) → (ZB (J12381 (ad g 45)) co.toInt st.toInt) → (28 - i12379.toInt).toNat < mz → WP g mX2_search 21 [(0, .ref (ad g 43)), (1, .int so), (2, .int da), (3, .int co), (4, .int st), (5, .int nn), (6, .int i12379)] [] I12380 J12381 RI12380 (fun r I' J' R' => (XI g n L I' ∧ (RfX g R' ∧ (R' (ad g 5) 0 = R (ad g 5) 0 ∧ R' (ad g 0) 10 = R (ad g 0) 10) ∧ NL g R') ∧ fz 74 g [43, 44, 47, 48] I I' ∧ fz 74 g [45, 46] J J') ∧ ∃ v : Int32, r = some (.int v) ∧ 0 ≤ v.toInt ∧ v.toInt ≤ 47 ∧ (∃ T : Nat → Int32, LD g 6 I so.toInt da.toInt T ∧ AOKd T co.toInt st.toInt v.toInt)) := by
    intro mz
    induction mz with
    | zero =>
      intro i12379 I12380 J12381 RI12380 hrI12380 hTI12380 hSI12380 hPI12380 hI12380 fiI12380 fjJ12381 ai12379 bi12379 j0_I12380 PF_I12380_12381 PZ_I12380_12381 hmlp21_12382
      exact absurd hmlp21_12382 (Nat.not_lt_zero _)
    | succ mz ihlp21_12382 =>
      intro i12379 I12380 J12381 RI12380 hrI12380 hTI12380 hSI12380 hPI12380 hI12380 fiI12380 fjJ12381 ai12379 bi12379 j0_I12380 PF_I12380_12381 PZ_I12380_12381 hmlp21_12382
      have e12384 : I12380 (ad g 1) 1 = L := hI12380.2
      have b12385 := BT_get hI12380.1 1 1 2 (0) (0) (900) (by decide) 1 (by decide) (by decide)
      rw [e12384] at b12385
      refine WP_iload dX2_search_21 rfl ?_
      refine WP_iload dX2_search_23 rfl ?_
      refine WQ_iconst (1) (1) dX2_search_25 rfl rfl (fun v12386 hv12386 => ?_)
      refine WQ_isub dX2_search_26 (by omega) (by omega) (fun v12387 hv12387 => ?_)
      refine WQ_icmp_ge 102 dX2_search_27 rfl (fun c12387 => ?_) (fun c12387 => ?_)
      · rcases hPI12380 with ⟨hn102, hl102⟩ | ⟨hn102, hl102⟩
        · have FN12388 : FWD g 6 I (J12381 (ad g 45)) so.toInt da.toInt (nn.toInt - 1) := by rw [show (nn.toInt - 1) = i12379.toInt by omega]; exact PF_I12380_12381
          refine WP_aload_n dX2_search_102 rfl ?_
          refine WP_getr dX2_search_103 fX2_29 rfl (lyx_is hy 43 2 rfl) hl102 ?_
          refine WQ_iconst (0) (0) dX2_search_106 rfl rfl (fun v12390 hv12390 => ?_)
          refine WP_callS2u dX2_search_107 ⟨⟨⟨by decide, by decide⟩, zJ7_fill_53178⟩, lX2_64, tJ7_fill_53178⟩ (s_fill hy hrI12380 48 366 rfl rfl (by decide) v12390) (Nat.le_of_ble_eq_true rfl) ?_
          obtain ⟨I12391, eI12391⟩ : ∃ I9 : pI, I9 = fi I12380 (ad g 48) 366 v12390 := ⟨_, rfl⟩
          rw [← eI12391]
          have hI12391 : XI g n L I12391 := by rw [eI12391]; exact (xi_fill0 hy hI12380 48 366 v12390 (by decide) (by decide))
          have e12392 : I12391 (ad g 1) 1 = L := by rw [eI12391, fi_off (lyx_ne hy (by decide) (by decide) (by decide))]; exact e12384
          have fr12393 : fz 74 g [43, 44, 47, 48] I I12391 := by rw [eI12391]; exact fzx_fi hy fiI12380 (by decide) (by decide)
          have WI12391 : WB (J12381 (ad g 45)) (I12391 (ad g 48)) (nn.toInt - 1) (nn.toInt - 1) := WB_0 eI12391 hv12390
          clear eI12391
          refine WP_aload_n dX2_search_110 rfl ?_
          refine WQ_iconst (0) (0) dX2_search_111 rfl rfl (fun v12394 hv12394 => ?_)
          refine WQ_puti dX2_search_112 fX2_67 rfl rfl (lyx_is hy 43 2 rfl) (fun I12395 eI12395 => ?_)
          have hI12395 : XI g n L I12395 := by rw [eI12395]; exact (xi_f0 hy hI12391 (c := 43) (by decide) (Or.inl (by decide)) (by decide))
          have e12396 : I12395 (ad g 1) 1 = L := by rw [eI12395, pp_ne _ _ (Or.inl (lyx_ne hy (by decide) (by decide) (by decide)))]; exact e12392
          have e12397 : I12395 (ad g 43) 8 = v12394 := by rw [eI12395, pp_self]
          have fr12398 : fz 74 g [43, 44, 47, 48] I I12395 := by rw [eI12395]; exact fzx_pp hy fr12393 (by decide) (by decide)
          have WI12395 : WB (J12381 (ad g 45)) (I12395 (ad g 48)) (nn.toInt - 1) (nn.toInt - 1) := by rw [eI12395, pp_off _ _ (lyx_ne hy (by decide) (by decide) (by decide))]; exact WI12391
          clear eI12395
          refine WP_iload dX2_search_115 rfl ?_
          refine WQ_iconst (1) (1) dX2_search_117 rfl rfl (fun v12399 hv12399 => ?_)
          refine WQ_isub dX2_search_118 (by omega) (by omega) (fun v12400 hv12400 => ?_)
          refine WP_istore (ls' := [(0, _), (1, _), (2, _), (3, _), (4, _), (5, _), (6, _)]) dX2_search_119 (by decide) rfl ?_
          have lp121_12405 : ∀ (mz : Nat) (i12401 : Int32) (I12402 : pI) (RI12402 : pR), RfX g RI12402 → RI12402 (ad g 5) 0 = some (ad g 6) → RI12402 (ad g 0) 10 = R (ad g 0) 10 → NL g RI12402 → XI g n L I12402 → fz 74 g [43, 44, 47, 48] I I12402 → ∀ (w12404 : Int32), I12402 (ad g 43) 1 = w12404 → ∀ (w12405 : Int32), I12402 (ad g 43) 8 = w12405 → -1 ≤ i12401.toInt → i12401.toInt ≤ 27 → i12401.toInt ≤ nn.toInt - 1 → 0 ≤ w12405.toInt → w12405.toInt ≤ 594 * (nn.toInt - 1 - i12401.toInt) → (∀ q : Nat, q < 74 → RI12402 (ad g 43) 7 = some (ad g q) → WB (J12381 (ad g 45)) (I12402 (ad g q)) (nn.toInt - 1) i12401.toInt) → (0 ≤ i12401.toInt ∨ ∃ T : Nat → Int32, LD g 6 I so.toInt da.toInt T ∧ AOKd T co.toInt st.toInt w12404.toInt) → (i12401.toInt + 1).toNat < mz → WP g mX2_search 121 [(0, .ref (ad g 43)), (1, .int so), (2, .int da), (3, .int co), (4, .int st), (5, .int nn), (6, .int i12401)] [] I12402 J12381 RI12402 (fun r I' J' R' => (XI g n L I' ∧ (RfX g R' ∧ (R' (ad g 5) 0 = R (ad g 5) 0 ∧ R' (ad g 0) 10 = R (ad g 0) 10) ∧ NL g R') ∧ fz 74 g [43, 44, 47, 48] I I' ∧ fz 74 g [45, 46] J J') ∧ ∃ v : Int32, r = some (.int v) ∧ 0 ≤ v.toInt ∧ v.toInt ≤ 47 ∧ (∃ T : Nat → Int32, LD g 6 I so.toInt da.toInt T ∧ AOKd T co.toInt st.toInt v.toInt)) := by
            intro mz
            induction mz with
            | zero =>
              intro i12401 I12402 RI12402 hrI12402 hTI12402 hSI12402 hPI12402 hI12402 fiI12402 w12404 ew12404 w12405 ew12405 ai12401 bi12401 j0_I12402_12402 j1_I12402_12402 j2_I12402_12402 PW_I12402_12402 PQ_I12402_12402 hmlp121_12405
              exact absurd hmlp121_12405 (Nat.not_lt_zero _)
            | succ mz ihlp121_12405 =>
              intro i12401 I12402 RI12402 hrI12402 hTI12402 hSI12402 hPI12402 hI12402 fiI12402 w12404 ew12404 w12405 ew12405 ai12401 bi12401 j0_I12402_12402 j1_I12402_12402 j2_I12402_12402 PW_I12402_12402 PQ_I12402_12402 hmlp121_12405
              have bw12404 := BT_get hI12402.1 43 1 2 (0) (0) (47) (by decide) 1 (by decide) (by decide)
              rw [ew12404] at bw12404
              have e12407 : I12402 (ad g 1) 1 = L := hI12402.2
              have b12408 := BT_get hI12402.1 1 1 2 (0) (0) (900) (by decide) 1 (by decide) (by decide)
              rw [e12407] at b12408
              rcases hPI12402 with ⟨hn121, hl121⟩ | ⟨hn121, hl121⟩
              · have W12408 := PW_I12402_12402 48 (by decide) hl121
                refine WP_iload dX2_search_121 rfl ?_
                refine WQ_if_lt 215 dX2_search_123 rfl (fun c12409 => ?_) (fun c12409 => ?_)
                · refine WP_aload_n dX2_search_215 rfl ?_
                  refine WQ_getim dX2_search_216 fX2_75 rfl (lyx_is hy 43 2 rfl) ew12404 ?_
                  exact WP_iret dX2_search_219 rfl ⟨⟨hI12402, ⟨hrI12402, ⟨hTI12402.trans hT.symm, hSI12402⟩, (Or.inl ⟨hn121, hl121⟩)⟩, fiI12402, fjJ12381⟩, _, rfl, by omega, by omega, (PQ_I12402_12402.resolve_left (by omega))⟩
                · refine WP_iload_n dX2_search_126 rfl ?_
                  refine WP_iload dX2_search_127 rfl ?_
                  refine WQ_iadd dX2_search_129 (by omega) (by omega) (fun v12411 hv12411 => ?_)
                  refine WQ_bipush (7) (7) dX2_search_130 rfl rfl (fun v12412 hv12412 => ?_)
                  refine WQ_iremk (7) dX2_search_132 hv12412 (by decide) (by omega) (fun v12413 hv12413 => ?_)
                  refine WP_istore (ls' := [(0, _), (1, _), (2, _), (3, _), (4, _), (5, _), (6, _), (7, _)]) dX2_search_133 (by decide) rfl ?_
                  refine WP_aload_n dX2_search_135 rfl ?_
                  refine WP_getr dX2_search_136 fX2_12 rfl (lyx_is hy 43 2 rfl) (rfx hrI12402 43 3 44 (by decide)) ?_
                  refine WP_aload_n dX2_search_139 rfl ?_
                  refine WP_getr dX2_search_140 fX2_32 rfl (lyx_is hy 43 2 rfl) (rfx hrI12402 43 2 5 (by decide)) ?_
                  refine WP_iload_n dX2_search_143 rfl ?_
                  refine WP_iload dX2_search_144 rfl ?_
                  refine WP_callV3 (k := 6) dX2_search_146 ⟨⟨⟨by decide, by decide⟩, zX6_load⟩, lX2_42, by decide, rfl, vX6_load.1, vX6_load.2⟩ (lyx_is hy 44 6 rfl) (sx_loadx_44_6 hy hrI12402 hTI12402 hI12402 so v12413 (by omega) (by omega) (by omega) (by omega)) (Nat.le_of_ble_eq_true rfl) ?_
                  intro r I12414 J12415 Ra hq
                  obtain ⟨⟨hI12414, ec, fiI12414, ejI12414, pI12414⟩, rfl⟩ := hq
                  rw [ec]
                  clear ec Ra
                  have fr12416 : fz 74 g [43, 44, 47, 48] I I12414 := fz_tr fiI12402 (fz_mono fiI12414 (by decide))
                  rw [ejI12414]
                  clear ejI12414 J12415
                  have ldI12414 := LD_fr pI12414 (fz_at fiI12402 6 (by decide) (by decide)) (fz_at fiI12402 11 (by decide) (by decide)) (fz_at fiI12402 13 (by decide) (by decide)) (fz_at fiI12402 14 (by decide) (by decide)) (fz_at fiI12402 15 (by decide) (by decide)) (fz_at fiI12402 22 (by decide) (by decide))
                  have WI12414 := W12408
                  rw [← fz_at fiI12414 48 (by decide) (by decide)] at WI12414
                  have e12417 : I12414 (ad g 43) 1 = w12404 := by rw [fz_at fiI12414 43 (by decide) (by decide)]; exact ew12404
                  have e12418 : I12414 (ad g 43) 8 = w12405 := by rw [fz_at fiI12414 43 (by decide) (by decide)]; exact ew12405
                  have e12419 : I12414 (ad g 1) 1 = L := hI12414.2
                  have b12420 := BT_get hI12414.1 1 1 2 (0) (0) (900) (by decide) 1 (by decide) (by decide)
                  rw [e12419] at b12420
                  refine WP_aload_n dX2_search_149 rfl ?_
                  refine WP_aload_n dX2_search_150 rfl ?_
                  refine WP_iload dX2_search_151 rfl ?_
                  refine WQ_if_ne 160 dX2_search_153 rfl (fun c12420 => ?_) (fun c12420 => ?_)
                  · refine WP_aload_n dX2_search_160 rfl ?_
                    refine WP_getr dX2_search_161 fX2_32 rfl (lyx_is hy 43 2 rfl) (rfx hrI12402 43 2 5 (by decide)) ?_
                    refine WP_getr dX2_search_164 fX2_46 rfl (lyx_is hy 5 0 rfl) hTI12402 ?_
                    refine WP_getr dX2_search_167 fX2_52 rfl (lyx_is hy 6 7 rfl) (rfx hrI12402 6 10 12 (by decide)) ?_
                    refine WP_iload_n dX2_search_170 rfl ?_
                    refine WQ_bipush (7) (7) dX2_search_171 rfl rfl (fun v12422 hv12422 => ?_)
                    refine WQ_imulk (7) dX2_search_173 hv12422 (by omega) (by omega) (fun v12423 hv12423 => ?_)
                    refine WP_iload dX2_search_174 rfl ?_
                    refine WQ_iadd dX2_search_176 (by omega) (by omega) (fun v12424 hv12424 => ?_)
                    refine WQ_iald dX2_search_177 (lyx_is hy 12 13 rfl) (lyx_n hy 12 28 rfl) (by omega) (by omega) (fun q hq => BT_get hI12414.1 12 0 28 (0) (0) (20) (by decide) q (Nat.zero_le _) hq) (fun v12425 av12425 bv12425 ev12425 => ?_)
                    refine WP_iload_n dX2_search_178 rfl ?_
                    refine WP_iload dX2_search_179 rfl ?_
                    refine WP_iload dX2_search_181 rfl ?_
                    refine WP_callV4 (k := 2) dX2_search_183 ⟨⟨⟨by decide, by decide⟩, zX2_weighDay⟩, lX2_71, by decide, rfl, vX2_weighDay.1, vX2_weighDay.2⟩ (lyx_is hy 43 2 rfl) (sx_weighDayx_48_6 hy hrI12402 hTI12402 hI12414 v12425 so v12413 i12401 (by omega) (by omega) (by omega) (by omega) (by omega) (by omega) (by omega) (by omega) (K := 594 * ((nn.toInt - 1) - i12401.toInt)) (by omega) hl121 hn121 (by rw [fz_at fiI12414 43 (by decide) (by decide), ew12405]; omega) (by rw [fz_at fr12416 24 (by decide) (by decide), fz_at fr12416 25 (by decide) (by decide), fz_at fr12416 26 (by decide) (by decide)]; exact WD_of WI12414 FN12388 ldI12414 (by unfold EA; rw [if_neg (by omega), show I (ad g (6 + 6)) = I12414 (ad g 12) from (fz_at fr12416 12 (by decide) (by decide)).symm, ← cl (x := v12424) (n := (7 * so.toInt + v12413.toInt).toNat) (by omega), ev12425]) (by omega) (by omega) (by omega) (ldx_p hI (by decide) _ _ _ (by omega) (by omega) ldI12414 (by omega) (by omega)) (sbx_b hI) (cbx_b hI (by omega) (by omega)))) (Nat.le_of_ble_eq_true rfl) ?_
                    intro r I12426 J12427 Ra hq
                    obtain ⟨⟨hI12426, ec, fiI12426, ejI12426, pI12426⟩, v12428, rfl, av12428, bv12428, cv12428⟩ := hq
                    show WP _ _ _ _ (.int _ :: _) _ _ _ _
                    rw [ec]
                    clear ec Ra
                    have fr12429 : fz 74 g [43, 44, 47, 48] I I12426 := fz_tr fr12416 (fz_mono fiI12426 (by decide))
                    rw [ejI12426]
                    clear ejI12426 J12427
                    have e12430 : I12426 (ad g 12) v12424.toNatClampNeg = v12425 := by rw [fz_at fiI12426 12 (by decide) (by decide)]; exact ev12425
                    have e12431 : I12426 (ad g 1) 1 = L := hI12426.2
                    have b12432 := BT_get hI12426.1 1 1 2 (0) (0) (900) (by decide) 1 (by decide) (by decide)
                    rw [e12431] at b12432
                    obtain ⟨w12433, ew12433⟩ : ∃ w : Int32, I12426 (ad g 43) 1 = w := ⟨_, rfl⟩
                    have bw12433 := BT_get hI12426.1 43 1 2 (0) (0) (47) (by decide) 1 (by decide) (by decide)
                    rw [ew12433] at bw12433
                    have vsI12426 := pI12426.1
                    have fuI12426 := pI12426.2
                    rw [ew12433] at fuI12426
                    refine WQ_puti dX2_search_186 fX2_67 rfl rfl (lyx_is hy 43 2 rfl) (fun I12434 eI12434 => ?_)
                    have hI12434 : XI g n L I12434 := by rw [eI12434]; exact (xi_f0 hy hI12426 (c := 43) (by decide) (Or.inl (by decide)) (by decide))
                    have e12435 : I12434 (ad g 12) v12424.toNatClampNeg = v12425 := by rw [eI12434, pp_ne _ _ (Or.inl (lyx_ne hy (by decide) (by decide) (by decide)))]; exact e12430
                    have e12436 : I12434 (ad g 1) 1 = L := by rw [eI12434, pp_ne _ _ (Or.inl (lyx_ne hy (by decide) (by decide) (by decide)))]; exact e12431
                    have e12437 : I12434 (ad g 43) 1 = w12433 := by rw [eI12434, pp_ne _ _ (Or.inr (by decide))]; exact ew12433
                    have e12438 : I12434 (ad g 43) 8 = v12428 := by rw [eI12434, pp_self]
                    have fr12439 : fz 74 g [43, 44, 47, 48] I I12434 := by rw [eI12434]; exact fzx_pp hy fr12429 (by decide) (by decide)
                    have VI12434 := vsI12426
                    rw [show I12426 (ad g 47) = I12434 (ad g 47) by rw [eI12434, pp_off _ _ (lyx_ne hy (by decide) (by decide) (by decide))]] at VI12434
                    clear eI12434
                    refine WP_aload_n dX2_search_189 rfl ?_
                    refine WP_getr dX2_search_190 fX2_29 rfl (lyx_is hy 43 2 rfl) hl121 ?_
                    refine WP_astore (ls' := [(0, _), (1, _), (2, _), (3, _), (4, _), (5, _), (6, _), (7, _), (8, _)]) dX2_search_193 (by decide) rfl ?_
                    refine WP_aload_n dX2_search_195 rfl ?_
                    refine WP_aload_n dX2_search_196 rfl ?_
                    refine WP_getr dX2_search_197 fX2_25 rfl (lyx_is hy 43 2 rfl) hn121 ?_
                    refine WP_putr dX2_search_200 fX2_29 rfl rfl rfl rfl (lyx_is hy 43 2 rfl) ?_
                    obtain ⟨R12440, eR12440⟩ : ∃ R9 : pR, R9 = pp RI12402 (ad g 43) 7 (some (ad g 47)) := ⟨_, rfl⟩
                    rw [← eR12440]
                    have hrR12440 : RfX g R12440 := by rw [eR12440]; exact rfx_pp hy hrI12402 (by decide)
                    have hSR12440 : R12440 (ad g 0) 10 = R (ad g 0) 10 := by rw [eR12440, pp_ne _ _ (Or.inl (lyx_ne hy (by decide) (by decide) (by decide)))]; exact hSI12402
                    have hTR12440 : R12440 (ad g 5) 0 = some (ad g 6) := by rw [eR12440, pp_ne _ _ (Or.inl (lyx_ne hy (by decide) (by decide) (by decide)))]; exact hTI12402
                    have hOR12440 : R12440 (ad g 43) 6 = some (ad g 47) := by rw [eR12440, pp_ne _ _ (Or.inr (by decide))]; exact hn121
                    have hQR12440 : R12440 (ad g 43) 7 = some (ad g 47) := by rw [eR12440, pp_self]
                    clear eR12440
                    refine WP_aload_n dX2_search_203 rfl ?_
                    refine WP_aload dX2_search_204 rfl ?_
                    refine WP_putr dX2_search_206 fX2_25 rfl rfl rfl rfl (lyx_is hy 43 2 rfl) ?_
                    obtain ⟨R12441, eR12441⟩ : ∃ R9 : pR, R9 = pp R12440 (ad g 43) 6 (some (ad g 48)) := ⟨_, rfl⟩
                    rw [← eR12441]
                    have hrR12441 : RfX g R12441 := by rw [eR12441]; exact rfx_pp hy hrR12440 (by decide)
                    have hSR12441 : R12441 (ad g 0) 10 = R (ad g 0) 10 := by rw [eR12441, pp_ne _ _ (Or.inl (lyx_ne hy (by decide) (by decide) (by decide)))]; exact hSR12440
                    have hTR12441 : R12441 (ad g 5) 0 = some (ad g 6) := by rw [eR12441, pp_ne _ _ (Or.inl (lyx_ne hy (by decide) (by decide) (by decide)))]; exact hTR12440
                    have hOR12441 : R12441 (ad g 43) 7 = some (ad g 47) := by rw [eR12441, pp_ne _ _ (Or.inr (by decide))]; exact hQR12440
                    have hQR12441 : R12441 (ad g 43) 6 = some (ad g 48) := by rw [eR12441, pp_self]
                    clear eR12441
                    refine WP_iinc (ls' := [(0, _), (1, _), (2, _), (3, _), (4, _), (5, _), (6, _), (7, _), (8, _)]) dX2_search_209 rfl (by decide) rfl ?_
                    have hv12442 : (i12401 + Int32.ofInt (-1)).toInt = i12401.toInt + (-1) := ia_n rfl (by omega) (by omega)
                    generalize i12401 + Int32.ofInt (-1) = v12442 at hv12442 ⊢
                    refine WP_goto 121 dX2_search_212 rfl ?_
                    exact WP_sub (fc rfl (fc rfl (fc rfl (fc rfl (fc rfl (fc rfl (fc rfl fn))))))) (ihlp121_12405 v12442 I12434 R12441 hrR12441 hTR12441 hSR12441 (Or.inr ⟨hQR12441, hOR12441⟩) hI12434 fr12439 w12433 e12437 v12428 e12438 (by omega) (by omega) (by omega) (by omega) (by omega) (fun q hq he => by have e := adx_inj hy hq (by decide) (Option.some.inj (he.symm.trans hOR12441)); subst e; exact WB_V VI12434 (by omega) (by omega)) (Or.inl (by omega)) (by omega))
                  · refine WQ_iconst (0) (0) dX2_search_156 rfl rfl (fun v12443 hv12443 => ?_)
                    refine WP_goto 178 dX2_search_157 rfl ?_
                    refine WP_iload_n dX2_search_178 rfl ?_
                    refine WP_iload dX2_search_179 rfl ?_
                    refine WP_iload dX2_search_181 rfl ?_
                    refine WP_callV4 (k := 2) dX2_search_183 ⟨⟨⟨by decide, by decide⟩, zX2_weighDay⟩, lX2_71, by decide, rfl, vX2_weighDay.1, vX2_weighDay.2⟩ (lyx_is hy 43 2 rfl) (sx_weighDayx_48_6 hy hrI12402 hTI12402 hI12414 v12443 so v12413 i12401 (by omega) (by omega) (by omega) (by omega) (by omega) (by omega) (by omega) (by omega) (K := 594 * ((nn.toInt - 1) - i12401.toInt)) (by omega) hl121 hn121 (by rw [fz_at fiI12414 43 (by decide) (by decide), ew12405]; omega) (by rw [fz_at fr12416 24 (by decide) (by decide), fz_at fr12416 25 (by decide) (by decide), fz_at fr12416 26 (by decide) (by decide)]; exact WD_of WI12414 FN12388 ldI12414 (by unfold EA; rw [if_pos (by omega)]; omega) (by omega) (by omega) (by omega) (ldx_p hI (by decide) _ _ _ (by omega) (by omega) ldI12414 (by omega) (by omega)) (sbx_b hI) (cbx_b hI (by omega) (by omega)))) (Nat.le_of_ble_eq_true rfl) ?_
                    intro r I12444 J12445 Ra hq
                    obtain ⟨⟨hI12444, ec, fiI12444, ejI12444, pI12444⟩, v12446, rfl, av12446, bv12446, cv12446⟩ := hq
                    show WP _ _ _ _ (.int _ :: _) _ _ _ _
                    rw [ec]
                    clear ec Ra
                    have fr12447 : fz 74 g [43, 44, 47, 48] I I12444 := fz_tr fr12416 (fz_mono fiI12444 (by decide))
                    rw [ejI12444]
                    clear ejI12444 J12445
                    have e12448 : I12444 (ad g 1) 1 = L := hI12444.2
                    have b12449 := BT_get hI12444.1 1 1 2 (0) (0) (900) (by decide) 1 (by decide) (by decide)
                    rw [e12448] at b12449
                    obtain ⟨w12450, ew12450⟩ : ∃ w : Int32, I12444 (ad g 43) 1 = w := ⟨_, rfl⟩
                    have bw12450 := BT_get hI12444.1 43 1 2 (0) (0) (47) (by decide) 1 (by decide) (by decide)
                    rw [ew12450] at bw12450
                    have vsI12444 := pI12444.1
                    have fuI12444 := pI12444.2
                    rw [ew12450] at fuI12444
                    refine WQ_puti dX2_search_186 fX2_67 rfl rfl (lyx_is hy 43 2 rfl) (fun I12451 eI12451 => ?_)
                    have hI12451 : XI g n L I12451 := by rw [eI12451]; exact (xi_f0 hy hI12444 (c := 43) (by decide) (Or.inl (by decide)) (by decide))
                    have e12452 : I12451 (ad g 1) 1 = L := by rw [eI12451, pp_ne _ _ (Or.inl (lyx_ne hy (by decide) (by decide) (by decide)))]; exact e12448
                    have e12453 : I12451 (ad g 43) 1 = w12450 := by rw [eI12451, pp_ne _ _ (Or.inr (by decide))]; exact ew12450
                    have e12454 : I12451 (ad g 43) 8 = v12446 := by rw [eI12451, pp_self]
                    have fr12455 : fz 74 g [43, 44, 47, 48] I I12451 := by rw [eI12451]; exact fzx_pp hy fr12447 (by decide) (by decide)
                    have VI12451 := vsI12444
                    rw [show I12444 (ad g 47) = I12451 (ad g 47) by rw [eI12451, pp_off _ _ (lyx_ne hy (by decide) (by decide) (by decide))]] at VI12451
                    clear eI12451
                    refine WP_aload_n dX2_search_189 rfl ?_
                    refine WP_getr dX2_search_190 fX2_29 rfl (lyx_is hy 43 2 rfl) hl121 ?_
                    refine WP_astore (ls' := [(0, _), (1, _), (2, _), (3, _), (4, _), (5, _), (6, _), (7, _), (8, _)]) dX2_search_193 (by decide) rfl ?_
                    refine WP_aload_n dX2_search_195 rfl ?_
                    refine WP_aload_n dX2_search_196 rfl ?_
                    refine WP_getr dX2_search_197 fX2_25 rfl (lyx_is hy 43 2 rfl) hn121 ?_
                    refine WP_putr dX2_search_200 fX2_29 rfl rfl rfl rfl (lyx_is hy 43 2 rfl) ?_
                    obtain ⟨R12456, eR12456⟩ : ∃ R9 : pR, R9 = pp RI12402 (ad g 43) 7 (some (ad g 47)) := ⟨_, rfl⟩
                    rw [← eR12456]
                    have hrR12456 : RfX g R12456 := by rw [eR12456]; exact rfx_pp hy hrI12402 (by decide)
                    have hSR12456 : R12456 (ad g 0) 10 = R (ad g 0) 10 := by rw [eR12456, pp_ne _ _ (Or.inl (lyx_ne hy (by decide) (by decide) (by decide)))]; exact hSI12402
                    have hTR12456 : R12456 (ad g 5) 0 = some (ad g 6) := by rw [eR12456, pp_ne _ _ (Or.inl (lyx_ne hy (by decide) (by decide) (by decide)))]; exact hTI12402
                    have hOR12456 : R12456 (ad g 43) 6 = some (ad g 47) := by rw [eR12456, pp_ne _ _ (Or.inr (by decide))]; exact hn121
                    have hQR12456 : R12456 (ad g 43) 7 = some (ad g 47) := by rw [eR12456, pp_self]
                    clear eR12456
                    refine WP_aload_n dX2_search_203 rfl ?_
                    refine WP_aload dX2_search_204 rfl ?_
                    refine WP_putr dX2_search_206 fX2_25 rfl rfl rfl rfl (lyx_is hy 43 2 rfl) ?_
                    obtain ⟨R12457, eR12457⟩ : ∃ R9 : pR, R9 = pp R12456 (ad g 43) 6 (some (ad g 48)) := ⟨_, rfl⟩
                    rw [← eR12457]
                    have hrR12457 : RfX g R12457 := by rw [eR12457]; exact rfx_pp hy hrR12456 (by decide)
                    have hSR12457 : R12457 (ad g 0) 10 = R (ad g 0) 10 := by rw [eR12457, pp_ne _ _ (Or.inl (lyx_ne hy (by decide) (by decide) (by decide)))]; exact hSR12456
                    have hTR12457 : R12457 (ad g 5) 0 = some (ad g 6) := by rw [eR12457, pp_ne _ _ (Or.inl (lyx_ne hy (by decide) (by decide) (by decide)))]; exact hTR12456
                    have hOR12457 : R12457 (ad g 43) 7 = some (ad g 47) := by rw [eR12457, pp_ne _ _ (Or.inr (by decide))]; exact hQR12456
                    have hQR12457 : R12457 (ad g 43) 6 = some (ad g 48) := by rw [eR12457, pp_self]
                    clear eR12457
                    refine WP_iinc (ls' := [(0, _), (1, _), (2, _), (3, _), (4, _), (5, _), (6, _), (7, _), (8, _)]) dX2_search_209 rfl (by decide) rfl ?_
                    have hv12458 : (i12401 + Int32.ofInt (-1)).toInt = i12401.toInt + (-1) := ia_n rfl (by omega) (by omega)
                    generalize i12401 + Int32.ofInt (-1) = v12458 at hv12458 ⊢
                    refine WP_goto 121 dX2_search_212 rfl ?_
                    exact WP_sub (fc rfl (fc rfl (fc rfl (fc rfl (fc rfl (fc rfl (fc rfl fn))))))) (ihlp121_12405 v12458 I12451 R12457 hrR12457 hTR12457 hSR12457 (Or.inr ⟨hQR12457, hOR12457⟩) hI12451 fr12455 w12450 e12453 v12446 e12454 (by omega) (by omega) (by omega) (by omega) (by omega) (fun q hq he => by have e := adx_inj hy hq (by decide) (Option.some.inj (he.symm.trans hOR12457)); subst e; exact WB_V VI12451 (by omega) (by omega)) (Or.inr ⟨_, by rw [show da.toInt = v12413.toInt by omega]; exact ldI12414, FU_end (by have z := fuI12444; rw [show i12401.toInt = (0 : Int) by omega] at z; exact z) PZ_I12380_12381 (by omega) (by omega) (by omega)⟩) (by omega))
              · have W12458 := PW_I12402_12402 47 (by decide) hl121
                refine WP_iload dX2_search_121 rfl ?_
                refine WQ_if_lt 215 dX2_search_123 rfl (fun c12459 => ?_) (fun c12459 => ?_)
                · refine WP_aload_n dX2_search_215 rfl ?_
                  refine WQ_getim dX2_search_216 fX2_75 rfl (lyx_is hy 43 2 rfl) ew12404 ?_
                  exact WP_iret dX2_search_219 rfl ⟨⟨hI12402, ⟨hrI12402, ⟨hTI12402.trans hT.symm, hSI12402⟩, (Or.inr ⟨hn121, hl121⟩)⟩, fiI12402, fjJ12381⟩, _, rfl, by omega, by omega, (PQ_I12402_12402.resolve_left (by omega))⟩
                · refine WP_iload_n dX2_search_126 rfl ?_
                  refine WP_iload dX2_search_127 rfl ?_
                  refine WQ_iadd dX2_search_129 (by omega) (by omega) (fun v12461 hv12461 => ?_)
                  refine WQ_bipush (7) (7) dX2_search_130 rfl rfl (fun v12462 hv12462 => ?_)
                  refine WQ_iremk (7) dX2_search_132 hv12462 (by decide) (by omega) (fun v12463 hv12463 => ?_)
                  refine WP_istore (ls' := [(0, _), (1, _), (2, _), (3, _), (4, _), (5, _), (6, _), (7, _)]) dX2_search_133 (by decide) rfl ?_
                  refine WP_aload_n dX2_search_135 rfl ?_
                  refine WP_getr dX2_search_136 fX2_12 rfl (lyx_is hy 43 2 rfl) (rfx hrI12402 43 3 44 (by decide)) ?_
                  refine WP_aload_n dX2_search_139 rfl ?_
                  refine WP_getr dX2_search_140 fX2_32 rfl (lyx_is hy 43 2 rfl) (rfx hrI12402 43 2 5 (by decide)) ?_
                  refine WP_iload_n dX2_search_143 rfl ?_
                  refine WP_iload dX2_search_144 rfl ?_
                  refine WP_callV3 (k := 6) dX2_search_146 ⟨⟨⟨by decide, by decide⟩, zX6_load⟩, lX2_42, by decide, rfl, vX6_load.1, vX6_load.2⟩ (lyx_is hy 44 6 rfl) (sx_loadx_44_6 hy hrI12402 hTI12402 hI12402 so v12463 (by omega) (by omega) (by omega) (by omega)) (Nat.le_of_ble_eq_true rfl) ?_
                  intro r I12464 J12465 Ra hq
                  obtain ⟨⟨hI12464, ec, fiI12464, ejI12464, pI12464⟩, rfl⟩ := hq
                  rw [ec]
                  clear ec Ra
                  have fr12466 : fz 74 g [43, 44, 47, 48] I I12464 := fz_tr fiI12402 (fz_mono fiI12464 (by decide))
                  rw [ejI12464]
                  clear ejI12464 J12465
                  have ldI12464 := LD_fr pI12464 (fz_at fiI12402 6 (by decide) (by decide)) (fz_at fiI12402 11 (by decide) (by decide)) (fz_at fiI12402 13 (by decide) (by decide)) (fz_at fiI12402 14 (by decide) (by decide)) (fz_at fiI12402 15 (by decide) (by decide)) (fz_at fiI12402 22 (by decide) (by decide))
                  have WI12464 := W12458
                  rw [← fz_at fiI12464 47 (by decide) (by decide)] at WI12464
                  have e12467 : I12464 (ad g 43) 1 = w12404 := by rw [fz_at fiI12464 43 (by decide) (by decide)]; exact ew12404
                  have e12468 : I12464 (ad g 43) 8 = w12405 := by rw [fz_at fiI12464 43 (by decide) (by decide)]; exact ew12405
                  have e12469 : I12464 (ad g 1) 1 = L := hI12464.2
                  have b12470 := BT_get hI12464.1 1 1 2 (0) (0) (900) (by decide) 1 (by decide) (by decide)
                  rw [e12469] at b12470
                  refine WP_aload_n dX2_search_149 rfl ?_
                  refine WP_aload_n dX2_search_150 rfl ?_
                  refine WP_iload dX2_search_151 rfl ?_
                  refine WQ_if_ne 160 dX2_search_153 rfl (fun c12470 => ?_) (fun c12470 => ?_)
                  · refine WP_aload_n dX2_search_160 rfl ?_
                    refine WP_getr dX2_search_161 fX2_32 rfl (lyx_is hy 43 2 rfl) (rfx hrI12402 43 2 5 (by decide)) ?_
                    refine WP_getr dX2_search_164 fX2_46 rfl (lyx_is hy 5 0 rfl) hTI12402 ?_
                    refine WP_getr dX2_search_167 fX2_52 rfl (lyx_is hy 6 7 rfl) (rfx hrI12402 6 10 12 (by decide)) ?_
                    refine WP_iload_n dX2_search_170 rfl ?_
                    refine WQ_bipush (7) (7) dX2_search_171 rfl rfl (fun v12472 hv12472 => ?_)
                    refine WQ_imulk (7) dX2_search_173 hv12472 (by omega) (by omega) (fun v12473 hv12473 => ?_)
                    refine WP_iload dX2_search_174 rfl ?_
                    refine WQ_iadd dX2_search_176 (by omega) (by omega) (fun v12474 hv12474 => ?_)
                    refine WQ_iald dX2_search_177 (lyx_is hy 12 13 rfl) (lyx_n hy 12 28 rfl) (by omega) (by omega) (fun q hq => BT_get hI12464.1 12 0 28 (0) (0) (20) (by decide) q (Nat.zero_le _) hq) (fun v12475 av12475 bv12475 ev12475 => ?_)
                    refine WP_iload_n dX2_search_178 rfl ?_
                    refine WP_iload dX2_search_179 rfl ?_
                    refine WP_iload dX2_search_181 rfl ?_
                    refine WP_callV4 (k := 2) dX2_search_183 ⟨⟨⟨by decide, by decide⟩, zX2_weighDay⟩, lX2_71, by decide, rfl, vX2_weighDay.1, vX2_weighDay.2⟩ (lyx_is hy 43 2 rfl) (sx_weighDayx_47_6 hy hrI12402 hTI12402 hI12464 v12475 so v12463 i12401 (by omega) (by omega) (by omega) (by omega) (by omega) (by omega) (by omega) (by omega) (K := 594 * ((nn.toInt - 1) - i12401.toInt)) (by omega) hl121 hn121 (by rw [fz_at fiI12464 43 (by decide) (by decide), ew12405]; omega) (by rw [fz_at fr12466 24 (by decide) (by decide), fz_at fr12466 25 (by decide) (by decide), fz_at fr12466 26 (by decide) (by decide)]; exact WD_of WI12464 FN12388 ldI12464 (by unfold EA; rw [if_neg (by omega), show I (ad g (6 + 6)) = I12464 (ad g 12) from (fz_at fr12466 12 (by decide) (by decide)).symm, ← cl (x := v12474) (n := (7 * so.toInt + v12463.toInt).toNat) (by omega), ev12475]) (by omega) (by omega) (by omega) (ldx_p hI (by decide) _ _ _ (by omega) (by omega) ldI12464 (by omega) (by omega)) (sbx_b hI) (cbx_b hI (by omega) (by omega)))) (Nat.le_of_ble_eq_true rfl) ?_
                    intro r I12476 J12477 Ra hq
                    obtain ⟨⟨hI12476, ec, fiI12476, ejI12476, pI12476⟩, v12478, rfl, av12478, bv12478, cv12478⟩ := hq
                    show WP _ _ _ _ (.int _ :: _) _ _ _ _
                    rw [ec]
                    clear ec Ra
                    have fr12479 : fz 74 g [43, 44, 47, 48] I I12476 := fz_tr fr12466 (fz_mono fiI12476 (by decide))
                    rw [ejI12476]
                    clear ejI12476 J12477
                    have e12480 : I12476 (ad g 12) v12474.toNatClampNeg = v12475 := by rw [fz_at fiI12476 12 (by decide) (by decide)]; exact ev12475
                    have e12481 : I12476 (ad g 1) 1 = L := hI12476.2
                    have b12482 := BT_get hI12476.1 1 1 2 (0) (0) (900) (by decide) 1 (by decide) (by decide)
                    rw [e12481] at b12482
                    obtain ⟨w12483, ew12483⟩ : ∃ w : Int32, I12476 (ad g 43) 1 = w := ⟨_, rfl⟩
                    have bw12483 := BT_get hI12476.1 43 1 2 (0) (0) (47) (by decide) 1 (by decide) (by decide)
                    rw [ew12483] at bw12483
                    have vsI12476 := pI12476.1
                    have fuI12476 := pI12476.2
                    rw [ew12483] at fuI12476
                    refine WQ_puti dX2_search_186 fX2_67 rfl rfl (lyx_is hy 43 2 rfl) (fun I12484 eI12484 => ?_)
                    have hI12484 : XI g n L I12484 := by rw [eI12484]; exact (xi_f0 hy hI12476 (c := 43) (by decide) (Or.inl (by decide)) (by decide))
                    have e12485 : I12484 (ad g 12) v12474.toNatClampNeg = v12475 := by rw [eI12484, pp_ne _ _ (Or.inl (lyx_ne hy (by decide) (by decide) (by decide)))]; exact e12480
                    have e12486 : I12484 (ad g 1) 1 = L := by rw [eI12484, pp_ne _ _ (Or.inl (lyx_ne hy (by decide) (by decide) (by decide)))]; exact e12481
                    have e12487 : I12484 (ad g 43) 1 = w12483 := by rw [eI12484, pp_ne _ _ (Or.inr (by decide))]; exact ew12483
                    have e12488 : I12484 (ad g 43) 8 = v12478 := by rw [eI12484, pp_self]
                    have fr12489 : fz 74 g [43, 44, 47, 48] I I12484 := by rw [eI12484]; exact fzx_pp hy fr12479 (by decide) (by decide)
                    have VI12484 := vsI12476
                    rw [show I12476 (ad g 48) = I12484 (ad g 48) by rw [eI12484, pp_off _ _ (lyx_ne hy (by decide) (by decide) (by decide))]] at VI12484
                    clear eI12484
                    refine WP_aload_n dX2_search_189 rfl ?_
                    refine WP_getr dX2_search_190 fX2_29 rfl (lyx_is hy 43 2 rfl) hl121 ?_
                    refine WP_astore (ls' := [(0, _), (1, _), (2, _), (3, _), (4, _), (5, _), (6, _), (7, _), (8, _)]) dX2_search_193 (by decide) rfl ?_
                    refine WP_aload_n dX2_search_195 rfl ?_
                    refine WP_aload_n dX2_search_196 rfl ?_
                    refine WP_getr dX2_search_197 fX2_25 rfl (lyx_is hy 43 2 rfl) hn121 ?_
                    refine WP_putr dX2_search_200 fX2_29 rfl rfl rfl rfl (lyx_is hy 43 2 rfl) ?_
                    obtain ⟨R12490, eR12490⟩ : ∃ R9 : pR, R9 = pp RI12402 (ad g 43) 7 (some (ad g 48)) := ⟨_, rfl⟩
                    rw [← eR12490]
                    have hrR12490 : RfX g R12490 := by rw [eR12490]; exact rfx_pp hy hrI12402 (by decide)
                    have hSR12490 : R12490 (ad g 0) 10 = R (ad g 0) 10 := by rw [eR12490, pp_ne _ _ (Or.inl (lyx_ne hy (by decide) (by decide) (by decide)))]; exact hSI12402
                    have hTR12490 : R12490 (ad g 5) 0 = some (ad g 6) := by rw [eR12490, pp_ne _ _ (Or.inl (lyx_ne hy (by decide) (by decide) (by decide)))]; exact hTI12402
                    have hOR12490 : R12490 (ad g 43) 6 = some (ad g 48) := by rw [eR12490, pp_ne _ _ (Or.inr (by decide))]; exact hn121
                    have hQR12490 : R12490 (ad g 43) 7 = some (ad g 48) := by rw [eR12490, pp_self]
                    clear eR12490
                    refine WP_aload_n dX2_search_203 rfl ?_
                    refine WP_aload dX2_search_204 rfl ?_
                    refine WP_putr dX2_search_206 fX2_25 rfl rfl rfl rfl (lyx_is hy 43 2 rfl) ?_
                    obtain ⟨R12491, eR12491⟩ : ∃ R9 : pR, R9 = pp R12490 (ad g 43) 6 (some (ad g 47)) := ⟨_, rfl⟩
                    rw [← eR12491]
                    have hrR12491 : RfX g R12491 := by rw [eR12491]; exact rfx_pp hy hrR12490 (by decide)
                    have hSR12491 : R12491 (ad g 0) 10 = R (ad g 0) 10 := by rw [eR12491, pp_ne _ _ (Or.inl (lyx_ne hy (by decide) (by decide) (by decide)))]; exact hSR12490
                    have hTR12491 : R12491 (ad g 5) 0 = some (ad g 6) := by rw [eR12491, pp_ne _ _ (Or.inl (lyx_ne hy (by decide) (by decide) (by decide)))]; exact hTR12490
                    have hOR12491 : R12491 (ad g 43) 7 = some (ad g 48) := by rw [eR12491, pp_ne _ _ (Or.inr (by decide))]; exact hQR12490
                    have hQR12491 : R12491 (ad g 43) 6 = some (ad g 47) := by rw [eR12491, pp_self]
                    clear eR12491
                    refine WP_iinc (ls' := [(0, _), (1, _), (2, _), (3, _), (4, _), (5, _), (6, _), (7, _), (8, _)]) dX2_search_209 rfl (by decide) rfl ?_
                    have hv12492 : (i12401 + Int32.ofInt (-1)).toInt = i12401.toInt + (-1) := ia_n rfl (by omega) (by omega)
                    generalize i12401 + Int32.ofInt (-1) = v12492 at hv12492 ⊢
                    refine WP_goto 121 dX2_search_212 rfl ?_
                    exact WP_sub (fc rfl (fc rfl (fc rfl (fc rfl (fc rfl (fc rfl (fc rfl fn))))))) (ihlp121_12405 v12492 I12484 R12491 hrR12491 hTR12491 hSR12491 (Or.inl ⟨hQR12491, hOR12491⟩) hI12484 fr12489 w12483 e12487 v12478 e12488 (by omega) (by omega) (by omega) (by omega) (by omega) (fun q hq he => by have e := adx_inj hy hq (by decide) (Option.some.inj (he.symm.trans hOR12491)); subst e; exact WB_V VI12484 (by omega) (by omega)) (Or.inl (by omega)) (by omega))
                  · refine WQ_iconst (0) (0) dX2_search_156 rfl rfl (fun v12493 hv12493 => ?_)
                    refine WP_goto 178 dX2_search_157 rfl ?_
                    refine WP_iload_n dX2_search_178 rfl ?_
                    refine WP_iload dX2_search_179 rfl ?_
                    refine WP_iload dX2_search_181 rfl ?_
                    refine WP_callV4 (k := 2) dX2_search_183 ⟨⟨⟨by decide, by decide⟩, zX2_weighDay⟩, lX2_71, by decide, rfl, vX2_weighDay.1, vX2_weighDay.2⟩ (lyx_is hy 43 2 rfl) (sx_weighDayx_47_6 hy hrI12402 hTI12402 hI12464 v12493 so v12463 i12401 (by omega) (by omega) (by omega) (by omega) (by omega) (by omega) (by omega) (by omega) (K := 594 * ((nn.toInt - 1) - i12401.toInt)) (by omega) hl121 hn121 (by rw [fz_at fiI12464 43 (by decide) (by decide), ew12405]; omega) (by rw [fz_at fr12466 24 (by decide) (by decide), fz_at fr12466 25 (by decide) (by decide), fz_at fr12466 26 (by decide) (by decide)]; exact WD_of WI12464 FN12388 ldI12464 (by unfold EA; rw [if_pos (by omega)]; omega) (by omega) (by omega) (by omega) (ldx_p hI (by decide) _ _ _ (by omega) (by omega) ldI12464 (by omega) (by omega)) (sbx_b hI) (cbx_b hI (by omega) (by omega)))) (Nat.le_of_ble_eq_true rfl) ?_
                    intro r I12494 J12495 Ra hq
                    obtain ⟨⟨hI12494, ec, fiI12494, ejI12494, pI12494⟩, v12496, rfl, av12496, bv12496, cv12496⟩ := hq
                    show WP _ _ _ _ (.int _ :: _) _ _ _ _
                    rw [ec]
                    clear ec Ra
                    have fr12497 : fz 74 g [43, 44, 47, 48] I I12494 := fz_tr fr12466 (fz_mono fiI12494 (by decide))
                    rw [ejI12494]
                    clear ejI12494 J12495
                    have e12498 : I12494 (ad g 1) 1 = L := hI12494.2
                    have b12499 := BT_get hI12494.1 1 1 2 (0) (0) (900) (by decide) 1 (by decide) (by decide)
                    rw [e12498] at b12499
                    obtain ⟨w12500, ew12500⟩ : ∃ w : Int32, I12494 (ad g 43) 1 = w := ⟨_, rfl⟩
                    have bw12500 := BT_get hI12494.1 43 1 2 (0) (0) (47) (by decide) 1 (by decide) (by decide)
                    rw [ew12500] at bw12500
                    have vsI12494 := pI12494.1
                    have fuI12494 := pI12494.2
                    rw [ew12500] at fuI12494
                    refine WQ_puti dX2_search_186 fX2_67 rfl rfl (lyx_is hy 43 2 rfl) (fun I12501 eI12501 => ?_)
                    have hI12501 : XI g n L I12501 := by rw [eI12501]; exact (xi_f0 hy hI12494 (c := 43) (by decide) (Or.inl (by decide)) (by decide))
                    have e12502 : I12501 (ad g 1) 1 = L := by rw [eI12501, pp_ne _ _ (Or.inl (lyx_ne hy (by decide) (by decide) (by decide)))]; exact e12498
                    have e12503 : I12501 (ad g 43) 1 = w12500 := by rw [eI12501, pp_ne _ _ (Or.inr (by decide))]; exact ew12500
                    have e12504 : I12501 (ad g 43) 8 = v12496 := by rw [eI12501, pp_self]
                    have fr12505 : fz 74 g [43, 44, 47, 48] I I12501 := by rw [eI12501]; exact fzx_pp hy fr12497 (by decide) (by decide)
                    have VI12501 := vsI12494
                    rw [show I12494 (ad g 48) = I12501 (ad g 48) by rw [eI12501, pp_off _ _ (lyx_ne hy (by decide) (by decide) (by decide))]] at VI12501
                    clear eI12501
                    refine WP_aload_n dX2_search_189 rfl ?_
                    refine WP_getr dX2_search_190 fX2_29 rfl (lyx_is hy 43 2 rfl) hl121 ?_
                    refine WP_astore (ls' := [(0, _), (1, _), (2, _), (3, _), (4, _), (5, _), (6, _), (7, _), (8, _)]) dX2_search_193 (by decide) rfl ?_
                    refine WP_aload_n dX2_search_195 rfl ?_
                    refine WP_aload_n dX2_search_196 rfl ?_
                    refine WP_getr dX2_search_197 fX2_25 rfl (lyx_is hy 43 2 rfl) hn121 ?_
                    refine WP_putr dX2_search_200 fX2_29 rfl rfl rfl rfl (lyx_is hy 43 2 rfl) ?_
                    obtain ⟨R12506, eR12506⟩ : ∃ R9 : pR, R9 = pp RI12402 (ad g 43) 7 (some (ad g 48)) := ⟨_, rfl⟩
                    rw [← eR12506]
                    have hrR12506 : RfX g R12506 := by rw [eR12506]; exact rfx_pp hy hrI12402 (by decide)
                    have hSR12506 : R12506 (ad g 0) 10 = R (ad g 0) 10 := by rw [eR12506, pp_ne _ _ (Or.inl (lyx_ne hy (by decide) (by decide) (by decide)))]; exact hSI12402
                    have hTR12506 : R12506 (ad g 5) 0 = some (ad g 6) := by rw [eR12506, pp_ne _ _ (Or.inl (lyx_ne hy (by decide) (by decide) (by decide)))]; exact hTI12402
                    have hOR12506 : R12506 (ad g 43) 6 = some (ad g 48) := by rw [eR12506, pp_ne _ _ (Or.inr (by decide))]; exact hn121
                    have hQR12506 : R12506 (ad g 43) 7 = some (ad g 48) := by rw [eR12506, pp_self]
                    clear eR12506
                    refine WP_aload_n dX2_search_203 rfl ?_
                    refine WP_aload dX2_search_204 rfl ?_
                    refine WP_putr dX2_search_206 fX2_25 rfl rfl rfl rfl (lyx_is hy 43 2 rfl) ?_
                    obtain ⟨R12507, eR12507⟩ : ∃ R9 : pR, R9 = pp R12506 (ad g 43) 6 (some (ad g 47)) := ⟨_, rfl⟩
                    rw [← eR12507]
                    have hrR12507 : RfX g R12507 := by rw [eR12507]; exact rfx_pp hy hrR12506 (by decide)
                    have hSR12507 : R12507 (ad g 0) 10 = R (ad g 0) 10 := by rw [eR12507, pp_ne _ _ (Or.inl (lyx_ne hy (by decide) (by decide) (by decide)))]; exact hSR12506
                    have hTR12507 : R12507 (ad g 5) 0 = some (ad g 6) := by rw [eR12507, pp_ne _ _ (Or.inl (lyx_ne hy (by decide) (by decide) (by decide)))]; exact hTR12506
                    have hOR12507 : R12507 (ad g 43) 7 = some (ad g 48) := by rw [eR12507, pp_ne _ _ (Or.inr (by decide))]; exact hQR12506
                    have hQR12507 : R12507 (ad g 43) 6 = some (ad g 47) := by rw [eR12507, pp_self]
                    clear eR12507
                    refine WP_iinc (ls' := [(0, _), (1, _), (2, _), (3, _), (4, _), (5, _), (6, _), (7, _), (8, _)]) dX2_search_209 rfl (by decide) rfl ?_
                    have hv12508 : (i12401 + Int32.ofInt (-1)).toInt = i12401.toInt + (-1) := ia_n rfl (by omega) (by omega)
                    generalize i12401 + Int32.ofInt (-1) = v12508 at hv12508 ⊢
                    refine WP_goto 121 dX2_search_212 rfl ?_
                    exact WP_sub (fc rfl (fc rfl (fc rfl (fc rfl (fc rfl (fc rfl (fc rfl fn))))))) (ihlp121_12405 v12508 I12501 R12507 hrR12507 hTR12507 hSR12507 (Or.inl ⟨hQR12507, hOR12507⟩) hI12501 fr12505 w12500 e12503 v12496 e12504 (by omega) (by omega) (by omega) (by omega) (by omega) (fun q hq he => by have e := adx_inj hy hq (by decide) (Option.some.inj (he.symm.trans hOR12507)); subst e; exact WB_V VI12501 (by omega) (by omega)) (Or.inr ⟨_, by rw [show da.toInt = v12463.toInt by omega]; exact ldI12464, FU_end (by have z := fuI12494; rw [show i12401.toInt = (0 : Int) by omega] at z; exact z) PZ_I12380_12381 (by omega) (by omega) (by omega)⟩) (by omega))
          obtain ⟨w12509, ew12509⟩ : ∃ w : Int32, I12395 (ad g 43) 1 = w := ⟨_, rfl⟩
          have bw12509 := BT_get hI12395.1 43 1 2 (0) (0) (47) (by decide) 1 (by decide) (by decide)
          rw [ew12509] at bw12509
          exact WP_sub (fc rfl (fc rfl (fc rfl (fc rfl (fc rfl (fc rfl (fc rfl fn))))))) (lp121_12405 _ v12400 I12395 RI12380 hrI12380 hTI12380 hSI12380 (Or.inl ⟨hn102, hl102⟩) hI12395 fr12398 w12509 ew12509 v12394 e12397 (by omega) (by omega) (by omega) (by omega) (by omega) (fun q hq he => by have e := adx_inj hy hq (by decide) (Option.some.inj (he.symm.trans hl102)); subst e; exact (by rw [show v12400.toInt = (nn.toInt - 1) by omega]; exact WI12395)) (Or.inl (by omega)) (Nat.lt_succ_self _))
        · have FN12509 : FWD g 6 I (J12381 (ad g 45)) so.toInt da.toInt (nn.toInt - 1) := by rw [show (nn.toInt - 1) = i12379.toInt by omega]; exact PF_I12380_12381
          refine WP_aload_n dX2_search_102 rfl ?_
          refine WP_getr dX2_search_103 fX2_29 rfl (lyx_is hy 43 2 rfl) hl102 ?_
          refine WQ_iconst (0) (0) dX2_search_106 rfl rfl (fun v12511 hv12511 => ?_)
          refine WP_callS2u dX2_search_107 ⟨⟨⟨by decide, by decide⟩, zJ7_fill_53178⟩, lX2_64, tJ7_fill_53178⟩ (s_fill hy hrI12380 47 366 rfl rfl (by decide) v12511) (Nat.le_of_ble_eq_true rfl) ?_
          obtain ⟨I12512, eI12512⟩ : ∃ I9 : pI, I9 = fi I12380 (ad g 47) 366 v12511 := ⟨_, rfl⟩
          rw [← eI12512]
          have hI12512 : XI g n L I12512 := by rw [eI12512]; exact (xi_fill0 hy hI12380 47 366 v12511 (by decide) (by decide))
          have e12513 : I12512 (ad g 1) 1 = L := by rw [eI12512, fi_off (lyx_ne hy (by decide) (by decide) (by decide))]; exact e12384
          have fr12514 : fz 74 g [43, 44, 47, 48] I I12512 := by rw [eI12512]; exact fzx_fi hy fiI12380 (by decide) (by decide)
          have WI12512 : WB (J12381 (ad g 45)) (I12512 (ad g 47)) (nn.toInt - 1) (nn.toInt - 1) := WB_0 eI12512 hv12511
          clear eI12512
          refine WP_aload_n dX2_search_110 rfl ?_
          refine WQ_iconst (0) (0) dX2_search_111 rfl rfl (fun v12515 hv12515 => ?_)
          refine WQ_puti dX2_search_112 fX2_67 rfl rfl (lyx_is hy 43 2 rfl) (fun I12516 eI12516 => ?_)
          have hI12516 : XI g n L I12516 := by rw [eI12516]; exact (xi_f0 hy hI12512 (c := 43) (by decide) (Or.inl (by decide)) (by decide))
          have e12517 : I12516 (ad g 1) 1 = L := by rw [eI12516, pp_ne _ _ (Or.inl (lyx_ne hy (by decide) (by decide) (by decide)))]; exact e12513
          have e12518 : I12516 (ad g 43) 8 = v12515 := by rw [eI12516, pp_self]
          have fr12519 : fz 74 g [43, 44, 47, 48] I I12516 := by rw [eI12516]; exact fzx_pp hy fr12514 (by decide) (by decide)
          have WI12516 : WB (J12381 (ad g 45)) (I12516 (ad g 47)) (nn.toInt - 1) (nn.toInt - 1) := by rw [eI12516, pp_off _ _ (lyx_ne hy (by decide) (by decide) (by decide))]; exact WI12512
          clear eI12516
          refine WP_iload dX2_search_115 rfl ?_
          refine WQ_iconst (1) (1) dX2_search_117 rfl rfl (fun v12520 hv12520 => ?_)
          refine WQ_isub dX2_search_118 (by omega) (by omega) (fun v12521 hv12521 => ?_)
          refine WP_istore (ls' := [(0, _), (1, _), (2, _), (3, _), (4, _), (5, _), (6, _)]) dX2_search_119 (by decide) rfl ?_
          have lp121_12526 : ∀ (mz : Nat) (i12522 : Int32) (I12523 : pI) (RI12523 : pR), RfX g RI12523 → RI12523 (ad g 5) 0 = some (ad g 6) → RI12523 (ad g 0) 10 = R (ad g 0) 10 → NL g RI12523 → XI g n L I12523 → fz 74 g [43, 44, 47, 48] I I12523 → ∀ (w12525 : Int32), I12523 (ad g 43) 1 = w12525 → ∀ (w12526 : Int32), I12523 (ad g 43) 8 = w12526 → -1 ≤ i12522.toInt → i12522.toInt ≤ 27 → i12522.toInt ≤ nn.toInt - 1 → 0 ≤ w12526.toInt → w12526.toInt ≤ 594 * (nn.toInt - 1 - i12522.toInt) → (∀ q : Nat, q < 74 → RI12523 (ad g 43) 7 = some (ad g q) → WB (J12381 (ad g 45)) (I12523 (ad g q)) (nn.toInt - 1) i12522.toInt) → (0 ≤ i12522.toInt ∨ ∃ T : Nat → Int32, LD g 6 I so.toInt da.toInt T ∧ AOKd T co.toInt st.toInt w12525.toInt) → (i12522.toInt + 1).toNat < mz → WP g mX2_search 121 [(0, .ref (ad g 43)), (1, .int so), (2, .int da), (3, .int co), (4, .int st), (5, .int nn), (6, .int i12522)] [] I12523 J12381 RI12523 (fun r I' J' R' => (XI g n L I' ∧ (RfX g R' ∧ (R' (ad g 5) 0 = R (ad g 5) 0 ∧ R' (ad g 0) 10 = R (ad g 0) 10) ∧ NL g R') ∧ fz 74 g [43, 44, 47, 48] I I' ∧ fz 74 g [45, 46] J J') ∧ ∃ v : Int32, r = some (.int v) ∧ 0 ≤ v.toInt ∧ v.toInt ≤ 47 ∧ (∃ T : Nat → Int32, LD g 6 I so.toInt da.toInt T ∧ AOKd T co.toInt st.toInt v.toInt)) := by
            intro mz
            induction mz with
            | zero =>
              intro i12522 I12523 RI12523 hrI12523 hTI12523 hSI12523 hPI12523 hI12523 fiI12523 w12525 ew12525 w12526 ew12526 ai12522 bi12522 j0_I12523_12523 j1_I12523_12523 j2_I12523_12523 PW_I12523_12523 PQ_I12523_12523 hmlp121_12526
              exact absurd hmlp121_12526 (Nat.not_lt_zero _)
            | succ mz ihlp121_12526 =>
              intro i12522 I12523 RI12523 hrI12523 hTI12523 hSI12523 hPI12523 hI12523 fiI12523 w12525 ew12525 w12526 ew12526 ai12522 bi12522 j0_I12523_12523 j1_I12523_12523 j2_I12523_12523 PW_I12523_12523 PQ_I12523_12523 hmlp121_12526
              have bw12525 := BT_get hI12523.1 43 1 2 (0) (0) (47) (by decide) 1 (by decide) (by decide)
              rw [ew12525] at bw12525
              have e12528 : I12523 (ad g 1) 1 = L := hI12523.2
              have b12529 := BT_get hI12523.1 1 1 2 (0) (0) (900) (by decide) 1 (by decide) (by decide)
              rw [e12528] at b12529
              rcases hPI12523 with ⟨hn121, hl121⟩ | ⟨hn121, hl121⟩
              · have W12529 := PW_I12523_12523 48 (by decide) hl121
                refine WP_iload dX2_search_121 rfl ?_
                refine WQ_if_lt 215 dX2_search_123 rfl (fun c12530 => ?_) (fun c12530 => ?_)
                · refine WP_aload_n dX2_search_215 rfl ?_
                  refine WQ_getim dX2_search_216 fX2_75 rfl (lyx_is hy 43 2 rfl) ew12525 ?_
                  exact WP_iret dX2_search_219 rfl ⟨⟨hI12523, ⟨hrI12523, ⟨hTI12523.trans hT.symm, hSI12523⟩, (Or.inl ⟨hn121, hl121⟩)⟩, fiI12523, fjJ12381⟩, _, rfl, by omega, by omega, (PQ_I12523_12523.resolve_left (by omega))⟩
                · refine WP_iload_n dX2_search_126 rfl ?_
                  refine WP_iload dX2_search_127 rfl ?_
                  refine WQ_iadd dX2_search_129 (by omega) (by omega) (fun v12532 hv12532 => ?_)
                  refine WQ_bipush (7) (7) dX2_search_130 rfl rfl (fun v12533 hv12533 => ?_)
                  refine WQ_iremk (7) dX2_search_132 hv12533 (by decide) (by omega) (fun v12534 hv12534 => ?_)
                  refine WP_istore (ls' := [(0, _), (1, _), (2, _), (3, _), (4, _), (5, _), (6, _), (7, _)]) dX2_search_133 (by decide) rfl ?_
                  refine WP_aload_n dX2_search_135 rfl ?_
                  refine WP_getr dX2_search_136 fX2_12 rfl (lyx_is hy 43 2 rfl) (rfx hrI12523 43 3 44 (by decide)) ?_
                  refine WP_aload_n dX2_search_139 rfl ?_
                  refine WP_getr dX2_search_140 fX2_32 rfl (lyx_is hy 43 2 rfl) (rfx hrI12523 43 2 5 (by decide)) ?_
                  refine WP_iload_n dX2_search_143 rfl ?_
                  refine WP_iload dX2_search_144 rfl ?_
                  refine WP_callV3 (k := 6) dX2_search_146 ⟨⟨⟨by decide, by decide⟩, zX6_load⟩, lX2_42, by decide, rfl, vX6_load.1, vX6_load.2⟩ (lyx_is hy 44 6 rfl) (sx_loadx_44_6 hy hrI12523 hTI12523 hI12523 so v12534 (by omega) (by omega) (by omega) (by omega)) (Nat.le_of_ble_eq_true rfl) ?_
                  intro r I12535 J12536 Ra hq
                  obtain ⟨⟨hI12535, ec, fiI12535, ejI12535, pI12535⟩, rfl⟩ := hq
                  rw [ec]
                  clear ec Ra
                  have fr12537 : fz 74 g [43, 44, 47, 48] I I12535 := fz_tr fiI12523 (fz_mono fiI12535 (by decide))
                  rw [ejI12535]
                  clear ejI12535 J12536
                  have ldI12535 := LD_fr pI12535 (fz_at fiI12523 6 (by decide) (by decide)) (fz_at fiI12523 11 (by decide) (by decide)) (fz_at fiI12523 13 (by decide) (by decide)) (fz_at fiI12523 14 (by decide) (by decide)) (fz_at fiI12523 15 (by decide) (by decide)) (fz_at fiI12523 22 (by decide) (by decide))
                  have WI12535 := W12529
                  rw [← fz_at fiI12535 48 (by decide) (by decide)] at WI12535
                  have e12538 : I12535 (ad g 43) 1 = w12525 := by rw [fz_at fiI12535 43 (by decide) (by decide)]; exact ew12525
                  have e12539 : I12535 (ad g 43) 8 = w12526 := by rw [fz_at fiI12535 43 (by decide) (by decide)]; exact ew12526
                  have e12540 : I12535 (ad g 1) 1 = L := hI12535.2
                  have b12541 := BT_get hI12535.1 1 1 2 (0) (0) (900) (by decide) 1 (by decide) (by decide)
                  rw [e12540] at b12541
                  refine WP_aload_n dX2_search_149 rfl ?_
                  refine WP_aload_n dX2_search_150 rfl ?_
                  refine WP_iload dX2_search_151 rfl ?_
                  refine WQ_if_ne 160 dX2_search_153 rfl (fun c12541 => ?_) (fun c12541 => ?_)
                  · refine WP_aload_n dX2_search_160 rfl ?_
                    refine WP_getr dX2_search_161 fX2_32 rfl (lyx_is hy 43 2 rfl) (rfx hrI12523 43 2 5 (by decide)) ?_
                    refine WP_getr dX2_search_164 fX2_46 rfl (lyx_is hy 5 0 rfl) hTI12523 ?_
                    refine WP_getr dX2_search_167 fX2_52 rfl (lyx_is hy 6 7 rfl) (rfx hrI12523 6 10 12 (by decide)) ?_
                    refine WP_iload_n dX2_search_170 rfl ?_
                    refine WQ_bipush (7) (7) dX2_search_171 rfl rfl (fun v12543 hv12543 => ?_)
                    refine WQ_imulk (7) dX2_search_173 hv12543 (by omega) (by omega) (fun v12544 hv12544 => ?_)
                    refine WP_iload dX2_search_174 rfl ?_
                    refine WQ_iadd dX2_search_176 (by omega) (by omega) (fun v12545 hv12545 => ?_)
                    refine WQ_iald dX2_search_177 (lyx_is hy 12 13 rfl) (lyx_n hy 12 28 rfl) (by omega) (by omega) (fun q hq => BT_get hI12535.1 12 0 28 (0) (0) (20) (by decide) q (Nat.zero_le _) hq) (fun v12546 av12546 bv12546 ev12546 => ?_)
                    refine WP_iload_n dX2_search_178 rfl ?_
                    refine WP_iload dX2_search_179 rfl ?_
                    refine WP_iload dX2_search_181 rfl ?_
                    refine WP_callV4 (k := 2) dX2_search_183 ⟨⟨⟨by decide, by decide⟩, zX2_weighDay⟩, lX2_71, by decide, rfl, vX2_weighDay.1, vX2_weighDay.2⟩ (lyx_is hy 43 2 rfl) (sx_weighDayx_48_6 hy hrI12523 hTI12523 hI12535 v12546 so v12534 i12522 (by omega) (by omega) (by omega) (by omega) (by omega) (by omega) (by omega) (by omega) (K := 594 * ((nn.toInt - 1) - i12522.toInt)) (by omega) hl121 hn121 (by rw [fz_at fiI12535 43 (by decide) (by decide), ew12526]; omega) (by rw [fz_at fr12537 24 (by decide) (by decide), fz_at fr12537 25 (by decide) (by decide), fz_at fr12537 26 (by decide) (by decide)]; exact WD_of WI12535 FN12509 ldI12535 (by unfold EA; rw [if_neg (by omega), show I (ad g (6 + 6)) = I12535 (ad g 12) from (fz_at fr12537 12 (by decide) (by decide)).symm, ← cl (x := v12545) (n := (7 * so.toInt + v12534.toInt).toNat) (by omega), ev12546]) (by omega) (by omega) (by omega) (ldx_p hI (by decide) _ _ _ (by omega) (by omega) ldI12535 (by omega) (by omega)) (sbx_b hI) (cbx_b hI (by omega) (by omega)))) (Nat.le_of_ble_eq_true rfl) ?_
                    intro r I12547 J12548 Ra hq
                    obtain ⟨⟨hI12547, ec, fiI12547, ejI12547, pI12547⟩, v12549, rfl, av12549, bv12549, cv12549⟩ := hq
                    show WP _ _ _ _ (.int _ :: _) _ _ _ _
                    rw [ec]
                    clear ec Ra
                    have fr12550 : fz 74 g [43, 44, 47, 48] I I12547 := fz_tr fr12537 (fz_mono fiI12547 (by decide))
                    rw [ejI12547]
                    clear ejI12547 J12548
                    have e12551 : I12547 (ad g 12) v12545.toNatClampNeg = v12546 := by rw [fz_at fiI12547 12 (by decide) (by decide)]; exact ev12546
                    have e12552 : I12547 (ad g 1) 1 = L := hI12547.2
                    have b12553 := BT_get hI12547.1 1 1 2 (0) (0) (900) (by decide) 1 (by decide) (by decide)
                    rw [e12552] at b12553
                    obtain ⟨w12554, ew12554⟩ : ∃ w : Int32, I12547 (ad g 43) 1 = w := ⟨_, rfl⟩
                    have bw12554 := BT_get hI12547.1 43 1 2 (0) (0) (47) (by decide) 1 (by decide) (by decide)
                    rw [ew12554] at bw12554
                    have vsI12547 := pI12547.1
                    have fuI12547 := pI12547.2
                    rw [ew12554] at fuI12547
                    refine WQ_puti dX2_search_186 fX2_67 rfl rfl (lyx_is hy 43 2 rfl) (fun I12555 eI12555 => ?_)
                    have hI12555 : XI g n L I12555 := by rw [eI12555]; exact (xi_f0 hy hI12547 (c := 43) (by decide) (Or.inl (by decide)) (by decide))
                    have e12556 : I12555 (ad g 12) v12545.toNatClampNeg = v12546 := by rw [eI12555, pp_ne _ _ (Or.inl (lyx_ne hy (by decide) (by decide) (by decide)))]; exact e12551
                    have e12557 : I12555 (ad g 1) 1 = L := by rw [eI12555, pp_ne _ _ (Or.inl (lyx_ne hy (by decide) (by decide) (by decide)))]; exact e12552
                    have e12558 : I12555 (ad g 43) 1 = w12554 := by rw [eI12555, pp_ne _ _ (Or.inr (by decide))]; exact ew12554
                    have e12559 : I12555 (ad g 43) 8 = v12549 := by rw [eI12555, pp_self]
                    have fr12560 : fz 74 g [43, 44, 47, 48] I I12555 := by rw [eI12555]; exact fzx_pp hy fr12550 (by decide) (by decide)
                    have VI12555 := vsI12547
                    rw [show I12547 (ad g 47) = I12555 (ad g 47) by rw [eI12555, pp_off _ _ (lyx_ne hy (by decide) (by decide) (by decide))]] at VI12555
                    clear eI12555
                    refine WP_aload_n dX2_search_189 rfl ?_
                    refine WP_getr dX2_search_190 fX2_29 rfl (lyx_is hy 43 2 rfl) hl121 ?_
                    refine WP_astore (ls' := [(0, _), (1, _), (2, _), (3, _), (4, _), (5, _), (6, _), (7, _), (8, _)]) dX2_search_193 (by decide) rfl ?_
                    refine WP_aload_n dX2_search_195 rfl ?_
                    refine WP_aload_n dX2_search_196 rfl ?_
                    refine WP_getr dX2_search_197 fX2_25 rfl (lyx_is hy 43 2 rfl) hn121 ?_
                    refine WP_putr dX2_search_200 fX2_29 rfl rfl rfl rfl (lyx_is hy 43 2 rfl) ?_
                    obtain ⟨R12561, eR12561⟩ : ∃ R9 : pR, R9 = pp RI12523 (ad g 43) 7 (some (ad g 47)) := ⟨_, rfl⟩
                    rw [← eR12561]
                    have hrR12561 : RfX g R12561 := by rw [eR12561]; exact rfx_pp hy hrI12523 (by decide)
                    have hSR12561 : R12561 (ad g 0) 10 = R (ad g 0) 10 := by rw [eR12561, pp_ne _ _ (Or.inl (lyx_ne hy (by decide) (by decide) (by decide)))]; exact hSI12523
                    have hTR12561 : R12561 (ad g 5) 0 = some (ad g 6) := by rw [eR12561, pp_ne _ _ (Or.inl (lyx_ne hy (by decide) (by decide) (by decide)))]; exact hTI12523
                    have hOR12561 : R12561 (ad g 43) 6 = some (ad g 47) := by rw [eR12561, pp_ne _ _ (Or.inr (by decide))]; exact hn121
                    have hQR12561 : R12561 (ad g 43) 7 = some (ad g 47) := by rw [eR12561, pp_self]
                    clear eR12561
                    refine WP_aload_n dX2_search_203 rfl ?_
                    refine WP_aload dX2_search_204 rfl ?_
                    refine WP_putr dX2_search_206 fX2_25 rfl rfl rfl rfl (lyx_is hy 43 2 rfl) ?_
                    obtain ⟨R12562, eR12562⟩ : ∃ R9 : pR, R9 = pp R12561 (ad g 43) 6 (some (ad g 48)) := ⟨_, rfl⟩
                    rw [← eR12562]
                    have hrR12562 : RfX g R12562 := by rw [eR12562]; exact rfx_pp hy hrR12561 (by decide)
                    have hSR12562 : R12562 (ad g 0) 10 = R (ad g 0) 10 := by rw [eR12562, pp_ne _ _ (Or.inl (lyx_ne hy (by decide) (by decide) (by decide)))]; exact hSR12561
                    have hTR12562 : R12562 (ad g 5) 0 = some (ad g 6) := by rw [eR12562, pp_ne _ _ (Or.inl (lyx_ne hy (by decide) (by decide) (by decide)))]; exact hTR12561
                    have hOR12562 : R12562 (ad g 43) 7 = some (ad g 47) := by rw [eR12562, pp_ne _ _ (Or.inr (by decide))]; exact hQR12561
                    have hQR12562 : R12562 (ad g 43) 6 = some (ad g 48) := by rw [eR12562, pp_self]
                    clear eR12562
                    refine WP_iinc (ls' := [(0, _), (1, _), (2, _), (3, _), (4, _), (5, _), (6, _), (7, _), (8, _)]) dX2_search_209 rfl (by decide) rfl ?_
                    have hv12563 : (i12522 + Int32.ofInt (-1)).toInt = i12522.toInt + (-1) := ia_n rfl (by omega) (by omega)
                    generalize i12522 + Int32.ofInt (-1) = v12563 at hv12563 ⊢
                    refine WP_goto 121 dX2_search_212 rfl ?_
                    exact WP_sub (fc rfl (fc rfl (fc rfl (fc rfl (fc rfl (fc rfl (fc rfl fn))))))) (ihlp121_12526 v12563 I12555 R12562 hrR12562 hTR12562 hSR12562 (Or.inr ⟨hQR12562, hOR12562⟩) hI12555 fr12560 w12554 e12558 v12549 e12559 (by omega) (by omega) (by omega) (by omega) (by omega) (fun q hq he => by have e := adx_inj hy hq (by decide) (Option.some.inj (he.symm.trans hOR12562)); subst e; exact WB_V VI12555 (by omega) (by omega)) (Or.inl (by omega)) (by omega))
                  · refine WQ_iconst (0) (0) dX2_search_156 rfl rfl (fun v12564 hv12564 => ?_)
                    refine WP_goto 178 dX2_search_157 rfl ?_
                    refine WP_iload_n dX2_search_178 rfl ?_
                    refine WP_iload dX2_search_179 rfl ?_
                    refine WP_iload dX2_search_181 rfl ?_
                    refine WP_callV4 (k := 2) dX2_search_183 ⟨⟨⟨by decide, by decide⟩, zX2_weighDay⟩, lX2_71, by decide, rfl, vX2_weighDay.1, vX2_weighDay.2⟩ (lyx_is hy 43 2 rfl) (sx_weighDayx_48_6 hy hrI12523 hTI12523 hI12535 v12564 so v12534 i12522 (by omega) (by omega) (by omega) (by omega) (by omega) (by omega) (by omega) (by omega) (K := 594 * ((nn.toInt - 1) - i12522.toInt)) (by omega) hl121 hn121 (by rw [fz_at fiI12535 43 (by decide) (by decide), ew12526]; omega) (by rw [fz_at fr12537 24 (by decide) (by decide), fz_at fr12537 25 (by decide) (by decide), fz_at fr12537 26 (by decide) (by decide)]; exact WD_of WI12535 FN12509 ldI12535 (by unfold EA; rw [if_pos (by omega)]; omega) (by omega) (by omega) (by omega) (ldx_p hI (by decide) _ _ _ (by omega) (by omega) ldI12535 (by omega) (by omega)) (sbx_b hI) (cbx_b hI (by omega) (by omega)))) (Nat.le_of_ble_eq_true rfl) ?_
                    intro r I12565 J12566 Ra hq
                    obtain ⟨⟨hI12565, ec, fiI12565, ejI12565, pI12565⟩, v12567, rfl, av12567, bv12567, cv12567⟩ := hq
                    show WP _ _ _ _ (.int _ :: _) _ _ _ _
                    rw [ec]
                    clear ec Ra
                    have fr12568 : fz 74 g [43, 44, 47, 48] I I12565 := fz_tr fr12537 (fz_mono fiI12565 (by decide))
                    rw [ejI12565]
                    clear ejI12565 J12566
                    have e12569 : I12565 (ad g 1) 1 = L := hI12565.2
                    have b12570 := BT_get hI12565.1 1 1 2 (0) (0) (900) (by decide) 1 (by decide) (by decide)
                    rw [e12569] at b12570
                    obtain ⟨w12571, ew12571⟩ : ∃ w : Int32, I12565 (ad g 43) 1 = w := ⟨_, rfl⟩
                    have bw12571 := BT_get hI12565.1 43 1 2 (0) (0) (47) (by decide) 1 (by decide) (by decide)
                    rw [ew12571] at bw12571
                    have vsI12565 := pI12565.1
                    have fuI12565 := pI12565.2
                    rw [ew12571] at fuI12565
                    refine WQ_puti dX2_search_186 fX2_67 rfl rfl (lyx_is hy 43 2 rfl) (fun I12572 eI12572 => ?_)
                    have hI12572 : XI g n L I12572 := by rw [eI12572]; exact (xi_f0 hy hI12565 (c := 43) (by decide) (Or.inl (by decide)) (by decide))
                    have e12573 : I12572 (ad g 1) 1 = L := by rw [eI12572, pp_ne _ _ (Or.inl (lyx_ne hy (by decide) (by decide) (by decide)))]; exact e12569
                    have e12574 : I12572 (ad g 43) 1 = w12571 := by rw [eI12572, pp_ne _ _ (Or.inr (by decide))]; exact ew12571
                    have e12575 : I12572 (ad g 43) 8 = v12567 := by rw [eI12572, pp_self]
                    have fr12576 : fz 74 g [43, 44, 47, 48] I I12572 := by rw [eI12572]; exact fzx_pp hy fr12568 (by decide) (by decide)
                    have VI12572 := vsI12565
                    rw [show I12565 (ad g 47) = I12572 (ad g 47) by rw [eI12572, pp_off _ _ (lyx_ne hy (by decide) (by decide) (by decide))]] at VI12572
                    clear eI12572
                    refine WP_aload_n dX2_search_189 rfl ?_
                    refine WP_getr dX2_search_190 fX2_29 rfl (lyx_is hy 43 2 rfl) hl121 ?_
                    refine WP_astore (ls' := [(0, _), (1, _), (2, _), (3, _), (4, _), (5, _), (6, _), (7, _), (8, _)]) dX2_search_193 (by decide) rfl ?_
                    refine WP_aload_n dX2_search_195 rfl ?_
                    refine WP_aload_n dX2_search_196 rfl ?_
                    refine WP_getr dX2_search_197 fX2_25 rfl (lyx_is hy 43 2 rfl) hn121 ?_
                    refine WP_putr dX2_search_200 fX2_29 rfl rfl rfl rfl (lyx_is hy 43 2 rfl) ?_
                    obtain ⟨R12577, eR12577⟩ : ∃ R9 : pR, R9 = pp RI12523 (ad g 43) 7 (some (ad g 47)) := ⟨_, rfl⟩
                    rw [← eR12577]
                    have hrR12577 : RfX g R12577 := by rw [eR12577]; exact rfx_pp hy hrI12523 (by decide)
                    have hSR12577 : R12577 (ad g 0) 10 = R (ad g 0) 10 := by rw [eR12577, pp_ne _ _ (Or.inl (lyx_ne hy (by decide) (by decide) (by decide)))]; exact hSI12523
                    have hTR12577 : R12577 (ad g 5) 0 = some (ad g 6) := by rw [eR12577, pp_ne _ _ (Or.inl (lyx_ne hy (by decide) (by decide) (by decide)))]; exact hTI12523
                    have hOR12577 : R12577 (ad g 43) 6 = some (ad g 47) := by rw [eR12577, pp_ne _ _ (Or.inr (by decide))]; exact hn121
                    have hQR12577 : R12577 (ad g 43) 7 = some (ad g 47) := by rw [eR12577, pp_self]
                    clear eR12577
                    refine WP_aload_n dX2_search_203 rfl ?_
                    refine WP_aload dX2_search_204 rfl ?_
                    refine WP_putr dX2_search_206 fX2_25 rfl rfl rfl rfl (lyx_is hy 43 2 rfl) ?_
                    obtain ⟨R12578, eR12578⟩ : ∃ R9 : pR, R9 = pp R12577 (ad g 43) 6 (some (ad g 48)) := ⟨_, rfl⟩
                    rw [← eR12578]
                    have hrR12578 : RfX g R12578 := by rw [eR12578]; exact rfx_pp hy hrR12577 (by decide)
                    have hSR12578 : R12578 (ad g 0) 10 = R (ad g 0) 10 := by rw [eR12578, pp_ne _ _ (Or.inl (lyx_ne hy (by decide) (by decide) (by decide)))]; exact hSR12577
                    have hTR12578 : R12578 (ad g 5) 0 = some (ad g 6) := by rw [eR12578, pp_ne _ _ (Or.inl (lyx_ne hy (by decide) (by decide) (by decide)))]; exact hTR12577
                    have hOR12578 : R12578 (ad g 43) 7 = some (ad g 47) := by rw [eR12578, pp_ne _ _ (Or.inr (by decide))]; exact hQR12577
                    have hQR12578 : R12578 (ad g 43) 6 = some (ad g 48) := by rw [eR12578, pp_self]
                    clear eR12578
                    refine WP_iinc (ls' := [(0, _), (1, _), (2, _), (3, _), (4, _), (5, _), (6, _), (7, _), (8, _)]) dX2_search_209 rfl (by decide) rfl ?_
                    have hv12579 : (i12522 + Int32.ofInt (-1)).toInt = i12522.toInt + (-1) := ia_n rfl (by omega) (by omega)
                    generalize i12522 + Int32.ofInt (-1) = v12579 at hv12579 ⊢
                    refine WP_goto 121 dX2_search_212 rfl ?_
                    exact WP_sub (fc rfl (fc rfl (fc rfl (fc rfl (fc rfl (fc rfl (fc rfl fn))))))) (ihlp121_12526 v12579 I12572 R12578 hrR12578 hTR12578 hSR12578 (Or.inr ⟨hQR12578, hOR12578⟩) hI12572 fr12576 w12571 e12574 v12567 e12575 (by omega) (by omega) (by omega) (by omega) (by omega) (fun q hq he => by have e := adx_inj hy hq (by decide) (Option.some.inj (he.symm.trans hOR12578)); subst e; exact WB_V VI12572 (by omega) (by omega)) (Or.inr ⟨_, by rw [show da.toInt = v12534.toInt by omega]; exact ldI12535, FU_end (by have z := fuI12565; rw [show i12522.toInt = (0 : Int) by omega] at z; exact z) PZ_I12380_12381 (by omega) (by omega) (by omega)⟩) (by omega))
              · have W12579 := PW_I12523_12523 47 (by decide) hl121
                refine WP_iload dX2_search_121 rfl ?_
                refine WQ_if_lt 215 dX2_search_123 rfl (fun c12580 => ?_) (fun c12580 => ?_)
                · refine WP_aload_n dX2_search_215 rfl ?_
                  refine WQ_getim dX2_search_216 fX2_75 rfl (lyx_is hy 43 2 rfl) ew12525 ?_
                  exact WP_iret dX2_search_219 rfl ⟨⟨hI12523, ⟨hrI12523, ⟨hTI12523.trans hT.symm, hSI12523⟩, (Or.inr ⟨hn121, hl121⟩)⟩, fiI12523, fjJ12381⟩, _, rfl, by omega, by omega, (PQ_I12523_12523.resolve_left (by omega))⟩
                · refine WP_iload_n dX2_search_126 rfl ?_
                  refine WP_iload dX2_search_127 rfl ?_
                  refine WQ_iadd dX2_search_129 (by omega) (by omega) (fun v12582 hv12582 => ?_)
                  refine WQ_bipush (7) (7) dX2_search_130 rfl rfl (fun v12583 hv12583 => ?_)
                  refine WQ_iremk (7) dX2_search_132 hv12583 (by decide) (by omega) (fun v12584 hv12584 => ?_)
                  refine WP_istore (ls' := [(0, _), (1, _), (2, _), (3, _), (4, _), (5, _), (6, _), (7, _)]) dX2_search_133 (by decide) rfl ?_
                  refine WP_aload_n dX2_search_135 rfl ?_
                  refine WP_getr dX2_search_136 fX2_12 rfl (lyx_is hy 43 2 rfl) (rfx hrI12523 43 3 44 (by decide)) ?_
                  refine WP_aload_n dX2_search_139 rfl ?_
                  refine WP_getr dX2_search_140 fX2_32 rfl (lyx_is hy 43 2 rfl) (rfx hrI12523 43 2 5 (by decide)) ?_
                  refine WP_iload_n dX2_search_143 rfl ?_
                  refine WP_iload dX2_search_144 rfl ?_
                  refine WP_callV3 (k := 6) dX2_search_146 ⟨⟨⟨by decide, by decide⟩, zX6_load⟩, lX2_42, by decide, rfl, vX6_load.1, vX6_load.2⟩ (lyx_is hy 44 6 rfl) (sx_loadx_44_6 hy hrI12523 hTI12523 hI12523 so v12584 (by omega) (by omega) (by omega) (by omega)) (Nat.le_of_ble_eq_true rfl) ?_
                  intro r I12585 J12586 Ra hq
                  obtain ⟨⟨hI12585, ec, fiI12585, ejI12585, pI12585⟩, rfl⟩ := hq
                  rw [ec]
                  clear ec Ra
                  have fr12587 : fz 74 g [43, 44, 47, 48] I I12585 := fz_tr fiI12523 (fz_mono fiI12585 (by decide))
                  rw [ejI12585]
                  clear ejI12585 J12586
                  have ldI12585 := LD_fr pI12585 (fz_at fiI12523 6 (by decide) (by decide)) (fz_at fiI12523 11 (by decide) (by decide)) (fz_at fiI12523 13 (by decide) (by decide)) (fz_at fiI12523 14 (by decide) (by decide)) (fz_at fiI12523 15 (by decide) (by decide)) (fz_at fiI12523 22 (by decide) (by decide))
                  have WI12585 := W12579
                  rw [← fz_at fiI12585 47 (by decide) (by decide)] at WI12585
                  have e12588 : I12585 (ad g 43) 1 = w12525 := by rw [fz_at fiI12585 43 (by decide) (by decide)]; exact ew12525
                  have e12589 : I12585 (ad g 43) 8 = w12526 := by rw [fz_at fiI12585 43 (by decide) (by decide)]; exact ew12526
                  have e12590 : I12585 (ad g 1) 1 = L := hI12585.2
                  have b12591 := BT_get hI12585.1 1 1 2 (0) (0) (900) (by decide) 1 (by decide) (by decide)
                  rw [e12590] at b12591
                  refine WP_aload_n dX2_search_149 rfl ?_
                  refine WP_aload_n dX2_search_150 rfl ?_
                  refine WP_iload dX2_search_151 rfl ?_
                  refine WQ_if_ne 160 dX2_search_153 rfl (fun c12591 => ?_) (fun c12591 => ?_)
                  · refine WP_aload_n dX2_search_160 rfl ?_
                    refine WP_getr dX2_search_161 fX2_32 rfl (lyx_is hy 43 2 rfl) (rfx hrI12523 43 2 5 (by decide)) ?_
                    refine WP_getr dX2_search_164 fX2_46 rfl (lyx_is hy 5 0 rfl) hTI12523 ?_
                    refine WP_getr dX2_search_167 fX2_52 rfl (lyx_is hy 6 7 rfl) (rfx hrI12523 6 10 12 (by decide)) ?_
                    refine WP_iload_n dX2_search_170 rfl ?_
                    refine WQ_bipush (7) (7) dX2_search_171 rfl rfl (fun v12593 hv12593 => ?_)
                    refine WQ_imulk (7) dX2_search_173 hv12593 (by omega) (by omega) (fun v12594 hv12594 => ?_)
                    refine WP_iload dX2_search_174 rfl ?_
                    refine WQ_iadd dX2_search_176 (by omega) (by omega) (fun v12595 hv12595 => ?_)
                    refine WQ_iald dX2_search_177 (lyx_is hy 12 13 rfl) (lyx_n hy 12 28 rfl) (by omega) (by omega) (fun q hq => BT_get hI12585.1 12 0 28 (0) (0) (20) (by decide) q (Nat.zero_le _) hq) (fun v12596 av12596 bv12596 ev12596 => ?_)
                    refine WP_iload_n dX2_search_178 rfl ?_
                    refine WP_iload dX2_search_179 rfl ?_
                    refine WP_iload dX2_search_181 rfl ?_
                    refine WP_callV4 (k := 2) dX2_search_183 ⟨⟨⟨by decide, by decide⟩, zX2_weighDay⟩, lX2_71, by decide, rfl, vX2_weighDay.1, vX2_weighDay.2⟩ (lyx_is hy 43 2 rfl) (sx_weighDayx_47_6 hy hrI12523 hTI12523 hI12585 v12596 so v12584 i12522 (by omega) (by omega) (by omega) (by omega) (by omega) (by omega) (by omega) (by omega) (K := 594 * ((nn.toInt - 1) - i12522.toInt)) (by omega) hl121 hn121 (by rw [fz_at fiI12585 43 (by decide) (by decide), ew12526]; omega) (by rw [fz_at fr12587 24 (by decide) (by decide), fz_at fr12587 25 (by decide) (by decide), fz_at fr12587 26 (by decide) (by decide)]; exact WD_of WI12585 FN12509 ldI12585 (by unfold EA; rw [if_neg (by omega), show I (ad g (6 + 6)) = I12585 (ad g 12) from (fz_at fr12587 12 (by decide) (by decide)).symm, ← cl (x := v12595) (n := (7 * so.toInt + v12584.toInt).toNat) (by omega), ev12596]) (by omega) (by omega) (by omega) (ldx_p hI (by decide) _ _ _ (by omega) (by omega) ldI12585 (by omega) (by omega)) (sbx_b hI) (cbx_b hI (by omega) (by omega)))) (Nat.le_of_ble_eq_true rfl) ?_
                    intro r I12597 J12598 Ra hq
                    obtain ⟨⟨hI12597, ec, fiI12597, ejI12597, pI12597⟩, v12599, rfl, av12599, bv12599, cv12599⟩ := hq
                    show WP _ _ _ _ (.int _ :: _) _ _ _ _
                    rw [ec]
                    clear ec Ra
                    have fr12600 : fz 74 g [43, 44, 47, 48] I I12597 := fz_tr fr12587 (fz_mono fiI12597 (by decide))
                    rw [ejI12597]
                    clear ejI12597 J12598
                    have e12601 : I12597 (ad g 12) v12595.toNatClampNeg = v12596 := by rw [fz_at fiI12597 12 (by decide) (by decide)]; exact ev12596
                    have e12602 : I12597 (ad g 1) 1 = L := hI12597.2
                    have b12603 := BT_get hI12597.1 1 1 2 (0) (0) (900) (by decide) 1 (by decide) (by decide)
                    rw [e12602] at b12603
                    obtain ⟨w12604, ew12604⟩ : ∃ w : Int32, I12597 (ad g 43) 1 = w := ⟨_, rfl⟩
                    have bw12604 := BT_get hI12597.1 43 1 2 (0) (0) (47) (by decide) 1 (by decide) (by decide)
                    rw [ew12604] at bw12604
                    have vsI12597 := pI12597.1
                    have fuI12597 := pI12597.2
                    rw [ew12604] at fuI12597
                    refine WQ_puti dX2_search_186 fX2_67 rfl rfl (lyx_is hy 43 2 rfl) (fun I12605 eI12605 => ?_)
                    have hI12605 : XI g n L I12605 := by rw [eI12605]; exact (xi_f0 hy hI12597 (c := 43) (by decide) (Or.inl (by decide)) (by decide))
                    have e12606 : I12605 (ad g 12) v12595.toNatClampNeg = v12596 := by rw [eI12605, pp_ne _ _ (Or.inl (lyx_ne hy (by decide) (by decide) (by decide)))]; exact e12601
                    have e12607 : I12605 (ad g 1) 1 = L := by rw [eI12605, pp_ne _ _ (Or.inl (lyx_ne hy (by decide) (by decide) (by decide)))]; exact e12602
                    have e12608 : I12605 (ad g 43) 1 = w12604 := by rw [eI12605, pp_ne _ _ (Or.inr (by decide))]; exact ew12604
                    have e12609 : I12605 (ad g 43) 8 = v12599 := by rw [eI12605, pp_self]
                    have fr12610 : fz 74 g [43, 44, 47, 48] I I12605 := by rw [eI12605]; exact fzx_pp hy fr12600 (by decide) (by decide)
                    have VI12605 := vsI12597
                    rw [show I12597 (ad g 48) = I12605 (ad g 48) by rw [eI12605, pp_off _ _ (lyx_ne hy (by decide) (by decide) (by decide))]] at VI12605
                    clear eI12605
                    refine WP_aload_n dX2_search_189 rfl ?_
                    refine WP_getr dX2_search_190 fX2_29 rfl (lyx_is hy 43 2 rfl) hl121 ?_
                    refine WP_astore (ls' := [(0, _), (1, _), (2, _), (3, _), (4, _), (5, _), (6, _), (7, _), (8, _)]) dX2_search_193 (by decide) rfl ?_
                    refine WP_aload_n dX2_search_195 rfl ?_
                    refine WP_aload_n dX2_search_196 rfl ?_
                    refine WP_getr dX2_search_197 fX2_25 rfl (lyx_is hy 43 2 rfl) hn121 ?_
                    refine WP_putr dX2_search_200 fX2_29 rfl rfl rfl rfl (lyx_is hy 43 2 rfl) ?_
                    obtain ⟨R12611, eR12611⟩ : ∃ R9 : pR, R9 = pp RI12523 (ad g 43) 7 (some (ad g 48)) := ⟨_, rfl⟩
                    rw [← eR12611]
                    have hrR12611 : RfX g R12611 := by rw [eR12611]; exact rfx_pp hy hrI12523 (by decide)
                    have hSR12611 : R12611 (ad g 0) 10 = R (ad g 0) 10 := by rw [eR12611, pp_ne _ _ (Or.inl (lyx_ne hy (by decide) (by decide) (by decide)))]; exact hSI12523
                    have hTR12611 : R12611 (ad g 5) 0 = some (ad g 6) := by rw [eR12611, pp_ne _ _ (Or.inl (lyx_ne hy (by decide) (by decide) (by decide)))]; exact hTI12523
                    have hOR12611 : R12611 (ad g 43) 6 = some (ad g 48) := by rw [eR12611, pp_ne _ _ (Or.inr (by decide))]; exact hn121
                    have hQR12611 : R12611 (ad g 43) 7 = some (ad g 48) := by rw [eR12611, pp_self]
                    clear eR12611
                    refine WP_aload_n dX2_search_203 rfl ?_
                    refine WP_aload dX2_search_204 rfl ?_
                    refine WP_putr dX2_search_206 fX2_25 rfl rfl rfl rfl (lyx_is hy 43 2 rfl) ?_
                    obtain ⟨R12612, eR12612⟩ : ∃ R9 : pR, R9 = pp R12611 (ad g 43) 6 (some (ad g 47)) := ⟨_, rfl⟩
                    rw [← eR12612]
                    have hrR12612 : RfX g R12612 := by rw [eR12612]; exact rfx_pp hy hrR12611 (by decide)
                    have hSR12612 : R12612 (ad g 0) 10 = R (ad g 0) 10 := by rw [eR12612, pp_ne _ _ (Or.inl (lyx_ne hy (by decide) (by decide) (by decide)))]; exact hSR12611
                    have hTR12612 : R12612 (ad g 5) 0 = some (ad g 6) := by rw [eR12612, pp_ne _ _ (Or.inl (lyx_ne hy (by decide) (by decide) (by decide)))]; exact hTR12611
                    have hOR12612 : R12612 (ad g 43) 7 = some (ad g 48) := by rw [eR12612, pp_ne _ _ (Or.inr (by decide))]; exact hQR12611
                    have hQR12612 : R12612 (ad g 43) 6 = some (ad g 47) := by rw [eR12612, pp_self]
                    clear eR12612
                    refine WP_iinc (ls' := [(0, _), (1, _), (2, _), (3, _), (4, _), (5, _), (6, _), (7, _), (8, _)]) dX2_search_209 rfl (by decide) rfl ?_
                    have hv12613 : (i12522 + Int32.ofInt (-1)).toInt = i12522.toInt + (-1) := ia_n rfl (by omega) (by omega)
                    generalize i12522 + Int32.ofInt (-1) = v12613 at hv12613 ⊢
                    refine WP_goto 121 dX2_search_212 rfl ?_
                    exact WP_sub (fc rfl (fc rfl (fc rfl (fc rfl (fc rfl (fc rfl (fc rfl fn))))))) (ihlp121_12526 v12613 I12605 R12612 hrR12612 hTR12612 hSR12612 (Or.inl ⟨hQR12612, hOR12612⟩) hI12605 fr12610 w12604 e12608 v12599 e12609 (by omega) (by omega) (by omega) (by omega) (by omega) (fun q hq he => by have e := adx_inj hy hq (by decide) (Option.some.inj (he.symm.trans hOR12612)); subst e; exact WB_V VI12605 (by omega) (by omega)) (Or.inl (by omega)) (by omega))
                  · refine WQ_iconst (0) (0) dX2_search_156 rfl rfl (fun v12614 hv12614 => ?_)
                    refine WP_goto 178 dX2_search_157 rfl ?_
                    refine WP_iload_n dX2_search_178 rfl ?_
                    refine WP_iload dX2_search_179 rfl ?_
                    refine WP_iload dX2_search_181 rfl ?_
                    refine WP_callV4 (k := 2) dX2_search_183 ⟨⟨⟨by decide, by decide⟩, zX2_weighDay⟩, lX2_71, by decide, rfl, vX2_weighDay.1, vX2_weighDay.2⟩ (lyx_is hy 43 2 rfl) (sx_weighDayx_47_6 hy hrI12523 hTI12523 hI12585 v12614 so v12584 i12522 (by omega) (by omega) (by omega) (by omega) (by omega) (by omega) (by omega) (by omega) (K := 594 * ((nn.toInt - 1) - i12522.toInt)) (by omega) hl121 hn121 (by rw [fz_at fiI12585 43 (by decide) (by decide), ew12526]; omega) (by rw [fz_at fr12587 24 (by decide) (by decide), fz_at fr12587 25 (by decide) (by decide), fz_at fr12587 26 (by decide) (by decide)]; exact WD_of WI12585 FN12509 ldI12585 (by unfold EA; rw [if_pos (by omega)]; omega) (by omega) (by omega) (by omega) (ldx_p hI (by decide) _ _ _ (by omega) (by omega) ldI12585 (by omega) (by omega)) (sbx_b hI) (cbx_b hI (by omega) (by omega)))) (Nat.le_of_ble_eq_true rfl) ?_
                    intro r I12615 J12616 Ra hq
                    obtain ⟨⟨hI12615, ec, fiI12615, ejI12615, pI12615⟩, v12617, rfl, av12617, bv12617, cv12617⟩ := hq
                    show WP _ _ _ _ (.int _ :: _) _ _ _ _
                    rw [ec]
                    clear ec Ra
                    have fr12618 : fz 74 g [43, 44, 47, 48] I I12615 := fz_tr fr12587 (fz_mono fiI12615 (by decide))
                    rw [ejI12615]
                    clear ejI12615 J12616
                    have e12619 : I12615 (ad g 1) 1 = L := hI12615.2
                    have b12620 := BT_get hI12615.1 1 1 2 (0) (0) (900) (by decide) 1 (by decide) (by decide)
                    rw [e12619] at b12620
                    obtain ⟨w12621, ew12621⟩ : ∃ w : Int32, I12615 (ad g 43) 1 = w := ⟨_, rfl⟩
                    have bw12621 := BT_get hI12615.1 43 1 2 (0) (0) (47) (by decide) 1 (by decide) (by decide)
                    rw [ew12621] at bw12621
                    have vsI12615 := pI12615.1
                    have fuI12615 := pI12615.2
                    rw [ew12621] at fuI12615
                    refine WQ_puti dX2_search_186 fX2_67 rfl rfl (lyx_is hy 43 2 rfl) (fun I12622 eI12622 => ?_)
                    have hI12622 : XI g n L I12622 := by rw [eI12622]; exact (xi_f0 hy hI12615 (c := 43) (by decide) (Or.inl (by decide)) (by decide))
                    have e12623 : I12622 (ad g 1) 1 = L := by rw [eI12622, pp_ne _ _ (Or.inl (lyx_ne hy (by decide) (by decide) (by decide)))]; exact e12619
                    have e12624 : I12622 (ad g 43) 1 = w12621 := by rw [eI12622, pp_ne _ _ (Or.inr (by decide))]; exact ew12621
                    have e12625 : I12622 (ad g 43) 8 = v12617 := by rw [eI12622, pp_self]
                    have fr12626 : fz 74 g [43, 44, 47, 48] I I12622 := by rw [eI12622]; exact fzx_pp hy fr12618 (by decide) (by decide)
                    have VI12622 := vsI12615
                    rw [show I12615 (ad g 48) = I12622 (ad g 48) by rw [eI12622, pp_off _ _ (lyx_ne hy (by decide) (by decide) (by decide))]] at VI12622
                    clear eI12622
                    refine WP_aload_n dX2_search_189 rfl ?_
                    refine WP_getr dX2_search_190 fX2_29 rfl (lyx_is hy 43 2 rfl) hl121 ?_
                    refine WP_astore (ls' := [(0, _), (1, _), (2, _), (3, _), (4, _), (5, _), (6, _), (7, _), (8, _)]) dX2_search_193 (by decide) rfl ?_
                    refine WP_aload_n dX2_search_195 rfl ?_
                    refine WP_aload_n dX2_search_196 rfl ?_
                    refine WP_getr dX2_search_197 fX2_25 rfl (lyx_is hy 43 2 rfl) hn121 ?_
                    refine WP_putr dX2_search_200 fX2_29 rfl rfl rfl rfl (lyx_is hy 43 2 rfl) ?_
                    obtain ⟨R12627, eR12627⟩ : ∃ R9 : pR, R9 = pp RI12523 (ad g 43) 7 (some (ad g 48)) := ⟨_, rfl⟩
                    rw [← eR12627]
                    have hrR12627 : RfX g R12627 := by rw [eR12627]; exact rfx_pp hy hrI12523 (by decide)
                    have hSR12627 : R12627 (ad g 0) 10 = R (ad g 0) 10 := by rw [eR12627, pp_ne _ _ (Or.inl (lyx_ne hy (by decide) (by decide) (by decide)))]; exact hSI12523
                    have hTR12627 : R12627 (ad g 5) 0 = some (ad g 6) := by rw [eR12627, pp_ne _ _ (Or.inl (lyx_ne hy (by decide) (by decide) (by decide)))]; exact hTI12523
                    have hOR12627 : R12627 (ad g 43) 6 = some (ad g 48) := by rw [eR12627, pp_ne _ _ (Or.inr (by decide))]; exact hn121
                    have hQR12627 : R12627 (ad g 43) 7 = some (ad g 48) := by rw [eR12627, pp_self]
                    clear eR12627
                    refine WP_aload_n dX2_search_203 rfl ?_
                    refine WP_aload dX2_search_204 rfl ?_
                    refine WP_putr dX2_search_206 fX2_25 rfl rfl rfl rfl (lyx_is hy 43 2 rfl) ?_
                    obtain ⟨R12628, eR12628⟩ : ∃ R9 : pR, R9 = pp R12627 (ad g 43) 6 (some (ad g 47)) := ⟨_, rfl⟩
                    rw [← eR12628]
                    have hrR12628 : RfX g R12628 := by rw [eR12628]; exact rfx_pp hy hrR12627 (by decide)
                    have hSR12628 : R12628 (ad g 0) 10 = R (ad g 0) 10 := by rw [eR12628, pp_ne _ _ (Or.inl (lyx_ne hy (by decide) (by decide) (by decide)))]; exact hSR12627
                    have hTR12628 : R12628 (ad g 5) 0 = some (ad g 6) := by rw [eR12628, pp_ne _ _ (Or.inl (lyx_ne hy (by decide) (by decide) (by decide)))]; exact hTR12627
                    have hOR12628 : R12628 (ad g 43) 7 = some (ad g 48) := by rw [eR12628, pp_ne _ _ (Or.inr (by decide))]; exact hQR12627
                    have hQR12628 : R12628 (ad g 43) 6 = some (ad g 47) := by rw [eR12628, pp_self]
                    clear eR12628
                    refine WP_iinc (ls' := [(0, _), (1, _), (2, _), (3, _), (4, _), (5, _), (6, _), (7, _), (8, _)]) dX2_search_209 rfl (by decide) rfl ?_
                    have hv12629 : (i12522 + Int32.ofInt (-1)).toInt = i12522.toInt + (-1) := ia_n rfl (by omega) (by omega)
                    generalize i12522 + Int32.ofInt (-1) = v12629 at hv12629 ⊢
                    refine WP_goto 121 dX2_search_212 rfl ?_
                    exact WP_sub (fc rfl (fc rfl (fc rfl (fc rfl (fc rfl (fc rfl (fc rfl fn))))))) (ihlp121_12526 v12629 I12622 R12628 hrR12628 hTR12628 hSR12628 (Or.inl ⟨hQR12628, hOR12628⟩) hI12622 fr12626 w12621 e12624 v12617 e12625 (by omega) (by omega) (by omega) (by omega) (by omega) (fun q hq he => by have e := adx_inj hy hq (by decide) (Option.some.inj (he.symm.trans hOR12628)); subst e; exact WB_V VI12622 (by omega) (by omega)) (Or.inr ⟨_, by rw [show da.toInt = v12584.toInt by omega]; exact ldI12585, FU_end (by have z := fuI12615; rw [show i12522.toInt = (0 : Int) by omega] at z; exact z) PZ_I12380_12381 (by omega) (by omega) (by omega)⟩) (by omega))
          obtain ⟨w12630, ew12630⟩ : ∃ w : Int32, I12516 (ad g 43) 1 = w := ⟨_, rfl⟩
          have bw12630 := BT_get hI12516.1 43 1 2 (0) (0) (47) (by decide) 1 (by decide) (by decide)
          rw [ew12630] at bw12630
          exact WP_sub (fc rfl (fc rfl (fc rfl (fc rfl (fc rfl (fc rfl (fc rfl fn))))))) (lp121_12526 _ v12521 I12516 RI12380 hrI12380 hTI12380 hSI12380 (Or.inr ⟨hn102, hl102⟩) hI12516 fr12519 w12630 ew12630 v12515 e12518 (by omega) (by omega) (by omega) (by omega) (by omega) (fun q hq he => by have e := adx_inj hy hq (by decide) (Option.some.inj (he.symm.trans hl102)); subst e; exact (by rw [show v12521.toInt = (nn.toInt - 1) by omega]; exact WI12516)) (Or.inl (by omega)) (Nat.lt_succ_self _))
      · refine WP_iload_n dX2_search_30 rfl ?_
        refine WP_iload dX2_search_31 rfl ?_
        refine WQ_iadd dX2_search_33 (by omega) (by omega) (fun v12631 hv12631 => ?_)
        refine WQ_bipush (7) (7) dX2_search_34 rfl rfl (fun v12632 hv12632 => ?_)
        refine WQ_iremk (7) dX2_search_36 hv12632 (by decide) (by omega) (fun v12633 hv12633 => ?_)
        refine WP_istore (ls' := [(0, _), (1, _), (2, _), (3, _), (4, _), (5, _), (6, _), (7, _)]) dX2_search_37 (by decide) rfl ?_
        refine WP_aload_n dX2_search_39 rfl ?_
        refine WP_getr dX2_search_40 fX2_12 rfl (lyx_is hy 43 2 rfl) (rfx hrI12380 43 3 44 (by decide)) ?_
        refine WP_aload_n dX2_search_43 rfl ?_
        refine WP_getr dX2_search_44 fX2_32 rfl (lyx_is hy 43 2 rfl) (rfx hrI12380 43 2 5 (by decide)) ?_
        refine WP_iload_n dX2_search_47 rfl ?_
        refine WP_iload dX2_search_48 rfl ?_
        refine WP_callV3 (k := 6) dX2_search_50 ⟨⟨⟨by decide, by decide⟩, zX6_load⟩, lX2_42, by decide, rfl, vX6_load.1, vX6_load.2⟩ (lyx_is hy 44 6 rfl) (sx_loadx_44_6 hy hrI12380 hTI12380 hI12380 so v12633 (by omega) (by omega) (by omega) (by omega)) (Nat.le_of_ble_eq_true rfl) ?_
        intro r I12634 J12635 Ra hq
        obtain ⟨⟨hI12634, ec, fiI12634, ejI12634, pI12634⟩, rfl⟩ := hq
        rw [ec]
        clear ec Ra
        have fr12636 : fz 74 g [43, 44, 47, 48] I I12634 := fz_tr fiI12380 (fz_mono fiI12634 (by decide))
        rw [ejI12634]
        clear ejI12634 J12635
        have ldI12634 := LD_fr pI12634 (fz_at fiI12380 6 (by decide) (by decide)) (fz_at fiI12380 11 (by decide) (by decide)) (fz_at fiI12380 13 (by decide) (by decide)) (fz_at fiI12380 14 (by decide) (by decide)) (fz_at fiI12380 15 (by decide) (by decide)) (fz_at fiI12380 22 (by decide) (by decide))
        have e12637 : I12634 (ad g 1) 1 = L := hI12634.2
        have b12638 := BT_get hI12634.1 1 1 2 (0) (0) (900) (by decide) 1 (by decide) (by decide)
        rw [e12637] at b12638
        refine WP_aload_n dX2_search_53 rfl ?_
        refine WP_iload dX2_search_54 rfl ?_
        refine WQ_if_ne 63 dX2_search_56 rfl (fun c12638 => ?_) (fun c12638 => ?_)
        · refine WP_aload_n dX2_search_63 rfl ?_
          refine WP_getr dX2_search_64 fX2_32 rfl (lyx_is hy 43 2 rfl) (rfx hrI12380 43 2 5 (by decide)) ?_
          refine WP_getr dX2_search_67 fX2_46 rfl (lyx_is hy 5 0 rfl) hTI12380 ?_
          refine WP_getr dX2_search_70 fX2_52 rfl (lyx_is hy 6 7 rfl) (rfx hrI12380 6 10 12 (by decide)) ?_
          refine WP_iload_n dX2_search_73 rfl ?_
          refine WQ_bipush (7) (7) dX2_search_74 rfl rfl (fun v12640 hv12640 => ?_)
          refine WQ_imulk (7) dX2_search_76 hv12640 (by omega) (by omega) (fun v12641 hv12641 => ?_)
          refine WP_iload dX2_search_77 rfl ?_
          refine WQ_iadd dX2_search_79 (by omega) (by omega) (fun v12642 hv12642 => ?_)
          refine WQ_iald dX2_search_80 (lyx_is hy 12 13 rfl) (lyx_n hy 12 28 rfl) (by omega) (by omega) (fun q hq => BT_get hI12634.1 12 0 28 (0) (0) (20) (by decide) q (Nat.zero_le _) hq) (fun v12643 av12643 bv12643 ev12643 => ?_)
          refine WP_iload dX2_search_81 rfl ?_
          refine WP_callV2 (k := 2) dX2_search_83 ⟨⟨⟨by decide, by decide⟩, zX2_spread⟩, lX2_57, by decide, rfl, vX2_spread.1, vX2_spread.2⟩ (lyx_is hy 43 2 rfl) (sx_spreadx hy hrI12380 hI12634 v12643 i12379 (by omega) (by omega) (by omega) (by omega)) (Nat.le_of_ble_eq_true rfl) ?_
          intro r Ia J12644 Ra hq
          obtain ⟨⟨ea, ec, fjJ12644, pJ12644⟩, rfl⟩ := hq
          rw [ea, ec]
          clear ea ec Ia Ra
          have fr12645 : fz 74 g [45, 46] J J12644 := fz_tr fjJ12381 (fz_mono fjJ12644 (by decide))
          have FJ12644 := FWD_P (P2 := J12644 (ad g 45)) PF_I12380_12381 (fz_at fjJ12644 45 (by decide) (by decide))
          have srJ12644 := pJ12644
          rw [← fz_at fjJ12644 45 (by decide) (by decide)] at srJ12644
          have ZJ12644 := ZB_P (P2 := J12644 (ad g 45)) PZ_I12380_12381 (fz_at fjJ12644 45 (by decide) (by decide))
          refine WP_aload_n dX2_search_86 rfl ?_
          refine WP_iload dX2_search_87 rfl ?_
          refine WP_iload dX2_search_89 rfl ?_
          refine WQ_iconst (1) (1) dX2_search_91 rfl rfl (fun v12646 hv12646 => ?_)
          refine WQ_iadd dX2_search_92 (by omega) (by omega) (fun v12647 hv12647 => ?_)
          refine WP_callV2 (k := 2) dX2_search_93 ⟨⟨⟨by decide, by decide⟩, zX2_sleep⟩, lX2_61, by decide, rfl, vX2_sleep.1, vX2_sleep.2⟩ (lyx_is hy 43 2 rfl) (sx_psleepx hy hrI12380 hI12634 v12633 v12647 (by omega) (by omega) (by omega) (by omega)) (Nat.le_of_ble_eq_true rfl) ?_
          intro r Ia J12648 Ra hq
          obtain ⟨⟨ea, ec, fjJ12648, pJ12648⟩, rfl⟩ := hq
          rw [ea, ec]
          clear ea ec Ia Ra
          have fr12649 : fz 74 g [45, 46] J J12648 := fz_tr fr12645 (fz_mono fjJ12648 (by decide))
          have slJ12648 := pJ12648.1
          rw [fz_at fr12636 24 (by decide) (by decide), fz_at fr12636 25 (by decide) (by decide), fz_at fr12636 26 (by decide) (by decide)] at slJ12648
          have FJ12648 := FWD_step FJ12644 ldI12634 srJ12644 slJ12648 pJ12648.2 (by unfold EA; rw [if_neg (by omega), show I (ad g (6 + 6)) = I12634 (ad g 12) from (fz_at fr12636 12 (by decide) (by decide)).symm, ← cl (x := v12642) (n := (7 * so.toInt + v12633.toInt).toNat) (by omega), ev12643]) (by omega) (by omega) (by omega) (sbx_b hI) (ldx_p hI (by decide) _ _ _ (by omega) (by omega) ldI12634 (by omega) (by omega)) (ldx_p hI (by decide)) (by omega)
          have ZJ12648 := ZB_out ZJ12644 pJ12648.2 (by omega)
          refine WP_iinc (ls' := [(0, _), (1, _), (2, _), (3, _), (4, _), (5, _), (6, _), (7, _)]) dX2_search_96 rfl (by decide) rfl ?_
          have hv12650 : (i12379 + Int32.ofInt (1)).toInt = i12379.toInt + (1) := ia_n rfl (by omega) (by omega)
          generalize i12379 + Int32.ofInt (1) = v12650 at hv12650 ⊢
          refine WP_goto 21 dX2_search_99 rfl ?_
          exact WP_sub (fc rfl (fc rfl (fc rfl (fc rfl (fc rfl (fc rfl (fc rfl fn))))))) (ihlp21_12382 v12650 I12634 J12648 RI12380 hrI12380 hTI12380 hSI12380 hPI12380 hI12634 fr12636 fr12649 (by omega) (by omega) (by omega) (by rw [show v12650.toInt = v12647.toInt by omega]; exact FJ12648) ZJ12648 (by omega))
        · refine WQ_iconst (0) (0) dX2_search_59 rfl rfl (fun v12651 hv12651 => ?_)
          refine WP_goto 81 dX2_search_60 rfl ?_
          refine WP_iload dX2_search_81 rfl ?_
          refine WP_callV2 (k := 2) dX2_search_83 ⟨⟨⟨by decide, by decide⟩, zX2_spread⟩, lX2_57, by decide, rfl, vX2_spread.1, vX2_spread.2⟩ (lyx_is hy 43 2 rfl) (sx_spreadx hy hrI12380 hI12634 v12651 i12379 (by omega) (by omega) (by omega) (by omega)) (Nat.le_of_ble_eq_true rfl) ?_
          intro r Ia J12652 Ra hq
          obtain ⟨⟨ea, ec, fjJ12652, pJ12652⟩, rfl⟩ := hq
          rw [ea, ec]
          clear ea ec Ia Ra
          have fr12653 : fz 74 g [45, 46] J J12652 := fz_tr fjJ12381 (fz_mono fjJ12652 (by decide))
          have FJ12652 := FWD_P (P2 := J12652 (ad g 45)) PF_I12380_12381 (fz_at fjJ12652 45 (by decide) (by decide))
          have srJ12652 := pJ12652
          rw [← fz_at fjJ12652 45 (by decide) (by decide)] at srJ12652
          have ZJ12652 := ZB_P (P2 := J12652 (ad g 45)) PZ_I12380_12381 (fz_at fjJ12652 45 (by decide) (by decide))
          refine WP_aload_n dX2_search_86 rfl ?_
          refine WP_iload dX2_search_87 rfl ?_
          refine WP_iload dX2_search_89 rfl ?_
          refine WQ_iconst (1) (1) dX2_search_91 rfl rfl (fun v12654 hv12654 => ?_)
          refine WQ_iadd dX2_search_92 (by omega) (by omega) (fun v12655 hv12655 => ?_)
          refine WP_callV2 (k := 2) dX2_search_93 ⟨⟨⟨by decide, by decide⟩, zX2_sleep⟩, lX2_61, by decide, rfl, vX2_sleep.1, vX2_sleep.2⟩ (lyx_is hy 43 2 rfl) (sx_psleepx hy hrI12380 hI12634 v12633 v12655 (by omega) (by omega) (by omega) (by omega)) (Nat.le_of_ble_eq_true rfl) ?_
          intro r Ia J12656 Ra hq
          obtain ⟨⟨ea, ec, fjJ12656, pJ12656⟩, rfl⟩ := hq
          rw [ea, ec]
          clear ea ec Ia Ra
          have fr12657 : fz 74 g [45, 46] J J12656 := fz_tr fr12653 (fz_mono fjJ12656 (by decide))
          have slJ12656 := pJ12656.1
          rw [fz_at fr12636 24 (by decide) (by decide), fz_at fr12636 25 (by decide) (by decide), fz_at fr12636 26 (by decide) (by decide)] at slJ12656
          have FJ12656 := FWD_step FJ12652 ldI12634 srJ12652 slJ12656 pJ12656.2 (by unfold EA; rw [if_pos (by omega)]; omega) (by omega) (by omega) (by omega) (sbx_b hI) (ldx_p hI (by decide) _ _ _ (by omega) (by omega) ldI12634 (by omega) (by omega)) (ldx_p hI (by decide)) (by omega)
          have ZJ12656 := ZB_out ZJ12652 pJ12656.2 (by omega)
          refine WP_iinc (ls' := [(0, _), (1, _), (2, _), (3, _), (4, _), (5, _), (6, _), (7, _)]) dX2_search_96 rfl (by decide) rfl ?_
          have hv12658 : (i12379 + Int32.ofInt (1)).toInt = i12379.toInt + (1) := ia_n rfl (by omega) (by omega)
          generalize i12379 + Int32.ofInt (1) = v12658 at hv12658 ⊢
          refine WP_goto 21 dX2_search_99 rfl ?_
          exact WP_sub (fc rfl (fc rfl (fc rfl (fc rfl (fc rfl (fc rfl (fc rfl fn))))))) (ihlp21_12382 v12658 I12634 J12656 RI12380 hrI12380 hTI12380 hSI12380 hPI12380 hI12634 fr12636 fr12657 (by omega) (by omega) (by omega) (by rw [show v12658.toInt = v12655.toInt by omega]; exact FJ12656) ZJ12656 (by omega))
  exact WP_sub (fc rfl (fc rfl (fc rfl (fc rfl (fc rfl (fc rfl (fc rfl fn))))))) (lp21_12382 _ v12378 I J12376 R hr hT rfl hP hI fr0 fr12377 (by omega) (by omega) (by omega) (FWD_0 hv12378) ZJ12376 (Nat.lt_succ_self _))
set_option maxHeartbeats 4000000 in
set_option maxRecDepth 100000 in
theorem sx_searchx_27 {g : GG} {n : Int} {L : Int32} (hy : LyX g)  {I : pI} {J : pJ} {R : pR} (hr : RfX g R) (hP : NL g R) (hT : R (ad g 5) 0 = some (ad g 27)) (hI : XI g n L I) (so : Int32) (da : Int32) (co : Int32) (st : Int32) (nn : Int32) (so_lo : 0 ≤ so.toInt) (so_hi : so.toInt ≤ 3) (da_lo : 0 ≤ da.toInt) (da_hi : da.toInt ≤ 6) (co_lo : 0 ≤ co.toInt) (co_hi : co.toInt ≤ 60) (st_lo : 0 ≤ st.toInt) (st_hi : st.toInt ≤ 5) (nn_lo : 1 ≤ nn.toInt) (nn_hi : nn.toInt ≤ 28) : SP g mX2_search [.ref (ad g 43), .int so, .int da, .int co, .int st, .int nn] I J R (fun r I' J' R' => (XI g n L I' ∧ (RfX g R' ∧ (R' (ad g 5) 0 = R (ad g 5) 0 ∧ R' (ad g 0) 10 = R (ad g 0) 10) ∧ NL g R') ∧ fz 74 g [43, 44, 47, 48] I I' ∧ fz 74 g [45, 46] J J') ∧ ∃ v : Int32, r = some (.int v) ∧ 0 ≤ v.toInt ∧ v.toInt ≤ 47 ∧ (∃ T : Nat → Int32, LD g 27 I so.toInt da.toInt T ∧ AOKd T co.toInt st.toInt v.toInt)) := by
  refine SP_of ⟨by decide, rfl⟩ (Nat.le_of_ble_eq_true rfl) ?_
  have e12659 : I (ad g 1) 1 = L := hI.2
  have b12660 := BT_get hI.1 1 1 2 (0) (0) (900) (by decide) 1 (by decide) (by decide)
  rw [e12659] at b12660
  have fr0 : fz 74 g [43, 44, 47, 48] I I := fz_rf
  have frj0 : fz 74 g [45, 46] J J := fz_rf
  refine WP_aload_n dX2_search_0 rfl ?_
  refine WP_getr dX2_search_1 fX2_18 rfl (lyx_is hy 43 2 rfl) (rfx hr 43 4 45 (by decide)) ?_
  refine WP_lconst (0) dX2_search_4 rfl ?_
  obtain ⟨l12661, hl12661, el12661⟩ : ∃ v : Int64, v.toInt = 0 ∧ (0 : Int64) = v := ⟨_, rfl, rfl⟩
  rw [el12661]; clear el12661
  refine WP_callS2 dX2_search_5 ⟨⟨⟨by decide, by decide⟩, zJ7_fill_d0a16⟩, lX2_36, tJ7_fill_d0a16⟩ (sx_fillJx_45 hy hr hI l12661 ) (Nat.le_of_ble_eq_true rfl) ?_
  intro r Ia J12662 Ra hq
  obtain ⟨⟨ea, ec, fjJ12662, pJ12662⟩, rfl⟩ := hq
  rw [ea, ec]
  clear ea ec Ia Ra
  have fr12663 : fz 74 g [45, 46] J J12662 := fz_tr frj0 (fz_mono fjJ12662 (by decide))
  refine WP_aload_n dX2_search_8 rfl ?_
  refine WP_getr dX2_search_9 fX2_18 rfl (lyx_is hy 43 2 rfl) (rfx hr 43 4 45 (by decide)) ?_
  refine WP_iload dX2_search_12 rfl ?_
  refine WP_lconst (1) dX2_search_14 rfl ?_
  obtain ⟨l12664, hl12664, el12664⟩ : ∃ v : Int64, v.toInt = 1 ∧ (1 : Int64) = v := ⟨_, rfl, rfl⟩
  rw [el12664]; clear el12664
  refine WP_iload_n dX2_search_15 rfl ?_
  refine WQ_lshl1 dX2_search_16 hl12664 (by omega) (by omega) (fun l12665 ql12665 => ?_)
  refine WQ_last dX2_search_17 (lyx_is hy 45 14 rfl) (lyx_n hy 45 168 rfl) (by omega) (by omega) (fun J12666 eJ12666 => ?_)
  have fr12667 : fz 74 g [45, 46] J J12666 := by rw [eJ12666]; exact fzx_pp hy fr12663 (by decide) (by decide)
  have xJ12666 := eJ12666
  rw [cl (x := st) (n := st.toInt.toNat) (by omega)] at xJ12666
  have ZJ12666 := ZB_0 (co := co) (st := st) pJ12662 hl12661 xJ12666 ql12665 (by omega)
  clear eJ12666
  refine WQ_iconst (0) (0) dX2_search_18 rfl rfl (fun v12668 hv12668 => ?_)
  refine WP_istore (ls' := [(0, _), (1, _), (2, _), (3, _), (4, _), (5, _), (6, _)]) dX2_search_19 (by decide) rfl ?_
  have lp21_12672 : ∀ (mz : Nat) (i12669 : Int32) (I12670 : pI) (J12671 : pJ) (RI12670 : pR), RfX g RI12670 → RI12670 (ad g 5) 0 = some (ad g 27) → RI12670 (ad g 0) 10 = R (ad g 0) 10 → NL g RI12670 → XI g n L I12670 → fz 74 g [43, 44, 47, 48] I I12670 → fz 74 g [45, 46] J J12671 → 0 ≤ i12669.toInt → i12669.toInt ≤ 27 → i12669.toInt ≤ nn.toInt - 1 → (FWD g 27 I (J12671 (ad g 45)) so.toInt da.toInt i12669.toInt) → (ZB (J12671 (ad g 45)) co.toInt st.toInt) → (28 - i12669.toInt).toNat < mz → WP g mX2_search 21 [(0, .ref (ad g 43)), (1, .int so), (2, .int da), (3, .int co), (4, .int st), (5, .int nn), (6, .int i12669)] [] I12670 J12671 RI12670 (fun r I' J' R' => (XI g n L I' ∧ (RfX g R' ∧ (R' (ad g 5) 0 = R (ad g 5) 0 ∧ R' (ad g 0) 10 = R (ad g 0) 10) ∧ NL g R') ∧ fz 74 g [43, 44, 47, 48] I I' ∧ fz 74 g [45, 46] J J') ∧ ∃ v : Int32, r = some (.int v) ∧ 0 ≤ v.toInt ∧ v.toInt ≤ 47 ∧ (∃ T : Nat → Int32, LD g 27 I so.toInt da.toInt T ∧ AOKd T co.toInt st.toInt v.toInt)) := by
    intro mz
    induction mz with
    | zero =>
      intro i12669 I12670 J12671 RI12670 hrI12670 hTI12670 hSI12670 hPI12670 hI12670 fiI12670 fjJ12671 ai12669 bi12669 j0_I12670 PF_I12670_12671 PZ_I12670_12671 hmlp21_12672
      exact absurd hmlp21_12672 (Nat.not_lt_zero _)
    | succ mz ihlp21_12672 =>
      intro i12669 I12670 J12671 RI12670 hrI12670 hTI12670 hSI12670 hPI12670 hI12670 fiI12670 fjJ12671 ai12669 bi12669 j0_I12670 PF_I12670_12671 PZ_I12670_12671 hmlp21_12672
      have e12674 : I12670 (ad g 1) 1 = L := hI12670.2
      have b12675 := BT_get hI12670.1 1 1 2 (0) (0) (900) (by decide) 1 (by decide) (by decide)
      rw [e12674] at b12675
      refine WP_iload dX2_search_21 rfl ?_
      refine WP_iload dX2_search_23 rfl ?_
      refine WQ_iconst (1) (1) dX2_search_25 rfl rfl (fun v12676 hv12676 => ?_)
      refine WQ_isub dX2_search_26 (by omega) (by omega) (fun v12677 hv12677 => ?_)
      refine WQ_icmp_ge 102 dX2_search_27 rfl (fun c12677 => ?_) (fun c12677 => ?_)
      · rcases hPI12670 with ⟨hn102, hl102⟩ | ⟨hn102, hl102⟩
        · have FN12678 : FWD g 27 I (J12671 (ad g 45)) so.toInt da.toInt (nn.toInt - 1) := by rw [show (nn.toInt - 1) = i12669.toInt by omega]; exact PF_I12670_12671
          refine WP_aload_n dX2_search_102 rfl ?_
          refine WP_getr dX2_search_103 fX2_29 rfl (lyx_is hy 43 2 rfl) hl102 ?_
          refine WQ_iconst (0) (0) dX2_search_106 rfl rfl (fun v12680 hv12680 => ?_)
          refine WP_callS2u dX2_search_107 ⟨⟨⟨by decide, by decide⟩, zJ7_fill_53178⟩, lX2_64, tJ7_fill_53178⟩ (s_fill hy hrI12670 48 366 rfl rfl (by decide) v12680) (Nat.le_of_ble_eq_true rfl) ?_
          obtain ⟨I12681, eI12681⟩ : ∃ I9 : pI, I9 = fi I12670 (ad g 48) 366 v12680 := ⟨_, rfl⟩
          rw [← eI12681]
          have hI12681 : XI g n L I12681 := by rw [eI12681]; exact (xi_fill0 hy hI12670 48 366 v12680 (by decide) (by decide))
          have e12682 : I12681 (ad g 1) 1 = L := by rw [eI12681, fi_off (lyx_ne hy (by decide) (by decide) (by decide))]; exact e12674
          have fr12683 : fz 74 g [43, 44, 47, 48] I I12681 := by rw [eI12681]; exact fzx_fi hy fiI12670 (by decide) (by decide)
          have WI12681 : WB (J12671 (ad g 45)) (I12681 (ad g 48)) (nn.toInt - 1) (nn.toInt - 1) := WB_0 eI12681 hv12680
          clear eI12681
          refine WP_aload_n dX2_search_110 rfl ?_
          refine WQ_iconst (0) (0) dX2_search_111 rfl rfl (fun v12684 hv12684 => ?_)
          refine WQ_puti dX2_search_112 fX2_67 rfl rfl (lyx_is hy 43 2 rfl) (fun I12685 eI12685 => ?_)
          have hI12685 : XI g n L I12685 := by rw [eI12685]; exact (xi_f0 hy hI12681 (c := 43) (by decide) (Or.inl (by decide)) (by decide))
          have e12686 : I12685 (ad g 1) 1 = L := by rw [eI12685, pp_ne _ _ (Or.inl (lyx_ne hy (by decide) (by decide) (by decide)))]; exact e12682
          have e12687 : I12685 (ad g 43) 8 = v12684 := by rw [eI12685, pp_self]
          have fr12688 : fz 74 g [43, 44, 47, 48] I I12685 := by rw [eI12685]; exact fzx_pp hy fr12683 (by decide) (by decide)
          have WI12685 : WB (J12671 (ad g 45)) (I12685 (ad g 48)) (nn.toInt - 1) (nn.toInt - 1) := by rw [eI12685, pp_off _ _ (lyx_ne hy (by decide) (by decide) (by decide))]; exact WI12681
          clear eI12685
          refine WP_iload dX2_search_115 rfl ?_
          refine WQ_iconst (1) (1) dX2_search_117 rfl rfl (fun v12689 hv12689 => ?_)
          refine WQ_isub dX2_search_118 (by omega) (by omega) (fun v12690 hv12690 => ?_)
          refine WP_istore (ls' := [(0, _), (1, _), (2, _), (3, _), (4, _), (5, _), (6, _)]) dX2_search_119 (by decide) rfl ?_
          have lp121_12695 : ∀ (mz : Nat) (i12691 : Int32) (I12692 : pI) (RI12692 : pR), RfX g RI12692 → RI12692 (ad g 5) 0 = some (ad g 27) → RI12692 (ad g 0) 10 = R (ad g 0) 10 → NL g RI12692 → XI g n L I12692 → fz 74 g [43, 44, 47, 48] I I12692 → ∀ (w12694 : Int32), I12692 (ad g 43) 1 = w12694 → ∀ (w12695 : Int32), I12692 (ad g 43) 8 = w12695 → -1 ≤ i12691.toInt → i12691.toInt ≤ 27 → i12691.toInt ≤ nn.toInt - 1 → 0 ≤ w12695.toInt → w12695.toInt ≤ 594 * (nn.toInt - 1 - i12691.toInt) → (∀ q : Nat, q < 74 → RI12692 (ad g 43) 7 = some (ad g q) → WB (J12671 (ad g 45)) (I12692 (ad g q)) (nn.toInt - 1) i12691.toInt) → (0 ≤ i12691.toInt ∨ ∃ T : Nat → Int32, LD g 27 I so.toInt da.toInt T ∧ AOKd T co.toInt st.toInt w12694.toInt) → (i12691.toInt + 1).toNat < mz → WP g mX2_search 121 [(0, .ref (ad g 43)), (1, .int so), (2, .int da), (3, .int co), (4, .int st), (5, .int nn), (6, .int i12691)] [] I12692 J12671 RI12692 (fun r I' J' R' => (XI g n L I' ∧ (RfX g R' ∧ (R' (ad g 5) 0 = R (ad g 5) 0 ∧ R' (ad g 0) 10 = R (ad g 0) 10) ∧ NL g R') ∧ fz 74 g [43, 44, 47, 48] I I' ∧ fz 74 g [45, 46] J J') ∧ ∃ v : Int32, r = some (.int v) ∧ 0 ≤ v.toInt ∧ v.toInt ≤ 47 ∧ (∃ T : Nat → Int32, LD g 27 I so.toInt da.toInt T ∧ AOKd T co.toInt st.toInt v.toInt)) := by
            intro mz
            induction mz with
            | zero =>
              intro i12691 I12692 RI12692 hrI12692 hTI12692 hSI12692 hPI12692 hI12692 fiI12692 w12694 ew12694 w12695 ew12695 ai12691 bi12691 j0_I12692_12692 j1_I12692_12692 j2_I12692_12692 PW_I12692_12692 PQ_I12692_12692 hmlp121_12695
              exact absurd hmlp121_12695 (Nat.not_lt_zero _)
            | succ mz ihlp121_12695 =>
              intro i12691 I12692 RI12692 hrI12692 hTI12692 hSI12692 hPI12692 hI12692 fiI12692 w12694 ew12694 w12695 ew12695 ai12691 bi12691 j0_I12692_12692 j1_I12692_12692 j2_I12692_12692 PW_I12692_12692 PQ_I12692_12692 hmlp121_12695
              have bw12694 := BT_get hI12692.1 43 1 2 (0) (0) (47) (by decide) 1 (by decide) (by decide)
              rw [ew12694] at bw12694
              have e12697 : I12692 (ad g 1) 1 = L := hI12692.2
              have b12698 := BT_get hI12692.1 1 1 2 (0) (0) (900) (by decide) 1 (by decide) (by decide)
              rw [e12697] at b12698
              rcases hPI12692 with ⟨hn121, hl121⟩ | ⟨hn121, hl121⟩
              · have W12698 := PW_I12692_12692 48 (by decide) hl121
                refine WP_iload dX2_search_121 rfl ?_
                refine WQ_if_lt 215 dX2_search_123 rfl (fun c12699 => ?_) (fun c12699 => ?_)
                · refine WP_aload_n dX2_search_215 rfl ?_
                  refine WQ_getim dX2_search_216 fX2_75 rfl (lyx_is hy 43 2 rfl) ew12694 ?_
                  exact WP_iret dX2_search_219 rfl ⟨⟨hI12692, ⟨hrI12692, ⟨hTI12692.trans hT.symm, hSI12692⟩, (Or.inl ⟨hn121, hl121⟩)⟩, fiI12692, fjJ12671⟩, _, rfl, by omega, by omega, (PQ_I12692_12692.resolve_left (by omega))⟩
                · refine WP_iload_n dX2_search_126 rfl ?_
                  refine WP_iload dX2_search_127 rfl ?_
                  refine WQ_iadd dX2_search_129 (by omega) (by omega) (fun v12701 hv12701 => ?_)
                  refine WQ_bipush (7) (7) dX2_search_130 rfl rfl (fun v12702 hv12702 => ?_)
                  refine WQ_iremk (7) dX2_search_132 hv12702 (by decide) (by omega) (fun v12703 hv12703 => ?_)
                  refine WP_istore (ls' := [(0, _), (1, _), (2, _), (3, _), (4, _), (5, _), (6, _), (7, _)]) dX2_search_133 (by decide) rfl ?_
                  refine WP_aload_n dX2_search_135 rfl ?_
                  refine WP_getr dX2_search_136 fX2_12 rfl (lyx_is hy 43 2 rfl) (rfx hrI12692 43 3 44 (by decide)) ?_
                  refine WP_aload_n dX2_search_139 rfl ?_
                  refine WP_getr dX2_search_140 fX2_32 rfl (lyx_is hy 43 2 rfl) (rfx hrI12692 43 2 5 (by decide)) ?_
                  refine WP_iload_n dX2_search_143 rfl ?_
                  refine WP_iload dX2_search_144 rfl ?_
                  refine WP_callV3 (k := 6) dX2_search_146 ⟨⟨⟨by decide, by decide⟩, zX6_load⟩, lX2_42, by decide, rfl, vX6_load.1, vX6_load.2⟩ (lyx_is hy 44 6 rfl) (sx_loadx_44_27 hy hrI12692 hTI12692 hI12692 so v12703 (by omega) (by omega) (by omega) (by omega)) (Nat.le_of_ble_eq_true rfl) ?_
                  intro r I12704 J12705 Ra hq
                  obtain ⟨⟨hI12704, ec, fiI12704, ejI12704, pI12704⟩, rfl⟩ := hq
                  rw [ec]
                  clear ec Ra
                  have fr12706 : fz 74 g [43, 44, 47, 48] I I12704 := fz_tr fiI12692 (fz_mono fiI12704 (by decide))
                  rw [ejI12704]
                  clear ejI12704 J12705
                  have ldI12704 := LD_fr pI12704 (fz_at fiI12692 27 (by decide) (by decide)) (fz_at fiI12692 32 (by decide) (by decide)) (fz_at fiI12692 34 (by decide) (by decide)) (fz_at fiI12692 35 (by decide) (by decide)) (fz_at fiI12692 36 (by decide) (by decide)) (fz_at fiI12692 22 (by decide) (by decide))
                  have WI12704 := W12698
                  rw [← fz_at fiI12704 48 (by decide) (by decide)] at WI12704
                  have e12707 : I12704 (ad g 43) 1 = w12694 := by rw [fz_at fiI12704 43 (by decide) (by decide)]; exact ew12694
                  have e12708 : I12704 (ad g 43) 8 = w12695 := by rw [fz_at fiI12704 43 (by decide) (by decide)]; exact ew12695
                  have e12709 : I12704 (ad g 1) 1 = L := hI12704.2
                  have b12710 := BT_get hI12704.1 1 1 2 (0) (0) (900) (by decide) 1 (by decide) (by decide)
                  rw [e12709] at b12710
                  refine WP_aload_n dX2_search_149 rfl ?_
                  refine WP_aload_n dX2_search_150 rfl ?_
                  refine WP_iload dX2_search_151 rfl ?_
                  refine WQ_if_ne 160 dX2_search_153 rfl (fun c12710 => ?_) (fun c12710 => ?_)
                  · refine WP_aload_n dX2_search_160 rfl ?_
                    refine WP_getr dX2_search_161 fX2_32 rfl (lyx_is hy 43 2 rfl) (rfx hrI12692 43 2 5 (by decide)) ?_
                    refine WP_getr dX2_search_164 fX2_46 rfl (lyx_is hy 5 0 rfl) hTI12692 ?_
                    refine WP_getr dX2_search_167 fX2_52 rfl (lyx_is hy 27 7 rfl) (rfx hrI12692 27 10 33 (by decide)) ?_
                    refine WP_iload_n dX2_search_170 rfl ?_
                    refine WQ_bipush (7) (7) dX2_search_171 rfl rfl (fun v12712 hv12712 => ?_)
                    refine WQ_imulk (7) dX2_search_173 hv12712 (by omega) (by omega) (fun v12713 hv12713 => ?_)
                    refine WP_iload dX2_search_174 rfl ?_
                    refine WQ_iadd dX2_search_176 (by omega) (by omega) (fun v12714 hv12714 => ?_)
                    refine WQ_iald dX2_search_177 (lyx_is hy 33 13 rfl) (lyx_n hy 33 28 rfl) (by omega) (by omega) (fun q hq => BT_get hI12704.1 33 0 28 (0) (0) (20) (by decide) q (Nat.zero_le _) hq) (fun v12715 av12715 bv12715 ev12715 => ?_)
                    refine WP_iload_n dX2_search_178 rfl ?_
                    refine WP_iload dX2_search_179 rfl ?_
                    refine WP_iload dX2_search_181 rfl ?_
                    refine WP_callV4 (k := 2) dX2_search_183 ⟨⟨⟨by decide, by decide⟩, zX2_weighDay⟩, lX2_71, by decide, rfl, vX2_weighDay.1, vX2_weighDay.2⟩ (lyx_is hy 43 2 rfl) (sx_weighDayx_48_27 hy hrI12692 hTI12692 hI12704 v12715 so v12703 i12691 (by omega) (by omega) (by omega) (by omega) (by omega) (by omega) (by omega) (by omega) (K := 594 * ((nn.toInt - 1) - i12691.toInt)) (by omega) hl121 hn121 (by rw [fz_at fiI12704 43 (by decide) (by decide), ew12695]; omega) (by rw [fz_at fr12706 24 (by decide) (by decide), fz_at fr12706 25 (by decide) (by decide), fz_at fr12706 26 (by decide) (by decide)]; exact WD_of WI12704 FN12678 ldI12704 (by unfold EA; rw [if_neg (by omega), show I (ad g (27 + 6)) = I12704 (ad g 33) from (fz_at fr12706 33 (by decide) (by decide)).symm, ← cl (x := v12714) (n := (7 * so.toInt + v12703.toInt).toNat) (by omega), ev12715]) (by omega) (by omega) (by omega) (ldx_p hI (by decide) _ _ _ (by omega) (by omega) ldI12704 (by omega) (by omega)) (sbx_b hI) (cbx_b hI (by omega) (by omega)))) (Nat.le_of_ble_eq_true rfl) ?_
                    intro r I12716 J12717 Ra hq
                    obtain ⟨⟨hI12716, ec, fiI12716, ejI12716, pI12716⟩, v12718, rfl, av12718, bv12718, cv12718⟩ := hq
                    show WP _ _ _ _ (.int _ :: _) _ _ _ _
                    rw [ec]
                    clear ec Ra
                    have fr12719 : fz 74 g [43, 44, 47, 48] I I12716 := fz_tr fr12706 (fz_mono fiI12716 (by decide))
                    rw [ejI12716]
                    clear ejI12716 J12717
                    have e12720 : I12716 (ad g 33) v12714.toNatClampNeg = v12715 := by rw [fz_at fiI12716 33 (by decide) (by decide)]; exact ev12715
                    have e12721 : I12716 (ad g 1) 1 = L := hI12716.2
                    have b12722 := BT_get hI12716.1 1 1 2 (0) (0) (900) (by decide) 1 (by decide) (by decide)
                    rw [e12721] at b12722
                    obtain ⟨w12723, ew12723⟩ : ∃ w : Int32, I12716 (ad g 43) 1 = w := ⟨_, rfl⟩
                    have bw12723 := BT_get hI12716.1 43 1 2 (0) (0) (47) (by decide) 1 (by decide) (by decide)
                    rw [ew12723] at bw12723
                    have vsI12716 := pI12716.1
                    have fuI12716 := pI12716.2
                    rw [ew12723] at fuI12716
                    refine WQ_puti dX2_search_186 fX2_67 rfl rfl (lyx_is hy 43 2 rfl) (fun I12724 eI12724 => ?_)
                    have hI12724 : XI g n L I12724 := by rw [eI12724]; exact (xi_f0 hy hI12716 (c := 43) (by decide) (Or.inl (by decide)) (by decide))
                    have e12725 : I12724 (ad g 33) v12714.toNatClampNeg = v12715 := by rw [eI12724, pp_ne _ _ (Or.inl (lyx_ne hy (by decide) (by decide) (by decide)))]; exact e12720
                    have e12726 : I12724 (ad g 1) 1 = L := by rw [eI12724, pp_ne _ _ (Or.inl (lyx_ne hy (by decide) (by decide) (by decide)))]; exact e12721
                    have e12727 : I12724 (ad g 43) 1 = w12723 := by rw [eI12724, pp_ne _ _ (Or.inr (by decide))]; exact ew12723
                    have e12728 : I12724 (ad g 43) 8 = v12718 := by rw [eI12724, pp_self]
                    have fr12729 : fz 74 g [43, 44, 47, 48] I I12724 := by rw [eI12724]; exact fzx_pp hy fr12719 (by decide) (by decide)
                    have VI12724 := vsI12716
                    rw [show I12716 (ad g 47) = I12724 (ad g 47) by rw [eI12724, pp_off _ _ (lyx_ne hy (by decide) (by decide) (by decide))]] at VI12724
                    clear eI12724
                    refine WP_aload_n dX2_search_189 rfl ?_
                    refine WP_getr dX2_search_190 fX2_29 rfl (lyx_is hy 43 2 rfl) hl121 ?_
                    refine WP_astore (ls' := [(0, _), (1, _), (2, _), (3, _), (4, _), (5, _), (6, _), (7, _), (8, _)]) dX2_search_193 (by decide) rfl ?_
                    refine WP_aload_n dX2_search_195 rfl ?_
                    refine WP_aload_n dX2_search_196 rfl ?_
                    refine WP_getr dX2_search_197 fX2_25 rfl (lyx_is hy 43 2 rfl) hn121 ?_
                    refine WP_putr dX2_search_200 fX2_29 rfl rfl rfl rfl (lyx_is hy 43 2 rfl) ?_
                    obtain ⟨R12730, eR12730⟩ : ∃ R9 : pR, R9 = pp RI12692 (ad g 43) 7 (some (ad g 47)) := ⟨_, rfl⟩
                    rw [← eR12730]
                    have hrR12730 : RfX g R12730 := by rw [eR12730]; exact rfx_pp hy hrI12692 (by decide)
                    have hSR12730 : R12730 (ad g 0) 10 = R (ad g 0) 10 := by rw [eR12730, pp_ne _ _ (Or.inl (lyx_ne hy (by decide) (by decide) (by decide)))]; exact hSI12692
                    have hTR12730 : R12730 (ad g 5) 0 = some (ad g 27) := by rw [eR12730, pp_ne _ _ (Or.inl (lyx_ne hy (by decide) (by decide) (by decide)))]; exact hTI12692
                    have hOR12730 : R12730 (ad g 43) 6 = some (ad g 47) := by rw [eR12730, pp_ne _ _ (Or.inr (by decide))]; exact hn121
                    have hQR12730 : R12730 (ad g 43) 7 = some (ad g 47) := by rw [eR12730, pp_self]
                    clear eR12730
                    refine WP_aload_n dX2_search_203 rfl ?_
                    refine WP_aload dX2_search_204 rfl ?_
                    refine WP_putr dX2_search_206 fX2_25 rfl rfl rfl rfl (lyx_is hy 43 2 rfl) ?_
                    obtain ⟨R12731, eR12731⟩ : ∃ R9 : pR, R9 = pp R12730 (ad g 43) 6 (some (ad g 48)) := ⟨_, rfl⟩
                    rw [← eR12731]
                    have hrR12731 : RfX g R12731 := by rw [eR12731]; exact rfx_pp hy hrR12730 (by decide)
                    have hSR12731 : R12731 (ad g 0) 10 = R (ad g 0) 10 := by rw [eR12731, pp_ne _ _ (Or.inl (lyx_ne hy (by decide) (by decide) (by decide)))]; exact hSR12730
                    have hTR12731 : R12731 (ad g 5) 0 = some (ad g 27) := by rw [eR12731, pp_ne _ _ (Or.inl (lyx_ne hy (by decide) (by decide) (by decide)))]; exact hTR12730
                    have hOR12731 : R12731 (ad g 43) 7 = some (ad g 47) := by rw [eR12731, pp_ne _ _ (Or.inr (by decide))]; exact hQR12730
                    have hQR12731 : R12731 (ad g 43) 6 = some (ad g 48) := by rw [eR12731, pp_self]
                    clear eR12731
                    refine WP_iinc (ls' := [(0, _), (1, _), (2, _), (3, _), (4, _), (5, _), (6, _), (7, _), (8, _)]) dX2_search_209 rfl (by decide) rfl ?_
                    have hv12732 : (i12691 + Int32.ofInt (-1)).toInt = i12691.toInt + (-1) := ia_n rfl (by omega) (by omega)
                    generalize i12691 + Int32.ofInt (-1) = v12732 at hv12732 ⊢
                    refine WP_goto 121 dX2_search_212 rfl ?_
                    exact WP_sub (fc rfl (fc rfl (fc rfl (fc rfl (fc rfl (fc rfl (fc rfl fn))))))) (ihlp121_12695 v12732 I12724 R12731 hrR12731 hTR12731 hSR12731 (Or.inr ⟨hQR12731, hOR12731⟩) hI12724 fr12729 w12723 e12727 v12718 e12728 (by omega) (by omega) (by omega) (by omega) (by omega) (fun q hq he => by have e := adx_inj hy hq (by decide) (Option.some.inj (he.symm.trans hOR12731)); subst e; exact WB_V VI12724 (by omega) (by omega)) (Or.inl (by omega)) (by omega))
                  · refine WQ_iconst (0) (0) dX2_search_156 rfl rfl (fun v12733 hv12733 => ?_)
                    refine WP_goto 178 dX2_search_157 rfl ?_
                    refine WP_iload_n dX2_search_178 rfl ?_
                    refine WP_iload dX2_search_179 rfl ?_
                    refine WP_iload dX2_search_181 rfl ?_
                    refine WP_callV4 (k := 2) dX2_search_183 ⟨⟨⟨by decide, by decide⟩, zX2_weighDay⟩, lX2_71, by decide, rfl, vX2_weighDay.1, vX2_weighDay.2⟩ (lyx_is hy 43 2 rfl) (sx_weighDayx_48_27 hy hrI12692 hTI12692 hI12704 v12733 so v12703 i12691 (by omega) (by omega) (by omega) (by omega) (by omega) (by omega) (by omega) (by omega) (K := 594 * ((nn.toInt - 1) - i12691.toInt)) (by omega) hl121 hn121 (by rw [fz_at fiI12704 43 (by decide) (by decide), ew12695]; omega) (by rw [fz_at fr12706 24 (by decide) (by decide), fz_at fr12706 25 (by decide) (by decide), fz_at fr12706 26 (by decide) (by decide)]; exact WD_of WI12704 FN12678 ldI12704 (by unfold EA; rw [if_pos (by omega)]; omega) (by omega) (by omega) (by omega) (ldx_p hI (by decide) _ _ _ (by omega) (by omega) ldI12704 (by omega) (by omega)) (sbx_b hI) (cbx_b hI (by omega) (by omega)))) (Nat.le_of_ble_eq_true rfl) ?_
                    intro r I12734 J12735 Ra hq
                    obtain ⟨⟨hI12734, ec, fiI12734, ejI12734, pI12734⟩, v12736, rfl, av12736, bv12736, cv12736⟩ := hq
                    show WP _ _ _ _ (.int _ :: _) _ _ _ _
                    rw [ec]
                    clear ec Ra
                    have fr12737 : fz 74 g [43, 44, 47, 48] I I12734 := fz_tr fr12706 (fz_mono fiI12734 (by decide))
                    rw [ejI12734]
                    clear ejI12734 J12735
                    have e12738 : I12734 (ad g 1) 1 = L := hI12734.2
                    have b12739 := BT_get hI12734.1 1 1 2 (0) (0) (900) (by decide) 1 (by decide) (by decide)
                    rw [e12738] at b12739
                    obtain ⟨w12740, ew12740⟩ : ∃ w : Int32, I12734 (ad g 43) 1 = w := ⟨_, rfl⟩
                    have bw12740 := BT_get hI12734.1 43 1 2 (0) (0) (47) (by decide) 1 (by decide) (by decide)
                    rw [ew12740] at bw12740
                    have vsI12734 := pI12734.1
                    have fuI12734 := pI12734.2
                    rw [ew12740] at fuI12734
                    refine WQ_puti dX2_search_186 fX2_67 rfl rfl (lyx_is hy 43 2 rfl) (fun I12741 eI12741 => ?_)
                    have hI12741 : XI g n L I12741 := by rw [eI12741]; exact (xi_f0 hy hI12734 (c := 43) (by decide) (Or.inl (by decide)) (by decide))
                    have e12742 : I12741 (ad g 1) 1 = L := by rw [eI12741, pp_ne _ _ (Or.inl (lyx_ne hy (by decide) (by decide) (by decide)))]; exact e12738
                    have e12743 : I12741 (ad g 43) 1 = w12740 := by rw [eI12741, pp_ne _ _ (Or.inr (by decide))]; exact ew12740
                    have e12744 : I12741 (ad g 43) 8 = v12736 := by rw [eI12741, pp_self]
                    have fr12745 : fz 74 g [43, 44, 47, 48] I I12741 := by rw [eI12741]; exact fzx_pp hy fr12737 (by decide) (by decide)
                    have VI12741 := vsI12734
                    rw [show I12734 (ad g 47) = I12741 (ad g 47) by rw [eI12741, pp_off _ _ (lyx_ne hy (by decide) (by decide) (by decide))]] at VI12741
                    clear eI12741
                    refine WP_aload_n dX2_search_189 rfl ?_
                    refine WP_getr dX2_search_190 fX2_29 rfl (lyx_is hy 43 2 rfl) hl121 ?_
                    refine WP_astore (ls' := [(0, _), (1, _), (2, _), (3, _), (4, _), (5, _), (6, _), (7, _), (8, _)]) dX2_search_193 (by decide) rfl ?_
                    refine WP_aload_n dX2_search_195 rfl ?_
                    refine WP_aload_n dX2_search_196 rfl ?_
                    refine WP_getr dX2_search_197 fX2_25 rfl (lyx_is hy 43 2 rfl) hn121 ?_
                    refine WP_putr dX2_search_200 fX2_29 rfl rfl rfl rfl (lyx_is hy 43 2 rfl) ?_
                    obtain ⟨R12746, eR12746⟩ : ∃ R9 : pR, R9 = pp RI12692 (ad g 43) 7 (some (ad g 47)) := ⟨_, rfl⟩
                    rw [← eR12746]
                    have hrR12746 : RfX g R12746 := by rw [eR12746]; exact rfx_pp hy hrI12692 (by decide)
                    have hSR12746 : R12746 (ad g 0) 10 = R (ad g 0) 10 := by rw [eR12746, pp_ne _ _ (Or.inl (lyx_ne hy (by decide) (by decide) (by decide)))]; exact hSI12692
                    have hTR12746 : R12746 (ad g 5) 0 = some (ad g 27) := by rw [eR12746, pp_ne _ _ (Or.inl (lyx_ne hy (by decide) (by decide) (by decide)))]; exact hTI12692
                    have hOR12746 : R12746 (ad g 43) 6 = some (ad g 47) := by rw [eR12746, pp_ne _ _ (Or.inr (by decide))]; exact hn121
                    have hQR12746 : R12746 (ad g 43) 7 = some (ad g 47) := by rw [eR12746, pp_self]
                    clear eR12746
                    refine WP_aload_n dX2_search_203 rfl ?_
                    refine WP_aload dX2_search_204 rfl ?_
                    refine WP_putr dX2_search_206 fX2_25 rfl rfl rfl rfl (lyx_is hy 43 2 rfl) ?_
                    obtain ⟨R12747, eR12747⟩ : ∃ R9 : pR, R9 = pp R12746 (ad g 43) 6 (some (ad g 48)) := ⟨_, rfl⟩
                    rw [← eR12747]
                    have hrR12747 : RfX g R12747 := by rw [eR12747]; exact rfx_pp hy hrR12746 (by decide)
                    have hSR12747 : R12747 (ad g 0) 10 = R (ad g 0) 10 := by rw [eR12747, pp_ne _ _ (Or.inl (lyx_ne hy (by decide) (by decide) (by decide)))]; exact hSR12746
                    have hTR12747 : R12747 (ad g 5) 0 = some (ad g 27) := by rw [eR12747, pp_ne _ _ (Or.inl (lyx_ne hy (by decide) (by decide) (by decide)))]; exact hTR12746
                    have hOR12747 : R12747 (ad g 43) 7 = some (ad g 47) := by rw [eR12747, pp_ne _ _ (Or.inr (by decide))]; exact hQR12746
                    have hQR12747 : R12747 (ad g 43) 6 = some (ad g 48) := by rw [eR12747, pp_self]
                    clear eR12747
                    refine WP_iinc (ls' := [(0, _), (1, _), (2, _), (3, _), (4, _), (5, _), (6, _), (7, _), (8, _)]) dX2_search_209 rfl (by decide) rfl ?_
                    have hv12748 : (i12691 + Int32.ofInt (-1)).toInt = i12691.toInt + (-1) := ia_n rfl (by omega) (by omega)
                    generalize i12691 + Int32.ofInt (-1) = v12748 at hv12748 ⊢
                    refine WP_goto 121 dX2_search_212 rfl ?_
                    exact WP_sub (fc rfl (fc rfl (fc rfl (fc rfl (fc rfl (fc rfl (fc rfl fn))))))) (ihlp121_12695 v12748 I12741 R12747 hrR12747 hTR12747 hSR12747 (Or.inr ⟨hQR12747, hOR12747⟩) hI12741 fr12745 w12740 e12743 v12736 e12744 (by omega) (by omega) (by omega) (by omega) (by omega) (fun q hq he => by have e := adx_inj hy hq (by decide) (Option.some.inj (he.symm.trans hOR12747)); subst e; exact WB_V VI12741 (by omega) (by omega)) (Or.inr ⟨_, by rw [show da.toInt = v12703.toInt by omega]; exact ldI12704, FU_end (by have z := fuI12734; rw [show i12691.toInt = (0 : Int) by omega] at z; exact z) PZ_I12670_12671 (by omega) (by omega) (by omega)⟩) (by omega))
              · have W12748 := PW_I12692_12692 47 (by decide) hl121
                refine WP_iload dX2_search_121 rfl ?_
                refine WQ_if_lt 215 dX2_search_123 rfl (fun c12749 => ?_) (fun c12749 => ?_)
                · refine WP_aload_n dX2_search_215 rfl ?_
                  refine WQ_getim dX2_search_216 fX2_75 rfl (lyx_is hy 43 2 rfl) ew12694 ?_
                  exact WP_iret dX2_search_219 rfl ⟨⟨hI12692, ⟨hrI12692, ⟨hTI12692.trans hT.symm, hSI12692⟩, (Or.inr ⟨hn121, hl121⟩)⟩, fiI12692, fjJ12671⟩, _, rfl, by omega, by omega, (PQ_I12692_12692.resolve_left (by omega))⟩
                · refine WP_iload_n dX2_search_126 rfl ?_
                  refine WP_iload dX2_search_127 rfl ?_
                  refine WQ_iadd dX2_search_129 (by omega) (by omega) (fun v12751 hv12751 => ?_)
                  refine WQ_bipush (7) (7) dX2_search_130 rfl rfl (fun v12752 hv12752 => ?_)
                  refine WQ_iremk (7) dX2_search_132 hv12752 (by decide) (by omega) (fun v12753 hv12753 => ?_)
                  refine WP_istore (ls' := [(0, _), (1, _), (2, _), (3, _), (4, _), (5, _), (6, _), (7, _)]) dX2_search_133 (by decide) rfl ?_
                  refine WP_aload_n dX2_search_135 rfl ?_
                  refine WP_getr dX2_search_136 fX2_12 rfl (lyx_is hy 43 2 rfl) (rfx hrI12692 43 3 44 (by decide)) ?_
                  refine WP_aload_n dX2_search_139 rfl ?_
                  refine WP_getr dX2_search_140 fX2_32 rfl (lyx_is hy 43 2 rfl) (rfx hrI12692 43 2 5 (by decide)) ?_
                  refine WP_iload_n dX2_search_143 rfl ?_
                  refine WP_iload dX2_search_144 rfl ?_
                  refine WP_callV3 (k := 6) dX2_search_146 ⟨⟨⟨by decide, by decide⟩, zX6_load⟩, lX2_42, by decide, rfl, vX6_load.1, vX6_load.2⟩ (lyx_is hy 44 6 rfl) (sx_loadx_44_27 hy hrI12692 hTI12692 hI12692 so v12753 (by omega) (by omega) (by omega) (by omega)) (Nat.le_of_ble_eq_true rfl) ?_
                  intro r I12754 J12755 Ra hq
                  obtain ⟨⟨hI12754, ec, fiI12754, ejI12754, pI12754⟩, rfl⟩ := hq
                  rw [ec]
                  clear ec Ra
                  have fr12756 : fz 74 g [43, 44, 47, 48] I I12754 := fz_tr fiI12692 (fz_mono fiI12754 (by decide))
                  rw [ejI12754]
                  clear ejI12754 J12755
                  have ldI12754 := LD_fr pI12754 (fz_at fiI12692 27 (by decide) (by decide)) (fz_at fiI12692 32 (by decide) (by decide)) (fz_at fiI12692 34 (by decide) (by decide)) (fz_at fiI12692 35 (by decide) (by decide)) (fz_at fiI12692 36 (by decide) (by decide)) (fz_at fiI12692 22 (by decide) (by decide))
                  have WI12754 := W12748
                  rw [← fz_at fiI12754 47 (by decide) (by decide)] at WI12754
                  have e12757 : I12754 (ad g 43) 1 = w12694 := by rw [fz_at fiI12754 43 (by decide) (by decide)]; exact ew12694
                  have e12758 : I12754 (ad g 43) 8 = w12695 := by rw [fz_at fiI12754 43 (by decide) (by decide)]; exact ew12695
                  have e12759 : I12754 (ad g 1) 1 = L := hI12754.2
                  have b12760 := BT_get hI12754.1 1 1 2 (0) (0) (900) (by decide) 1 (by decide) (by decide)
                  rw [e12759] at b12760
                  refine WP_aload_n dX2_search_149 rfl ?_
                  refine WP_aload_n dX2_search_150 rfl ?_
                  refine WP_iload dX2_search_151 rfl ?_
                  refine WQ_if_ne 160 dX2_search_153 rfl (fun c12760 => ?_) (fun c12760 => ?_)
                  · refine WP_aload_n dX2_search_160 rfl ?_
                    refine WP_getr dX2_search_161 fX2_32 rfl (lyx_is hy 43 2 rfl) (rfx hrI12692 43 2 5 (by decide)) ?_
                    refine WP_getr dX2_search_164 fX2_46 rfl (lyx_is hy 5 0 rfl) hTI12692 ?_
                    refine WP_getr dX2_search_167 fX2_52 rfl (lyx_is hy 27 7 rfl) (rfx hrI12692 27 10 33 (by decide)) ?_
                    refine WP_iload_n dX2_search_170 rfl ?_
                    refine WQ_bipush (7) (7) dX2_search_171 rfl rfl (fun v12762 hv12762 => ?_)
                    refine WQ_imulk (7) dX2_search_173 hv12762 (by omega) (by omega) (fun v12763 hv12763 => ?_)
                    refine WP_iload dX2_search_174 rfl ?_
                    refine WQ_iadd dX2_search_176 (by omega) (by omega) (fun v12764 hv12764 => ?_)
                    refine WQ_iald dX2_search_177 (lyx_is hy 33 13 rfl) (lyx_n hy 33 28 rfl) (by omega) (by omega) (fun q hq => BT_get hI12754.1 33 0 28 (0) (0) (20) (by decide) q (Nat.zero_le _) hq) (fun v12765 av12765 bv12765 ev12765 => ?_)
                    refine WP_iload_n dX2_search_178 rfl ?_
                    refine WP_iload dX2_search_179 rfl ?_
                    refine WP_iload dX2_search_181 rfl ?_
                    refine WP_callV4 (k := 2) dX2_search_183 ⟨⟨⟨by decide, by decide⟩, zX2_weighDay⟩, lX2_71, by decide, rfl, vX2_weighDay.1, vX2_weighDay.2⟩ (lyx_is hy 43 2 rfl) (sx_weighDayx_47_27 hy hrI12692 hTI12692 hI12754 v12765 so v12753 i12691 (by omega) (by omega) (by omega) (by omega) (by omega) (by omega) (by omega) (by omega) (K := 594 * ((nn.toInt - 1) - i12691.toInt)) (by omega) hl121 hn121 (by rw [fz_at fiI12754 43 (by decide) (by decide), ew12695]; omega) (by rw [fz_at fr12756 24 (by decide) (by decide), fz_at fr12756 25 (by decide) (by decide), fz_at fr12756 26 (by decide) (by decide)]; exact WD_of WI12754 FN12678 ldI12754 (by unfold EA; rw [if_neg (by omega), show I (ad g (27 + 6)) = I12754 (ad g 33) from (fz_at fr12756 33 (by decide) (by decide)).symm, ← cl (x := v12764) (n := (7 * so.toInt + v12753.toInt).toNat) (by omega), ev12765]) (by omega) (by omega) (by omega) (ldx_p hI (by decide) _ _ _ (by omega) (by omega) ldI12754 (by omega) (by omega)) (sbx_b hI) (cbx_b hI (by omega) (by omega)))) (Nat.le_of_ble_eq_true rfl) ?_
                    intro r I12766 J12767 Ra hq
                    obtain ⟨⟨hI12766, ec, fiI12766, ejI12766, pI12766⟩, v12768, rfl, av12768, bv12768, cv12768⟩ := hq
                    show WP _ _ _ _ (.int _ :: _) _ _ _ _
                    rw [ec]
                    clear ec Ra
                    have fr12769 : fz 74 g [43, 44, 47, 48] I I12766 := fz_tr fr12756 (fz_mono fiI12766 (by decide))
                    rw [ejI12766]
                    clear ejI12766 J12767
                    have e12770 : I12766 (ad g 33) v12764.toNatClampNeg = v12765 := by rw [fz_at fiI12766 33 (by decide) (by decide)]; exact ev12765
                    have e12771 : I12766 (ad g 1) 1 = L := hI12766.2
                    have b12772 := BT_get hI12766.1 1 1 2 (0) (0) (900) (by decide) 1 (by decide) (by decide)
                    rw [e12771] at b12772
                    obtain ⟨w12773, ew12773⟩ : ∃ w : Int32, I12766 (ad g 43) 1 = w := ⟨_, rfl⟩
                    have bw12773 := BT_get hI12766.1 43 1 2 (0) (0) (47) (by decide) 1 (by decide) (by decide)
                    rw [ew12773] at bw12773
                    have vsI12766 := pI12766.1
                    have fuI12766 := pI12766.2
                    rw [ew12773] at fuI12766
                    refine WQ_puti dX2_search_186 fX2_67 rfl rfl (lyx_is hy 43 2 rfl) (fun I12774 eI12774 => ?_)
                    have hI12774 : XI g n L I12774 := by rw [eI12774]; exact (xi_f0 hy hI12766 (c := 43) (by decide) (Or.inl (by decide)) (by decide))
                    have e12775 : I12774 (ad g 33) v12764.toNatClampNeg = v12765 := by rw [eI12774, pp_ne _ _ (Or.inl (lyx_ne hy (by decide) (by decide) (by decide)))]; exact e12770
                    have e12776 : I12774 (ad g 1) 1 = L := by rw [eI12774, pp_ne _ _ (Or.inl (lyx_ne hy (by decide) (by decide) (by decide)))]; exact e12771
                    have e12777 : I12774 (ad g 43) 1 = w12773 := by rw [eI12774, pp_ne _ _ (Or.inr (by decide))]; exact ew12773
                    have e12778 : I12774 (ad g 43) 8 = v12768 := by rw [eI12774, pp_self]
                    have fr12779 : fz 74 g [43, 44, 47, 48] I I12774 := by rw [eI12774]; exact fzx_pp hy fr12769 (by decide) (by decide)
                    have VI12774 := vsI12766
                    rw [show I12766 (ad g 48) = I12774 (ad g 48) by rw [eI12774, pp_off _ _ (lyx_ne hy (by decide) (by decide) (by decide))]] at VI12774
                    clear eI12774
                    refine WP_aload_n dX2_search_189 rfl ?_
                    refine WP_getr dX2_search_190 fX2_29 rfl (lyx_is hy 43 2 rfl) hl121 ?_
                    refine WP_astore (ls' := [(0, _), (1, _), (2, _), (3, _), (4, _), (5, _), (6, _), (7, _), (8, _)]) dX2_search_193 (by decide) rfl ?_
                    refine WP_aload_n dX2_search_195 rfl ?_
                    refine WP_aload_n dX2_search_196 rfl ?_
                    refine WP_getr dX2_search_197 fX2_25 rfl (lyx_is hy 43 2 rfl) hn121 ?_
                    refine WP_putr dX2_search_200 fX2_29 rfl rfl rfl rfl (lyx_is hy 43 2 rfl) ?_
                    obtain ⟨R12780, eR12780⟩ : ∃ R9 : pR, R9 = pp RI12692 (ad g 43) 7 (some (ad g 48)) := ⟨_, rfl⟩
                    rw [← eR12780]
                    have hrR12780 : RfX g R12780 := by rw [eR12780]; exact rfx_pp hy hrI12692 (by decide)
                    have hSR12780 : R12780 (ad g 0) 10 = R (ad g 0) 10 := by rw [eR12780, pp_ne _ _ (Or.inl (lyx_ne hy (by decide) (by decide) (by decide)))]; exact hSI12692
                    have hTR12780 : R12780 (ad g 5) 0 = some (ad g 27) := by rw [eR12780, pp_ne _ _ (Or.inl (lyx_ne hy (by decide) (by decide) (by decide)))]; exact hTI12692
                    have hOR12780 : R12780 (ad g 43) 6 = some (ad g 48) := by rw [eR12780, pp_ne _ _ (Or.inr (by decide))]; exact hn121
                    have hQR12780 : R12780 (ad g 43) 7 = some (ad g 48) := by rw [eR12780, pp_self]
                    clear eR12780
                    refine WP_aload_n dX2_search_203 rfl ?_
                    refine WP_aload dX2_search_204 rfl ?_
                    refine WP_putr dX2_search_206 fX2_25 rfl rfl rfl rfl (lyx_is hy 43 2 rfl) ?_
                    obtain ⟨R12781, eR12781⟩ : ∃ R9 : pR, R9 = pp R12780 (ad g 43) 6 (some (ad g 47)) := ⟨_, rfl⟩
                    rw [← eR12781]
                    have hrR12781 : RfX g R12781 := by rw [eR12781]; exact rfx_pp hy hrR12780 (by decide)
                    have hSR12781 : R12781 (ad g 0) 10 = R (ad g 0) 10 := by rw [eR12781, pp_ne _ _ (Or.inl (lyx_ne hy (by decide) (by decide) (by decide)))]; exact hSR12780
                    have hTR12781 : R12781 (ad g 5) 0 = some (ad g 27) := by rw [eR12781, pp_ne _ _ (Or.inl (lyx_ne hy (by decide) (by decide) (by decide)))]; exact hTR12780
                    have hOR12781 : R12781 (ad g 43) 7 = some (ad g 48) := by rw [eR12781, pp_ne _ _ (Or.inr (by decide))]; exact hQR12780
                    have hQR12781 : R12781 (ad g 43) 6 = some (ad g 47) := by rw [eR12781, pp_self]
                    clear eR12781
                    refine WP_iinc (ls' := [(0, _), (1, _), (2, _), (3, _), (4, _), (5, _), (6, _), (7, _), (8, _)]) dX2_search_209 rfl (by decide) rfl ?_
                    have hv12782 : (i12691 + Int32.ofInt (-1)).toInt = i12691.toInt + (-1) := ia_n rfl (by omega) (by omega)
                    generalize i12691 + Int32.ofInt (-1) = v12782 at hv12782 ⊢
                    refine WP_goto 121 dX2_search_212 rfl ?_
                    exact WP_sub (fc rfl (fc rfl (fc rfl (fc rfl (fc rfl (fc rfl (fc rfl fn))))))) (ihlp121_12695 v12782 I12774 R12781 hrR12781 hTR12781 hSR12781 (Or.inl ⟨hQR12781, hOR12781⟩) hI12774 fr12779 w12773 e12777 v12768 e12778 (by omega) (by omega) (by omega) (by omega) (by omega) (fun q hq he => by have e := adx_inj hy hq (by decide) (Option.some.inj (he.symm.trans hOR12781)); subst e; exact WB_V VI12774 (by omega) (by omega)) (Or.inl (by omega)) (by omega))
                  · refine WQ_iconst (0) (0) dX2_search_156 rfl rfl (fun v12783 hv12783 => ?_)
                    refine WP_goto 178 dX2_search_157 rfl ?_
                    refine WP_iload_n dX2_search_178 rfl ?_
                    refine WP_iload dX2_search_179 rfl ?_
                    refine WP_iload dX2_search_181 rfl ?_
                    refine WP_callV4 (k := 2) dX2_search_183 ⟨⟨⟨by decide, by decide⟩, zX2_weighDay⟩, lX2_71, by decide, rfl, vX2_weighDay.1, vX2_weighDay.2⟩ (lyx_is hy 43 2 rfl) (sx_weighDayx_47_27 hy hrI12692 hTI12692 hI12754 v12783 so v12753 i12691 (by omega) (by omega) (by omega) (by omega) (by omega) (by omega) (by omega) (by omega) (K := 594 * ((nn.toInt - 1) - i12691.toInt)) (by omega) hl121 hn121 (by rw [fz_at fiI12754 43 (by decide) (by decide), ew12695]; omega) (by rw [fz_at fr12756 24 (by decide) (by decide), fz_at fr12756 25 (by decide) (by decide), fz_at fr12756 26 (by decide) (by decide)]; exact WD_of WI12754 FN12678 ldI12754 (by unfold EA; rw [if_pos (by omega)]; omega) (by omega) (by omega) (by omega) (ldx_p hI (by decide) _ _ _ (by omega) (by omega) ldI12754 (by omega) (by omega)) (sbx_b hI) (cbx_b hI (by omega) (by omega)))) (Nat.le_of_ble_eq_true rfl) ?_
                    intro r I12784 J12785 Ra hq
                    obtain ⟨⟨hI12784, ec, fiI12784, ejI12784, pI12784⟩, v12786, rfl, av12786, bv12786, cv12786⟩ := hq
                    show WP _ _ _ _ (.int _ :: _) _ _ _ _
                    rw [ec]
                    clear ec Ra
                    have fr12787 : fz 74 g [43, 44, 47, 48] I I12784 := fz_tr fr12756 (fz_mono fiI12784 (by decide))
                    rw [ejI12784]
                    clear ejI12784 J12785
                    have e12788 : I12784 (ad g 1) 1 = L := hI12784.2
                    have b12789 := BT_get hI12784.1 1 1 2 (0) (0) (900) (by decide) 1 (by decide) (by decide)
                    rw [e12788] at b12789
                    obtain ⟨w12790, ew12790⟩ : ∃ w : Int32, I12784 (ad g 43) 1 = w := ⟨_, rfl⟩
                    have bw12790 := BT_get hI12784.1 43 1 2 (0) (0) (47) (by decide) 1 (by decide) (by decide)
                    rw [ew12790] at bw12790
                    have vsI12784 := pI12784.1
                    have fuI12784 := pI12784.2
                    rw [ew12790] at fuI12784
                    refine WQ_puti dX2_search_186 fX2_67 rfl rfl (lyx_is hy 43 2 rfl) (fun I12791 eI12791 => ?_)
                    have hI12791 : XI g n L I12791 := by rw [eI12791]; exact (xi_f0 hy hI12784 (c := 43) (by decide) (Or.inl (by decide)) (by decide))
                    have e12792 : I12791 (ad g 1) 1 = L := by rw [eI12791, pp_ne _ _ (Or.inl (lyx_ne hy (by decide) (by decide) (by decide)))]; exact e12788
                    have e12793 : I12791 (ad g 43) 1 = w12790 := by rw [eI12791, pp_ne _ _ (Or.inr (by decide))]; exact ew12790
                    have e12794 : I12791 (ad g 43) 8 = v12786 := by rw [eI12791, pp_self]
                    have fr12795 : fz 74 g [43, 44, 47, 48] I I12791 := by rw [eI12791]; exact fzx_pp hy fr12787 (by decide) (by decide)
                    have VI12791 := vsI12784
                    rw [show I12784 (ad g 48) = I12791 (ad g 48) by rw [eI12791, pp_off _ _ (lyx_ne hy (by decide) (by decide) (by decide))]] at VI12791
                    clear eI12791
                    refine WP_aload_n dX2_search_189 rfl ?_
                    refine WP_getr dX2_search_190 fX2_29 rfl (lyx_is hy 43 2 rfl) hl121 ?_
                    refine WP_astore (ls' := [(0, _), (1, _), (2, _), (3, _), (4, _), (5, _), (6, _), (7, _), (8, _)]) dX2_search_193 (by decide) rfl ?_
                    refine WP_aload_n dX2_search_195 rfl ?_
                    refine WP_aload_n dX2_search_196 rfl ?_
                    refine WP_getr dX2_search_197 fX2_25 rfl (lyx_is hy 43 2 rfl) hn121 ?_
                    refine WP_putr dX2_search_200 fX2_29 rfl rfl rfl rfl (lyx_is hy 43 2 rfl) ?_
                    obtain ⟨R12796, eR12796⟩ : ∃ R9 : pR, R9 = pp RI12692 (ad g 43) 7 (some (ad g 48)) := ⟨_, rfl⟩
                    rw [← eR12796]
                    have hrR12796 : RfX g R12796 := by rw [eR12796]; exact rfx_pp hy hrI12692 (by decide)
                    have hSR12796 : R12796 (ad g 0) 10 = R (ad g 0) 10 := by rw [eR12796, pp_ne _ _ (Or.inl (lyx_ne hy (by decide) (by decide) (by decide)))]; exact hSI12692
                    have hTR12796 : R12796 (ad g 5) 0 = some (ad g 27) := by rw [eR12796, pp_ne _ _ (Or.inl (lyx_ne hy (by decide) (by decide) (by decide)))]; exact hTI12692
                    have hOR12796 : R12796 (ad g 43) 6 = some (ad g 48) := by rw [eR12796, pp_ne _ _ (Or.inr (by decide))]; exact hn121
                    have hQR12796 : R12796 (ad g 43) 7 = some (ad g 48) := by rw [eR12796, pp_self]
                    clear eR12796
                    refine WP_aload_n dX2_search_203 rfl ?_
                    refine WP_aload dX2_search_204 rfl ?_
                    refine WP_putr dX2_search_206 fX2_25 rfl rfl rfl rfl (lyx_is hy 43 2 rfl) ?_
                    obtain ⟨R12797, eR12797⟩ : ∃ R9 : pR, R9 = pp R12796 (ad g 43) 6 (some (ad g 47)) := ⟨_, rfl⟩
                    rw [← eR12797]
                    have hrR12797 : RfX g R12797 := by rw [eR12797]; exact rfx_pp hy hrR12796 (by decide)
                    have hSR12797 : R12797 (ad g 0) 10 = R (ad g 0) 10 := by rw [eR12797, pp_ne _ _ (Or.inl (lyx_ne hy (by decide) (by decide) (by decide)))]; exact hSR12796
                    have hTR12797 : R12797 (ad g 5) 0 = some (ad g 27) := by rw [eR12797, pp_ne _ _ (Or.inl (lyx_ne hy (by decide) (by decide) (by decide)))]; exact hTR12796
                    have hOR12797 : R12797 (ad g 43) 7 = some (ad g 48) := by rw [eR12797, pp_ne _ _ (Or.inr (by decide))]; exact hQR12796
                    have hQR12797 : R12797 (ad g 43) 6 = some (ad g 47) := by rw [eR12797, pp_self]
                    clear eR12797
                    refine WP_iinc (ls' := [(0, _), (1, _), (2, _), (3, _), (4, _), (5, _), (6, _), (7, _), (8, _)]) dX2_search_209 rfl (by decide) rfl ?_
                    have hv12798 : (i12691 + Int32.ofInt (-1)).toInt = i12691.toInt + (-1) := ia_n rfl (by omega) (by omega)
                    generalize i12691 + Int32.ofInt (-1) = v12798 at hv12798 ⊢
                    refine WP_goto 121 dX2_search_212 rfl ?_
                    exact WP_sub (fc rfl (fc rfl (fc rfl (fc rfl (fc rfl (fc rfl (fc rfl fn))))))) (ihlp121_12695 v12798 I12791 R12797 hrR12797 hTR12797 hSR12797 (Or.inl ⟨hQR12797, hOR12797⟩) hI12791 fr12795 w12790 e12793 v12786 e12794 (by omega) (by omega) (by omega) (by omega) (by omega) (fun q hq he => by have e := adx_inj hy hq (by decide) (Option.some.inj (he.symm.trans hOR12797)); subst e; exact WB_V VI12791 (by omega) (by omega)) (Or.inr ⟨_, by rw [show da.toInt = v12753.toInt by omega]; exact ldI12754, FU_end (by have z := fuI12784; rw [show i12691.toInt = (0 : Int) by omega] at z; exact z) PZ_I12670_12671 (by omega) (by omega) (by omega)⟩) (by omega))
          obtain ⟨w12799, ew12799⟩ : ∃ w : Int32, I12685 (ad g 43) 1 = w := ⟨_, rfl⟩
          have bw12799 := BT_get hI12685.1 43 1 2 (0) (0) (47) (by decide) 1 (by decide) (by decide)
          rw [ew12799] at bw12799
          exact WP_sub (fc rfl (fc rfl (fc rfl (fc rfl (fc rfl (fc rfl (fc rfl fn))))))) (lp121_12695 _ v12690 I12685 RI12670 hrI12670 hTI12670 hSI12670 (Or.inl ⟨hn102, hl102⟩) hI12685 fr12688 w12799 ew12799 v12684 e12687 (by omega) (by omega) (by omega) (by omega) (by omega) (fun q hq he => by have e := adx_inj hy hq (by decide) (Option.some.inj (he.symm.trans hl102)); subst e; exact (by rw [show v12690.toInt = (nn.toInt - 1) by omega]; exact WI12685)) (Or.inl (by omega)) (Nat.lt_succ_self _))
        · have FN12799 : FWD g 27 I (J12671 (ad g 45)) so.toInt da.toInt (nn.toInt - 1) := by rw [show (nn.toInt - 1) = i12669.toInt by omega]; exact PF_I12670_12671
          refine WP_aload_n dX2_search_102 rfl ?_
          refine WP_getr dX2_search_103 fX2_29 rfl (lyx_is hy 43 2 rfl) hl102 ?_
          refine WQ_iconst (0) (0) dX2_search_106 rfl rfl (fun v12801 hv12801 => ?_)
          refine WP_callS2u dX2_search_107 ⟨⟨⟨by decide, by decide⟩, zJ7_fill_53178⟩, lX2_64, tJ7_fill_53178⟩ (s_fill hy hrI12670 47 366 rfl rfl (by decide) v12801) (Nat.le_of_ble_eq_true rfl) ?_
          obtain ⟨I12802, eI12802⟩ : ∃ I9 : pI, I9 = fi I12670 (ad g 47) 366 v12801 := ⟨_, rfl⟩
          rw [← eI12802]
          have hI12802 : XI g n L I12802 := by rw [eI12802]; exact (xi_fill0 hy hI12670 47 366 v12801 (by decide) (by decide))
          have e12803 : I12802 (ad g 1) 1 = L := by rw [eI12802, fi_off (lyx_ne hy (by decide) (by decide) (by decide))]; exact e12674
          have fr12804 : fz 74 g [43, 44, 47, 48] I I12802 := by rw [eI12802]; exact fzx_fi hy fiI12670 (by decide) (by decide)
          have WI12802 : WB (J12671 (ad g 45)) (I12802 (ad g 47)) (nn.toInt - 1) (nn.toInt - 1) := WB_0 eI12802 hv12801
          clear eI12802
          refine WP_aload_n dX2_search_110 rfl ?_
          refine WQ_iconst (0) (0) dX2_search_111 rfl rfl (fun v12805 hv12805 => ?_)
          refine WQ_puti dX2_search_112 fX2_67 rfl rfl (lyx_is hy 43 2 rfl) (fun I12806 eI12806 => ?_)
          have hI12806 : XI g n L I12806 := by rw [eI12806]; exact (xi_f0 hy hI12802 (c := 43) (by decide) (Or.inl (by decide)) (by decide))
          have e12807 : I12806 (ad g 1) 1 = L := by rw [eI12806, pp_ne _ _ (Or.inl (lyx_ne hy (by decide) (by decide) (by decide)))]; exact e12803
          have e12808 : I12806 (ad g 43) 8 = v12805 := by rw [eI12806, pp_self]
          have fr12809 : fz 74 g [43, 44, 47, 48] I I12806 := by rw [eI12806]; exact fzx_pp hy fr12804 (by decide) (by decide)
          have WI12806 : WB (J12671 (ad g 45)) (I12806 (ad g 47)) (nn.toInt - 1) (nn.toInt - 1) := by rw [eI12806, pp_off _ _ (lyx_ne hy (by decide) (by decide) (by decide))]; exact WI12802
          clear eI12806
          refine WP_iload dX2_search_115 rfl ?_
          refine WQ_iconst (1) (1) dX2_search_117 rfl rfl (fun v12810 hv12810 => ?_)
          refine WQ_isub dX2_search_118 (by omega) (by omega) (fun v12811 hv12811 => ?_)
          refine WP_istore (ls' := [(0, _), (1, _), (2, _), (3, _), (4, _), (5, _), (6, _)]) dX2_search_119 (by decide) rfl ?_
          have lp121_12816 : ∀ (mz : Nat) (i12812 : Int32) (I12813 : pI) (RI12813 : pR), RfX g RI12813 → RI12813 (ad g 5) 0 = some (ad g 27) → RI12813 (ad g 0) 10 = R (ad g 0) 10 → NL g RI12813 → XI g n L I12813 → fz 74 g [43, 44, 47, 48] I I12813 → ∀ (w12815 : Int32), I12813 (ad g 43) 1 = w12815 → ∀ (w12816 : Int32), I12813 (ad g 43) 8 = w12816 → -1 ≤ i12812.toInt → i12812.toInt ≤ 27 → i12812.toInt ≤ nn.toInt - 1 → 0 ≤ w12816.toInt → w12816.toInt ≤ 594 * (nn.toInt - 1 - i12812.toInt) → (∀ q : Nat, q < 74 → RI12813 (ad g 43) 7 = some (ad g q) → WB (J12671 (ad g 45)) (I12813 (ad g q)) (nn.toInt - 1) i12812.toInt) → (0 ≤ i12812.toInt ∨ ∃ T : Nat → Int32, LD g 27 I so.toInt da.toInt T ∧ AOKd T co.toInt st.toInt w12815.toInt) → (i12812.toInt + 1).toNat < mz → WP g mX2_search 121 [(0, .ref (ad g 43)), (1, .int so), (2, .int da), (3, .int co), (4, .int st), (5, .int nn), (6, .int i12812)] [] I12813 J12671 RI12813 (fun r I' J' R' => (XI g n L I' ∧ (RfX g R' ∧ (R' (ad g 5) 0 = R (ad g 5) 0 ∧ R' (ad g 0) 10 = R (ad g 0) 10) ∧ NL g R') ∧ fz 74 g [43, 44, 47, 48] I I' ∧ fz 74 g [45, 46] J J') ∧ ∃ v : Int32, r = some (.int v) ∧ 0 ≤ v.toInt ∧ v.toInt ≤ 47 ∧ (∃ T : Nat → Int32, LD g 27 I so.toInt da.toInt T ∧ AOKd T co.toInt st.toInt v.toInt)) := by
            intro mz
            induction mz with
            | zero =>
              intro i12812 I12813 RI12813 hrI12813 hTI12813 hSI12813 hPI12813 hI12813 fiI12813 w12815 ew12815 w12816 ew12816 ai12812 bi12812 j0_I12813_12813 j1_I12813_12813 j2_I12813_12813 PW_I12813_12813 PQ_I12813_12813 hmlp121_12816
              exact absurd hmlp121_12816 (Nat.not_lt_zero _)
            | succ mz ihlp121_12816 =>
              intro i12812 I12813 RI12813 hrI12813 hTI12813 hSI12813 hPI12813 hI12813 fiI12813 w12815 ew12815 w12816 ew12816 ai12812 bi12812 j0_I12813_12813 j1_I12813_12813 j2_I12813_12813 PW_I12813_12813 PQ_I12813_12813 hmlp121_12816
              have bw12815 := BT_get hI12813.1 43 1 2 (0) (0) (47) (by decide) 1 (by decide) (by decide)
              rw [ew12815] at bw12815
              have e12818 : I12813 (ad g 1) 1 = L := hI12813.2
              have b12819 := BT_get hI12813.1 1 1 2 (0) (0) (900) (by decide) 1 (by decide) (by decide)
              rw [e12818] at b12819
              rcases hPI12813 with ⟨hn121, hl121⟩ | ⟨hn121, hl121⟩
              · have W12819 := PW_I12813_12813 48 (by decide) hl121
                refine WP_iload dX2_search_121 rfl ?_
                refine WQ_if_lt 215 dX2_search_123 rfl (fun c12820 => ?_) (fun c12820 => ?_)
                · refine WP_aload_n dX2_search_215 rfl ?_
                  refine WQ_getim dX2_search_216 fX2_75 rfl (lyx_is hy 43 2 rfl) ew12815 ?_
                  exact WP_iret dX2_search_219 rfl ⟨⟨hI12813, ⟨hrI12813, ⟨hTI12813.trans hT.symm, hSI12813⟩, (Or.inl ⟨hn121, hl121⟩)⟩, fiI12813, fjJ12671⟩, _, rfl, by omega, by omega, (PQ_I12813_12813.resolve_left (by omega))⟩
                · refine WP_iload_n dX2_search_126 rfl ?_
                  refine WP_iload dX2_search_127 rfl ?_
                  refine WQ_iadd dX2_search_129 (by omega) (by omega) (fun v12822 hv12822 => ?_)
                  refine WQ_bipush (7) (7) dX2_search_130 rfl rfl (fun v12823 hv12823 => ?_)
                  refine WQ_iremk (7) dX2_search_132 hv12823 (by decide) (by omega) (fun v12824 hv12824 => ?_)
                  refine WP_istore (ls' := [(0, _), (1, _), (2, _), (3, _), (4, _), (5, _), (6, _), (7, _)]) dX2_search_133 (by decide) rfl ?_
                  refine WP_aload_n dX2_search_135 rfl ?_
                  refine WP_getr dX2_search_136 fX2_12 rfl (lyx_is hy 43 2 rfl) (rfx hrI12813 43 3 44 (by decide)) ?_
                  refine WP_aload_n dX2_search_139 rfl ?_
                  refine WP_getr dX2_search_140 fX2_32 rfl (lyx_is hy 43 2 rfl) (rfx hrI12813 43 2 5 (by decide)) ?_
                  refine WP_iload_n dX2_search_143 rfl ?_
                  refine WP_iload dX2_search_144 rfl ?_
                  refine WP_callV3 (k := 6) dX2_search_146 ⟨⟨⟨by decide, by decide⟩, zX6_load⟩, lX2_42, by decide, rfl, vX6_load.1, vX6_load.2⟩ (lyx_is hy 44 6 rfl) (sx_loadx_44_27 hy hrI12813 hTI12813 hI12813 so v12824 (by omega) (by omega) (by omega) (by omega)) (Nat.le_of_ble_eq_true rfl) ?_
                  intro r I12825 J12826 Ra hq
                  obtain ⟨⟨hI12825, ec, fiI12825, ejI12825, pI12825⟩, rfl⟩ := hq
                  rw [ec]
                  clear ec Ra
                  have fr12827 : fz 74 g [43, 44, 47, 48] I I12825 := fz_tr fiI12813 (fz_mono fiI12825 (by decide))
                  rw [ejI12825]
                  clear ejI12825 J12826
                  have ldI12825 := LD_fr pI12825 (fz_at fiI12813 27 (by decide) (by decide)) (fz_at fiI12813 32 (by decide) (by decide)) (fz_at fiI12813 34 (by decide) (by decide)) (fz_at fiI12813 35 (by decide) (by decide)) (fz_at fiI12813 36 (by decide) (by decide)) (fz_at fiI12813 22 (by decide) (by decide))
                  have WI12825 := W12819
                  rw [← fz_at fiI12825 48 (by decide) (by decide)] at WI12825
                  have e12828 : I12825 (ad g 43) 1 = w12815 := by rw [fz_at fiI12825 43 (by decide) (by decide)]; exact ew12815
                  have e12829 : I12825 (ad g 43) 8 = w12816 := by rw [fz_at fiI12825 43 (by decide) (by decide)]; exact ew12816
                  have e12830 : I12825 (ad g 1) 1 = L := hI12825.2
                  have b12831 := BT_get hI12825.1 1 1 2 (0) (0) (900) (by decide) 1 (by decide) (by decide)
                  rw [e12830] at b12831
                  refine WP_aload_n dX2_search_149 rfl ?_
                  refine WP_aload_n dX2_search_150 rfl ?_
                  refine WP_iload dX2_search_151 rfl ?_
                  refine WQ_if_ne 160 dX2_search_153 rfl (fun c12831 => ?_) (fun c12831 => ?_)
                  · refine WP_aload_n dX2_search_160 rfl ?_
                    refine WP_getr dX2_search_161 fX2_32 rfl (lyx_is hy 43 2 rfl) (rfx hrI12813 43 2 5 (by decide)) ?_
                    refine WP_getr dX2_search_164 fX2_46 rfl (lyx_is hy 5 0 rfl) hTI12813 ?_
                    refine WP_getr dX2_search_167 fX2_52 rfl (lyx_is hy 27 7 rfl) (rfx hrI12813 27 10 33 (by decide)) ?_
                    refine WP_iload_n dX2_search_170 rfl ?_
                    refine WQ_bipush (7) (7) dX2_search_171 rfl rfl (fun v12833 hv12833 => ?_)
                    refine WQ_imulk (7) dX2_search_173 hv12833 (by omega) (by omega) (fun v12834 hv12834 => ?_)
                    refine WP_iload dX2_search_174 rfl ?_
                    refine WQ_iadd dX2_search_176 (by omega) (by omega) (fun v12835 hv12835 => ?_)
                    refine WQ_iald dX2_search_177 (lyx_is hy 33 13 rfl) (lyx_n hy 33 28 rfl) (by omega) (by omega) (fun q hq => BT_get hI12825.1 33 0 28 (0) (0) (20) (by decide) q (Nat.zero_le _) hq) (fun v12836 av12836 bv12836 ev12836 => ?_)
                    refine WP_iload_n dX2_search_178 rfl ?_
                    refine WP_iload dX2_search_179 rfl ?_
                    refine WP_iload dX2_search_181 rfl ?_
                    refine WP_callV4 (k := 2) dX2_search_183 ⟨⟨⟨by decide, by decide⟩, zX2_weighDay⟩, lX2_71, by decide, rfl, vX2_weighDay.1, vX2_weighDay.2⟩ (lyx_is hy 43 2 rfl) (sx_weighDayx_48_27 hy hrI12813 hTI12813 hI12825 v12836 so v12824 i12812 (by omega) (by omega) (by omega) (by omega) (by omega) (by omega) (by omega) (by omega) (K := 594 * ((nn.toInt - 1) - i12812.toInt)) (by omega) hl121 hn121 (by rw [fz_at fiI12825 43 (by decide) (by decide), ew12816]; omega) (by rw [fz_at fr12827 24 (by decide) (by decide), fz_at fr12827 25 (by decide) (by decide), fz_at fr12827 26 (by decide) (by decide)]; exact WD_of WI12825 FN12799 ldI12825 (by unfold EA; rw [if_neg (by omega), show I (ad g (27 + 6)) = I12825 (ad g 33) from (fz_at fr12827 33 (by decide) (by decide)).symm, ← cl (x := v12835) (n := (7 * so.toInt + v12824.toInt).toNat) (by omega), ev12836]) (by omega) (by omega) (by omega) (ldx_p hI (by decide) _ _ _ (by omega) (by omega) ldI12825 (by omega) (by omega)) (sbx_b hI) (cbx_b hI (by omega) (by omega)))) (Nat.le_of_ble_eq_true rfl) ?_
                    intro r I12837 J12838 Ra hq
                    obtain ⟨⟨hI12837, ec, fiI12837, ejI12837, pI12837⟩, v12839, rfl, av12839, bv12839, cv12839⟩ := hq
                    show WP _ _ _ _ (.int _ :: _) _ _ _ _
                    rw [ec]
                    clear ec Ra
                    have fr12840 : fz 74 g [43, 44, 47, 48] I I12837 := fz_tr fr12827 (fz_mono fiI12837 (by decide))
                    rw [ejI12837]
                    clear ejI12837 J12838
                    have e12841 : I12837 (ad g 33) v12835.toNatClampNeg = v12836 := by rw [fz_at fiI12837 33 (by decide) (by decide)]; exact ev12836
                    have e12842 : I12837 (ad g 1) 1 = L := hI12837.2
                    have b12843 := BT_get hI12837.1 1 1 2 (0) (0) (900) (by decide) 1 (by decide) (by decide)
                    rw [e12842] at b12843
                    obtain ⟨w12844, ew12844⟩ : ∃ w : Int32, I12837 (ad g 43) 1 = w := ⟨_, rfl⟩
                    have bw12844 := BT_get hI12837.1 43 1 2 (0) (0) (47) (by decide) 1 (by decide) (by decide)
                    rw [ew12844] at bw12844
                    have vsI12837 := pI12837.1
                    have fuI12837 := pI12837.2
                    rw [ew12844] at fuI12837
                    refine WQ_puti dX2_search_186 fX2_67 rfl rfl (lyx_is hy 43 2 rfl) (fun I12845 eI12845 => ?_)
                    have hI12845 : XI g n L I12845 := by rw [eI12845]; exact (xi_f0 hy hI12837 (c := 43) (by decide) (Or.inl (by decide)) (by decide))
                    have e12846 : I12845 (ad g 33) v12835.toNatClampNeg = v12836 := by rw [eI12845, pp_ne _ _ (Or.inl (lyx_ne hy (by decide) (by decide) (by decide)))]; exact e12841
                    have e12847 : I12845 (ad g 1) 1 = L := by rw [eI12845, pp_ne _ _ (Or.inl (lyx_ne hy (by decide) (by decide) (by decide)))]; exact e12842
                    have e12848 : I12845 (ad g 43) 1 = w12844 := by rw [eI12845, pp_ne _ _ (Or.inr (by decide))]; exact ew12844
                    have e12849 : I12845 (ad g 43) 8 = v12839 := by rw [eI12845, pp_self]
                    have fr12850 : fz 74 g [43, 44, 47, 48] I I12845 := by rw [eI12845]; exact fzx_pp hy fr12840 (by decide) (by decide)
                    have VI12845 := vsI12837
                    rw [show I12837 (ad g 47) = I12845 (ad g 47) by rw [eI12845, pp_off _ _ (lyx_ne hy (by decide) (by decide) (by decide))]] at VI12845
                    clear eI12845
                    refine WP_aload_n dX2_search_189 rfl ?_
                    refine WP_getr dX2_search_190 fX2_29 rfl (lyx_is hy 43 2 rfl) hl121 ?_
                    refine WP_astore (ls' := [(0, _), (1, _), (2, _), (3, _), (4, _), (5, _), (6, _), (7, _), (8, _)]) dX2_search_193 (by decide) rfl ?_
                    refine WP_aload_n dX2_search_195 rfl ?_
                    refine WP_aload_n dX2_search_196 rfl ?_
                    refine WP_getr dX2_search_197 fX2_25 rfl (lyx_is hy 43 2 rfl) hn121 ?_
                    refine WP_putr dX2_search_200 fX2_29 rfl rfl rfl rfl (lyx_is hy 43 2 rfl) ?_
                    obtain ⟨R12851, eR12851⟩ : ∃ R9 : pR, R9 = pp RI12813 (ad g 43) 7 (some (ad g 47)) := ⟨_, rfl⟩
                    rw [← eR12851]
                    have hrR12851 : RfX g R12851 := by rw [eR12851]; exact rfx_pp hy hrI12813 (by decide)
                    have hSR12851 : R12851 (ad g 0) 10 = R (ad g 0) 10 := by rw [eR12851, pp_ne _ _ (Or.inl (lyx_ne hy (by decide) (by decide) (by decide)))]; exact hSI12813
                    have hTR12851 : R12851 (ad g 5) 0 = some (ad g 27) := by rw [eR12851, pp_ne _ _ (Or.inl (lyx_ne hy (by decide) (by decide) (by decide)))]; exact hTI12813
                    have hOR12851 : R12851 (ad g 43) 6 = some (ad g 47) := by rw [eR12851, pp_ne _ _ (Or.inr (by decide))]; exact hn121
                    have hQR12851 : R12851 (ad g 43) 7 = some (ad g 47) := by rw [eR12851, pp_self]
                    clear eR12851
                    refine WP_aload_n dX2_search_203 rfl ?_
                    refine WP_aload dX2_search_204 rfl ?_
                    refine WP_putr dX2_search_206 fX2_25 rfl rfl rfl rfl (lyx_is hy 43 2 rfl) ?_
                    obtain ⟨R12852, eR12852⟩ : ∃ R9 : pR, R9 = pp R12851 (ad g 43) 6 (some (ad g 48)) := ⟨_, rfl⟩
                    rw [← eR12852]
                    have hrR12852 : RfX g R12852 := by rw [eR12852]; exact rfx_pp hy hrR12851 (by decide)
                    have hSR12852 : R12852 (ad g 0) 10 = R (ad g 0) 10 := by rw [eR12852, pp_ne _ _ (Or.inl (lyx_ne hy (by decide) (by decide) (by decide)))]; exact hSR12851
                    have hTR12852 : R12852 (ad g 5) 0 = some (ad g 27) := by rw [eR12852, pp_ne _ _ (Or.inl (lyx_ne hy (by decide) (by decide) (by decide)))]; exact hTR12851
                    have hOR12852 : R12852 (ad g 43) 7 = some (ad g 47) := by rw [eR12852, pp_ne _ _ (Or.inr (by decide))]; exact hQR12851
                    have hQR12852 : R12852 (ad g 43) 6 = some (ad g 48) := by rw [eR12852, pp_self]
                    clear eR12852
                    refine WP_iinc (ls' := [(0, _), (1, _), (2, _), (3, _), (4, _), (5, _), (6, _), (7, _), (8, _)]) dX2_search_209 rfl (by decide) rfl ?_
                    have hv12853 : (i12812 + Int32.ofInt (-1)).toInt = i12812.toInt + (-1) := ia_n rfl (by omega) (by omega)
                    generalize i12812 + Int32.ofInt (-1) = v12853 at hv12853 ⊢
                    refine WP_goto 121 dX2_search_212 rfl ?_
                    exact WP_sub (fc rfl (fc rfl (fc rfl (fc rfl (fc rfl (fc rfl (fc rfl fn))))))) (ihlp121_12816 v12853 I12845 R12852 hrR12852 hTR12852 hSR12852 (Or.inr ⟨hQR12852, hOR12852⟩) hI12845 fr12850 w12844 e12848 v12839 e12849 (by omega) (by omega) (by omega) (by omega) (by omega) (fun q hq he => by have e := adx_inj hy hq (by decide) (Option.some.inj (he.symm.trans hOR12852)); subst e; exact WB_V VI12845 (by omega) (by omega)) (Or.inl (by omega)) (by omega))
                  · refine WQ_iconst (0) (0) dX2_search_156 rfl rfl (fun v12854 hv12854 => ?_)
                    refine WP_goto 178 dX2_search_157 rfl ?_
                    refine WP_iload_n dX2_search_178 rfl ?_
                    refine WP_iload dX2_search_179 rfl ?_
                    refine WP_iload dX2_search_181 rfl ?_
                    refine WP_callV4 (k := 2) dX2_search_183 ⟨⟨⟨by decide, by decide⟩, zX2_weighDay⟩, lX2_71, by decide, rfl, vX2_weighDay.1, vX2_weighDay.2⟩ (lyx_is hy 43 2 rfl) (sx_weighDayx_48_27 hy hrI12813 hTI12813 hI12825 v12854 so v12824 i12812 (by omega) (by omega) (by omega) (by omega) (by omega) (by omega) (by omega) (by omega) (K := 594 * ((nn.toInt - 1) - i12812.toInt)) (by omega) hl121 hn121 (by rw [fz_at fiI12825 43 (by decide) (by decide), ew12816]; omega) (by rw [fz_at fr12827 24 (by decide) (by decide), fz_at fr12827 25 (by decide) (by decide), fz_at fr12827 26 (by decide) (by decide)]; exact WD_of WI12825 FN12799 ldI12825 (by unfold EA; rw [if_pos (by omega)]; omega) (by omega) (by omega) (by omega) (ldx_p hI (by decide) _ _ _ (by omega) (by omega) ldI12825 (by omega) (by omega)) (sbx_b hI) (cbx_b hI (by omega) (by omega)))) (Nat.le_of_ble_eq_true rfl) ?_
                    intro r I12855 J12856 Ra hq
                    obtain ⟨⟨hI12855, ec, fiI12855, ejI12855, pI12855⟩, v12857, rfl, av12857, bv12857, cv12857⟩ := hq
                    show WP _ _ _ _ (.int _ :: _) _ _ _ _
                    rw [ec]
                    clear ec Ra
                    have fr12858 : fz 74 g [43, 44, 47, 48] I I12855 := fz_tr fr12827 (fz_mono fiI12855 (by decide))
                    rw [ejI12855]
                    clear ejI12855 J12856
                    have e12859 : I12855 (ad g 1) 1 = L := hI12855.2
                    have b12860 := BT_get hI12855.1 1 1 2 (0) (0) (900) (by decide) 1 (by decide) (by decide)
                    rw [e12859] at b12860
                    obtain ⟨w12861, ew12861⟩ : ∃ w : Int32, I12855 (ad g 43) 1 = w := ⟨_, rfl⟩
                    have bw12861 := BT_get hI12855.1 43 1 2 (0) (0) (47) (by decide) 1 (by decide) (by decide)
                    rw [ew12861] at bw12861
                    have vsI12855 := pI12855.1
                    have fuI12855 := pI12855.2
                    rw [ew12861] at fuI12855
                    refine WQ_puti dX2_search_186 fX2_67 rfl rfl (lyx_is hy 43 2 rfl) (fun I12862 eI12862 => ?_)
                    have hI12862 : XI g n L I12862 := by rw [eI12862]; exact (xi_f0 hy hI12855 (c := 43) (by decide) (Or.inl (by decide)) (by decide))
                    have e12863 : I12862 (ad g 1) 1 = L := by rw [eI12862, pp_ne _ _ (Or.inl (lyx_ne hy (by decide) (by decide) (by decide)))]; exact e12859
                    have e12864 : I12862 (ad g 43) 1 = w12861 := by rw [eI12862, pp_ne _ _ (Or.inr (by decide))]; exact ew12861
                    have e12865 : I12862 (ad g 43) 8 = v12857 := by rw [eI12862, pp_self]
                    have fr12866 : fz 74 g [43, 44, 47, 48] I I12862 := by rw [eI12862]; exact fzx_pp hy fr12858 (by decide) (by decide)
                    have VI12862 := vsI12855
                    rw [show I12855 (ad g 47) = I12862 (ad g 47) by rw [eI12862, pp_off _ _ (lyx_ne hy (by decide) (by decide) (by decide))]] at VI12862
                    clear eI12862
                    refine WP_aload_n dX2_search_189 rfl ?_
                    refine WP_getr dX2_search_190 fX2_29 rfl (lyx_is hy 43 2 rfl) hl121 ?_
                    refine WP_astore (ls' := [(0, _), (1, _), (2, _), (3, _), (4, _), (5, _), (6, _), (7, _), (8, _)]) dX2_search_193 (by decide) rfl ?_
                    refine WP_aload_n dX2_search_195 rfl ?_
                    refine WP_aload_n dX2_search_196 rfl ?_
                    refine WP_getr dX2_search_197 fX2_25 rfl (lyx_is hy 43 2 rfl) hn121 ?_
                    refine WP_putr dX2_search_200 fX2_29 rfl rfl rfl rfl (lyx_is hy 43 2 rfl) ?_
                    obtain ⟨R12867, eR12867⟩ : ∃ R9 : pR, R9 = pp RI12813 (ad g 43) 7 (some (ad g 47)) := ⟨_, rfl⟩
                    rw [← eR12867]
                    have hrR12867 : RfX g R12867 := by rw [eR12867]; exact rfx_pp hy hrI12813 (by decide)
                    have hSR12867 : R12867 (ad g 0) 10 = R (ad g 0) 10 := by rw [eR12867, pp_ne _ _ (Or.inl (lyx_ne hy (by decide) (by decide) (by decide)))]; exact hSI12813
                    have hTR12867 : R12867 (ad g 5) 0 = some (ad g 27) := by rw [eR12867, pp_ne _ _ (Or.inl (lyx_ne hy (by decide) (by decide) (by decide)))]; exact hTI12813
                    have hOR12867 : R12867 (ad g 43) 6 = some (ad g 47) := by rw [eR12867, pp_ne _ _ (Or.inr (by decide))]; exact hn121
                    have hQR12867 : R12867 (ad g 43) 7 = some (ad g 47) := by rw [eR12867, pp_self]
                    clear eR12867
                    refine WP_aload_n dX2_search_203 rfl ?_
                    refine WP_aload dX2_search_204 rfl ?_
                    refine WP_putr dX2_search_206 fX2_25 rfl rfl rfl rfl (lyx_is hy 43 2 rfl) ?_
                    obtain ⟨R12868, eR12868⟩ : ∃ R9 : pR, R9 = pp R12867 (ad g 43) 6 (some (ad g 48)) := ⟨_, rfl⟩
                    rw [← eR12868]
                    have hrR12868 : RfX g R12868 := by rw [eR12868]; exact rfx_pp hy hrR12867 (by decide)
                    have hSR12868 : R12868 (ad g 0) 10 = R (ad g 0) 10 := by rw [eR12868, pp_ne _ _ (Or.inl (lyx_ne hy (by decide) (by decide) (by decide)))]; exact hSR12867
                    have hTR12868 : R12868 (ad g 5) 0 = some (ad g 27) := by rw [eR12868, pp_ne _ _ (Or.inl (lyx_ne hy (by decide) (by decide) (by decide)))]; exact hTR12867
                    have hOR12868 : R12868 (ad g 43) 7 = some (ad g 47) := by rw [eR12868, pp_ne _ _ (Or.inr (by decide))]; exact hQR12867
                    have hQR12868 : R12868 (ad g 43) 6 = some (ad g 48) := by rw [eR12868, pp_self]
                    clear eR12868
                    refine WP_iinc (ls' := [(0, _), (1, _), (2, _), (3, _), (4, _), (5, _), (6, _), (7, _), (8, _)]) dX2_search_209 rfl (by decide) rfl ?_
                    have hv12869 : (i12812 + Int32.ofInt (-1)).toInt = i12812.toInt + (-1) := ia_n rfl (by omega) (by omega)
                    generalize i12812 + Int32.ofInt (-1) = v12869 at hv12869 ⊢
                    refine WP_goto 121 dX2_search_212 rfl ?_
                    exact WP_sub (fc rfl (fc rfl (fc rfl (fc rfl (fc rfl (fc rfl (fc rfl fn))))))) (ihlp121_12816 v12869 I12862 R12868 hrR12868 hTR12868 hSR12868 (Or.inr ⟨hQR12868, hOR12868⟩) hI12862 fr12866 w12861 e12864 v12857 e12865 (by omega) (by omega) (by omega) (by omega) (by omega) (fun q hq he => by have e := adx_inj hy hq (by decide) (Option.some.inj (he.symm.trans hOR12868)); subst e; exact WB_V VI12862 (by omega) (by omega)) (Or.inr ⟨_, by rw [show da.toInt = v12824.toInt by omega]; exact ldI12825, FU_end (by have z := fuI12855; rw [show i12812.toInt = (0 : Int) by omega] at z; exact z) PZ_I12670_12671 (by omega) (by omega) (by omega)⟩) (by omega))
              · have W12869 := PW_I12813_12813 47 (by decide) hl121
                refine WP_iload dX2_search_121 rfl ?_
                refine WQ_if_lt 215 dX2_search_123 rfl (fun c12870 => ?_) (fun c12870 => ?_)
                · refine WP_aload_n dX2_search_215 rfl ?_
                  refine WQ_getim dX2_search_216 fX2_75 rfl (lyx_is hy 43 2 rfl) ew12815 ?_
                  exact WP_iret dX2_search_219 rfl ⟨⟨hI12813, ⟨hrI12813, ⟨hTI12813.trans hT.symm, hSI12813⟩, (Or.inr ⟨hn121, hl121⟩)⟩, fiI12813, fjJ12671⟩, _, rfl, by omega, by omega, (PQ_I12813_12813.resolve_left (by omega))⟩
                · refine WP_iload_n dX2_search_126 rfl ?_
                  refine WP_iload dX2_search_127 rfl ?_
                  refine WQ_iadd dX2_search_129 (by omega) (by omega) (fun v12872 hv12872 => ?_)
                  refine WQ_bipush (7) (7) dX2_search_130 rfl rfl (fun v12873 hv12873 => ?_)
                  refine WQ_iremk (7) dX2_search_132 hv12873 (by decide) (by omega) (fun v12874 hv12874 => ?_)
                  refine WP_istore (ls' := [(0, _), (1, _), (2, _), (3, _), (4, _), (5, _), (6, _), (7, _)]) dX2_search_133 (by decide) rfl ?_
                  refine WP_aload_n dX2_search_135 rfl ?_
                  refine WP_getr dX2_search_136 fX2_12 rfl (lyx_is hy 43 2 rfl) (rfx hrI12813 43 3 44 (by decide)) ?_
                  refine WP_aload_n dX2_search_139 rfl ?_
                  refine WP_getr dX2_search_140 fX2_32 rfl (lyx_is hy 43 2 rfl) (rfx hrI12813 43 2 5 (by decide)) ?_
                  refine WP_iload_n dX2_search_143 rfl ?_
                  refine WP_iload dX2_search_144 rfl ?_
                  refine WP_callV3 (k := 6) dX2_search_146 ⟨⟨⟨by decide, by decide⟩, zX6_load⟩, lX2_42, by decide, rfl, vX6_load.1, vX6_load.2⟩ (lyx_is hy 44 6 rfl) (sx_loadx_44_27 hy hrI12813 hTI12813 hI12813 so v12874 (by omega) (by omega) (by omega) (by omega)) (Nat.le_of_ble_eq_true rfl) ?_
                  intro r I12875 J12876 Ra hq
                  obtain ⟨⟨hI12875, ec, fiI12875, ejI12875, pI12875⟩, rfl⟩ := hq
                  rw [ec]
                  clear ec Ra
                  have fr12877 : fz 74 g [43, 44, 47, 48] I I12875 := fz_tr fiI12813 (fz_mono fiI12875 (by decide))
                  rw [ejI12875]
                  clear ejI12875 J12876
                  have ldI12875 := LD_fr pI12875 (fz_at fiI12813 27 (by decide) (by decide)) (fz_at fiI12813 32 (by decide) (by decide)) (fz_at fiI12813 34 (by decide) (by decide)) (fz_at fiI12813 35 (by decide) (by decide)) (fz_at fiI12813 36 (by decide) (by decide)) (fz_at fiI12813 22 (by decide) (by decide))
                  have WI12875 := W12869
                  rw [← fz_at fiI12875 47 (by decide) (by decide)] at WI12875
                  have e12878 : I12875 (ad g 43) 1 = w12815 := by rw [fz_at fiI12875 43 (by decide) (by decide)]; exact ew12815
                  have e12879 : I12875 (ad g 43) 8 = w12816 := by rw [fz_at fiI12875 43 (by decide) (by decide)]; exact ew12816
                  have e12880 : I12875 (ad g 1) 1 = L := hI12875.2
                  have b12881 := BT_get hI12875.1 1 1 2 (0) (0) (900) (by decide) 1 (by decide) (by decide)
                  rw [e12880] at b12881
                  refine WP_aload_n dX2_search_149 rfl ?_
                  refine WP_aload_n dX2_search_150 rfl ?_
                  refine WP_iload dX2_search_151 rfl ?_
                  refine WQ_if_ne 160 dX2_search_153 rfl (fun c12881 => ?_) (fun c12881 => ?_)
                  · refine WP_aload_n dX2_search_160 rfl ?_
                    refine WP_getr dX2_search_161 fX2_32 rfl (lyx_is hy 43 2 rfl) (rfx hrI12813 43 2 5 (by decide)) ?_
                    refine WP_getr dX2_search_164 fX2_46 rfl (lyx_is hy 5 0 rfl) hTI12813 ?_
                    refine WP_getr dX2_search_167 fX2_52 rfl (lyx_is hy 27 7 rfl) (rfx hrI12813 27 10 33 (by decide)) ?_
                    refine WP_iload_n dX2_search_170 rfl ?_
                    refine WQ_bipush (7) (7) dX2_search_171 rfl rfl (fun v12883 hv12883 => ?_)
                    refine WQ_imulk (7) dX2_search_173 hv12883 (by omega) (by omega) (fun v12884 hv12884 => ?_)
                    refine WP_iload dX2_search_174 rfl ?_
                    refine WQ_iadd dX2_search_176 (by omega) (by omega) (fun v12885 hv12885 => ?_)
                    refine WQ_iald dX2_search_177 (lyx_is hy 33 13 rfl) (lyx_n hy 33 28 rfl) (by omega) (by omega) (fun q hq => BT_get hI12875.1 33 0 28 (0) (0) (20) (by decide) q (Nat.zero_le _) hq) (fun v12886 av12886 bv12886 ev12886 => ?_)
                    refine WP_iload_n dX2_search_178 rfl ?_
                    refine WP_iload dX2_search_179 rfl ?_
                    refine WP_iload dX2_search_181 rfl ?_
                    refine WP_callV4 (k := 2) dX2_search_183 ⟨⟨⟨by decide, by decide⟩, zX2_weighDay⟩, lX2_71, by decide, rfl, vX2_weighDay.1, vX2_weighDay.2⟩ (lyx_is hy 43 2 rfl) (sx_weighDayx_47_27 hy hrI12813 hTI12813 hI12875 v12886 so v12874 i12812 (by omega) (by omega) (by omega) (by omega) (by omega) (by omega) (by omega) (by omega) (K := 594 * ((nn.toInt - 1) - i12812.toInt)) (by omega) hl121 hn121 (by rw [fz_at fiI12875 43 (by decide) (by decide), ew12816]; omega) (by rw [fz_at fr12877 24 (by decide) (by decide), fz_at fr12877 25 (by decide) (by decide), fz_at fr12877 26 (by decide) (by decide)]; exact WD_of WI12875 FN12799 ldI12875 (by unfold EA; rw [if_neg (by omega), show I (ad g (27 + 6)) = I12875 (ad g 33) from (fz_at fr12877 33 (by decide) (by decide)).symm, ← cl (x := v12885) (n := (7 * so.toInt + v12874.toInt).toNat) (by omega), ev12886]) (by omega) (by omega) (by omega) (ldx_p hI (by decide) _ _ _ (by omega) (by omega) ldI12875 (by omega) (by omega)) (sbx_b hI) (cbx_b hI (by omega) (by omega)))) (Nat.le_of_ble_eq_true rfl) ?_
                    intro r I12887 J12888 Ra hq
                    obtain ⟨⟨hI12887, ec, fiI12887, ejI12887, pI12887⟩, v12889, rfl, av12889, bv12889, cv12889⟩ := hq
                    show WP _ _ _ _ (.int _ :: _) _ _ _ _
                    rw [ec]
                    clear ec Ra
                    have fr12890 : fz 74 g [43, 44, 47, 48] I I12887 := fz_tr fr12877 (fz_mono fiI12887 (by decide))
                    rw [ejI12887]
                    clear ejI12887 J12888
                    have e12891 : I12887 (ad g 33) v12885.toNatClampNeg = v12886 := by rw [fz_at fiI12887 33 (by decide) (by decide)]; exact ev12886
                    have e12892 : I12887 (ad g 1) 1 = L := hI12887.2
                    have b12893 := BT_get hI12887.1 1 1 2 (0) (0) (900) (by decide) 1 (by decide) (by decide)
                    rw [e12892] at b12893
                    obtain ⟨w12894, ew12894⟩ : ∃ w : Int32, I12887 (ad g 43) 1 = w := ⟨_, rfl⟩
                    have bw12894 := BT_get hI12887.1 43 1 2 (0) (0) (47) (by decide) 1 (by decide) (by decide)
                    rw [ew12894] at bw12894
                    have vsI12887 := pI12887.1
                    have fuI12887 := pI12887.2
                    rw [ew12894] at fuI12887
                    refine WQ_puti dX2_search_186 fX2_67 rfl rfl (lyx_is hy 43 2 rfl) (fun I12895 eI12895 => ?_)
                    have hI12895 : XI g n L I12895 := by rw [eI12895]; exact (xi_f0 hy hI12887 (c := 43) (by decide) (Or.inl (by decide)) (by decide))
                    have e12896 : I12895 (ad g 33) v12885.toNatClampNeg = v12886 := by rw [eI12895, pp_ne _ _ (Or.inl (lyx_ne hy (by decide) (by decide) (by decide)))]; exact e12891
                    have e12897 : I12895 (ad g 1) 1 = L := by rw [eI12895, pp_ne _ _ (Or.inl (lyx_ne hy (by decide) (by decide) (by decide)))]; exact e12892
                    have e12898 : I12895 (ad g 43) 1 = w12894 := by rw [eI12895, pp_ne _ _ (Or.inr (by decide))]; exact ew12894
                    have e12899 : I12895 (ad g 43) 8 = v12889 := by rw [eI12895, pp_self]
                    have fr12900 : fz 74 g [43, 44, 47, 48] I I12895 := by rw [eI12895]; exact fzx_pp hy fr12890 (by decide) (by decide)
                    have VI12895 := vsI12887
                    rw [show I12887 (ad g 48) = I12895 (ad g 48) by rw [eI12895, pp_off _ _ (lyx_ne hy (by decide) (by decide) (by decide))]] at VI12895
                    clear eI12895
                    refine WP_aload_n dX2_search_189 rfl ?_
                    refine WP_getr dX2_search_190 fX2_29 rfl (lyx_is hy 43 2 rfl) hl121 ?_
                    refine WP_astore (ls' := [(0, _), (1, _), (2, _), (3, _), (4, _), (5, _), (6, _), (7, _), (8, _)]) dX2_search_193 (by decide) rfl ?_
                    refine WP_aload_n dX2_search_195 rfl ?_
                    refine WP_aload_n dX2_search_196 rfl ?_
                    refine WP_getr dX2_search_197 fX2_25 rfl (lyx_is hy 43 2 rfl) hn121 ?_
                    refine WP_putr dX2_search_200 fX2_29 rfl rfl rfl rfl (lyx_is hy 43 2 rfl) ?_
                    obtain ⟨R12901, eR12901⟩ : ∃ R9 : pR, R9 = pp RI12813 (ad g 43) 7 (some (ad g 48)) := ⟨_, rfl⟩
                    rw [← eR12901]
                    have hrR12901 : RfX g R12901 := by rw [eR12901]; exact rfx_pp hy hrI12813 (by decide)
                    have hSR12901 : R12901 (ad g 0) 10 = R (ad g 0) 10 := by rw [eR12901, pp_ne _ _ (Or.inl (lyx_ne hy (by decide) (by decide) (by decide)))]; exact hSI12813
                    have hTR12901 : R12901 (ad g 5) 0 = some (ad g 27) := by rw [eR12901, pp_ne _ _ (Or.inl (lyx_ne hy (by decide) (by decide) (by decide)))]; exact hTI12813
                    have hOR12901 : R12901 (ad g 43) 6 = some (ad g 48) := by rw [eR12901, pp_ne _ _ (Or.inr (by decide))]; exact hn121
                    have hQR12901 : R12901 (ad g 43) 7 = some (ad g 48) := by rw [eR12901, pp_self]
                    clear eR12901
                    refine WP_aload_n dX2_search_203 rfl ?_
                    refine WP_aload dX2_search_204 rfl ?_
                    refine WP_putr dX2_search_206 fX2_25 rfl rfl rfl rfl (lyx_is hy 43 2 rfl) ?_
                    obtain ⟨R12902, eR12902⟩ : ∃ R9 : pR, R9 = pp R12901 (ad g 43) 6 (some (ad g 47)) := ⟨_, rfl⟩
                    rw [← eR12902]
                    have hrR12902 : RfX g R12902 := by rw [eR12902]; exact rfx_pp hy hrR12901 (by decide)
                    have hSR12902 : R12902 (ad g 0) 10 = R (ad g 0) 10 := by rw [eR12902, pp_ne _ _ (Or.inl (lyx_ne hy (by decide) (by decide) (by decide)))]; exact hSR12901
                    have hTR12902 : R12902 (ad g 5) 0 = some (ad g 27) := by rw [eR12902, pp_ne _ _ (Or.inl (lyx_ne hy (by decide) (by decide) (by decide)))]; exact hTR12901
                    have hOR12902 : R12902 (ad g 43) 7 = some (ad g 48) := by rw [eR12902, pp_ne _ _ (Or.inr (by decide))]; exact hQR12901
                    have hQR12902 : R12902 (ad g 43) 6 = some (ad g 47) := by rw [eR12902, pp_self]
                    clear eR12902
                    refine WP_iinc (ls' := [(0, _), (1, _), (2, _), (3, _), (4, _), (5, _), (6, _), (7, _), (8, _)]) dX2_search_209 rfl (by decide) rfl ?_
                    have hv12903 : (i12812 + Int32.ofInt (-1)).toInt = i12812.toInt + (-1) := ia_n rfl (by omega) (by omega)
                    generalize i12812 + Int32.ofInt (-1) = v12903 at hv12903 ⊢
                    refine WP_goto 121 dX2_search_212 rfl ?_
                    exact WP_sub (fc rfl (fc rfl (fc rfl (fc rfl (fc rfl (fc rfl (fc rfl fn))))))) (ihlp121_12816 v12903 I12895 R12902 hrR12902 hTR12902 hSR12902 (Or.inl ⟨hQR12902, hOR12902⟩) hI12895 fr12900 w12894 e12898 v12889 e12899 (by omega) (by omega) (by omega) (by omega) (by omega) (fun q hq he => by have e := adx_inj hy hq (by decide) (Option.some.inj (he.symm.trans hOR12902)); subst e; exact WB_V VI12895 (by omega) (by omega)) (Or.inl (by omega)) (by omega))
                  · refine WQ_iconst (0) (0) dX2_search_156 rfl rfl (fun v12904 hv12904 => ?_)
                    refine WP_goto 178 dX2_search_157 rfl ?_
                    refine WP_iload_n dX2_search_178 rfl ?_
                    refine WP_iload dX2_search_179 rfl ?_
                    refine WP_iload dX2_search_181 rfl ?_
                    refine WP_callV4 (k := 2) dX2_search_183 ⟨⟨⟨by decide, by decide⟩, zX2_weighDay⟩, lX2_71, by decide, rfl, vX2_weighDay.1, vX2_weighDay.2⟩ (lyx_is hy 43 2 rfl) (sx_weighDayx_47_27 hy hrI12813 hTI12813 hI12875 v12904 so v12874 i12812 (by omega) (by omega) (by omega) (by omega) (by omega) (by omega) (by omega) (by omega) (K := 594 * ((nn.toInt - 1) - i12812.toInt)) (by omega) hl121 hn121 (by rw [fz_at fiI12875 43 (by decide) (by decide), ew12816]; omega) (by rw [fz_at fr12877 24 (by decide) (by decide), fz_at fr12877 25 (by decide) (by decide), fz_at fr12877 26 (by decide) (by decide)]; exact WD_of WI12875 FN12799 ldI12875 (by unfold EA; rw [if_pos (by omega)]; omega) (by omega) (by omega) (by omega) (ldx_p hI (by decide) _ _ _ (by omega) (by omega) ldI12875 (by omega) (by omega)) (sbx_b hI) (cbx_b hI (by omega) (by omega)))) (Nat.le_of_ble_eq_true rfl) ?_
                    intro r I12905 J12906 Ra hq
                    obtain ⟨⟨hI12905, ec, fiI12905, ejI12905, pI12905⟩, v12907, rfl, av12907, bv12907, cv12907⟩ := hq
                    show WP _ _ _ _ (.int _ :: _) _ _ _ _
                    rw [ec]
                    clear ec Ra
                    have fr12908 : fz 74 g [43, 44, 47, 48] I I12905 := fz_tr fr12877 (fz_mono fiI12905 (by decide))
                    rw [ejI12905]
                    clear ejI12905 J12906
                    have e12909 : I12905 (ad g 1) 1 = L := hI12905.2
                    have b12910 := BT_get hI12905.1 1 1 2 (0) (0) (900) (by decide) 1 (by decide) (by decide)
                    rw [e12909] at b12910
                    obtain ⟨w12911, ew12911⟩ : ∃ w : Int32, I12905 (ad g 43) 1 = w := ⟨_, rfl⟩
                    have bw12911 := BT_get hI12905.1 43 1 2 (0) (0) (47) (by decide) 1 (by decide) (by decide)
                    rw [ew12911] at bw12911
                    have vsI12905 := pI12905.1
                    have fuI12905 := pI12905.2
                    rw [ew12911] at fuI12905
                    refine WQ_puti dX2_search_186 fX2_67 rfl rfl (lyx_is hy 43 2 rfl) (fun I12912 eI12912 => ?_)
                    have hI12912 : XI g n L I12912 := by rw [eI12912]; exact (xi_f0 hy hI12905 (c := 43) (by decide) (Or.inl (by decide)) (by decide))
                    have e12913 : I12912 (ad g 1) 1 = L := by rw [eI12912, pp_ne _ _ (Or.inl (lyx_ne hy (by decide) (by decide) (by decide)))]; exact e12909
                    have e12914 : I12912 (ad g 43) 1 = w12911 := by rw [eI12912, pp_ne _ _ (Or.inr (by decide))]; exact ew12911
                    have e12915 : I12912 (ad g 43) 8 = v12907 := by rw [eI12912, pp_self]
                    have fr12916 : fz 74 g [43, 44, 47, 48] I I12912 := by rw [eI12912]; exact fzx_pp hy fr12908 (by decide) (by decide)
                    have VI12912 := vsI12905
                    rw [show I12905 (ad g 48) = I12912 (ad g 48) by rw [eI12912, pp_off _ _ (lyx_ne hy (by decide) (by decide) (by decide))]] at VI12912
                    clear eI12912
                    refine WP_aload_n dX2_search_189 rfl ?_
                    refine WP_getr dX2_search_190 fX2_29 rfl (lyx_is hy 43 2 rfl) hl121 ?_
                    refine WP_astore (ls' := [(0, _), (1, _), (2, _), (3, _), (4, _), (5, _), (6, _), (7, _), (8, _)]) dX2_search_193 (by decide) rfl ?_
                    refine WP_aload_n dX2_search_195 rfl ?_
                    refine WP_aload_n dX2_search_196 rfl ?_
                    refine WP_getr dX2_search_197 fX2_25 rfl (lyx_is hy 43 2 rfl) hn121 ?_
                    refine WP_putr dX2_search_200 fX2_29 rfl rfl rfl rfl (lyx_is hy 43 2 rfl) ?_
                    obtain ⟨R12917, eR12917⟩ : ∃ R9 : pR, R9 = pp RI12813 (ad g 43) 7 (some (ad g 48)) := ⟨_, rfl⟩
                    rw [← eR12917]
                    have hrR12917 : RfX g R12917 := by rw [eR12917]; exact rfx_pp hy hrI12813 (by decide)
                    have hSR12917 : R12917 (ad g 0) 10 = R (ad g 0) 10 := by rw [eR12917, pp_ne _ _ (Or.inl (lyx_ne hy (by decide) (by decide) (by decide)))]; exact hSI12813
                    have hTR12917 : R12917 (ad g 5) 0 = some (ad g 27) := by rw [eR12917, pp_ne _ _ (Or.inl (lyx_ne hy (by decide) (by decide) (by decide)))]; exact hTI12813
                    have hOR12917 : R12917 (ad g 43) 6 = some (ad g 48) := by rw [eR12917, pp_ne _ _ (Or.inr (by decide))]; exact hn121
                    have hQR12917 : R12917 (ad g 43) 7 = some (ad g 48) := by rw [eR12917, pp_self]
                    clear eR12917
                    refine WP_aload_n dX2_search_203 rfl ?_
                    refine WP_aload dX2_search_204 rfl ?_
                    refine WP_putr dX2_search_206 fX2_25 rfl rfl rfl rfl (lyx_is hy 43 2 rfl) ?_
                    obtain ⟨R12918, eR12918⟩ : ∃ R9 : pR, R9 = pp R12917 (ad g 43) 6 (some (ad g 47)) := ⟨_, rfl⟩
                    rw [← eR12918]
                    have hrR12918 : RfX g R12918 := by rw [eR12918]; exact rfx_pp hy hrR12917 (by decide)
                    have hSR12918 : R12918 (ad g 0) 10 = R (ad g 0) 10 := by rw [eR12918, pp_ne _ _ (Or.inl (lyx_ne hy (by decide) (by decide) (by decide)))]; exact hSR12917
                    have hTR12918 : R12918 (ad g 5) 0 = some (ad g 27) := by rw [eR12918, pp_ne _ _ (Or.inl (lyx_ne hy (by decide) (by decide) (by decide)))]; exact hTR12917
                    have hOR12918 : R12918 (ad g 43) 7 = some (ad g 48) := by rw [eR12918, pp_ne _ _ (Or.inr (by decide))]; exact hQR12917
                    have hQR12918 : R12918 (ad g 43) 6 = some (ad g 47) := by rw [eR12918, pp_self]
                    clear eR12918
                    refine WP_iinc (ls' := [(0, _), (1, _), (2, _), (3, _), (4, _), (5, _), (6, _), (7, _), (8, _)]) dX2_search_209 rfl (by decide) rfl ?_
                    have hv12919 : (i12812 + Int32.ofInt (-1)).toInt = i12812.toInt + (-1) := ia_n rfl (by omega) (by omega)
                    generalize i12812 + Int32.ofInt (-1) = v12919 at hv12919 ⊢
                    refine WP_goto 121 dX2_search_212 rfl ?_
                    exact WP_sub (fc rfl (fc rfl (fc rfl (fc rfl (fc rfl (fc rfl (fc rfl fn))))))) (ihlp121_12816 v12919 I12912 R12918 hrR12918 hTR12918 hSR12918 (Or.inl ⟨hQR12918, hOR12918⟩) hI12912 fr12916 w12911 e12914 v12907 e12915 (by omega) (by omega) (by omega) (by omega) (by omega) (fun q hq he => by have e := adx_inj hy hq (by decide) (Option.some.inj (he.symm.trans hOR12918)); subst e; exact WB_V VI12912 (by omega) (by omega)) (Or.inr ⟨_, by rw [show da.toInt = v12874.toInt by omega]; exact ldI12875, FU_end (by have z := fuI12905; rw [show i12812.toInt = (0 : Int) by omega] at z; exact z) PZ_I12670_12671 (by omega) (by omega) (by omega)⟩) (by omega))
          obtain ⟨w12920, ew12920⟩ : ∃ w : Int32, I12806 (ad g 43) 1 = w := ⟨_, rfl⟩
          have bw12920 := BT_get hI12806.1 43 1 2 (0) (0) (47) (by decide) 1 (by decide) (by decide)
          rw [ew12920] at bw12920
          exact WP_sub (fc rfl (fc rfl (fc rfl (fc rfl (fc rfl (fc rfl (fc rfl fn))))))) (lp121_12816 _ v12811 I12806 RI12670 hrI12670 hTI12670 hSI12670 (Or.inr ⟨hn102, hl102⟩) hI12806 fr12809 w12920 ew12920 v12805 e12808 (by omega) (by omega) (by omega) (by omega) (by omega) (fun q hq he => by have e := adx_inj hy hq (by decide) (Option.some.inj (he.symm.trans hl102)); subst e; exact (by rw [show v12811.toInt = (nn.toInt - 1) by omega]; exact WI12806)) (Or.inl (by omega)) (Nat.lt_succ_self _))
      · refine WP_iload_n dX2_search_30 rfl ?_
        refine WP_iload dX2_search_31 rfl ?_
        refine WQ_iadd dX2_search_33 (by omega) (by omega) (fun v12921 hv12921 => ?_)
        refine WQ_bipush (7) (7) dX2_search_34 rfl rfl (fun v12922 hv12922 => ?_)
        refine WQ_iremk (7) dX2_search_36 hv12922 (by decide) (by omega) (fun v12923 hv12923 => ?_)
        refine WP_istore (ls' := [(0, _), (1, _), (2, _), (3, _), (4, _), (5, _), (6, _), (7, _)]) dX2_search_37 (by decide) rfl ?_
        refine WP_aload_n dX2_search_39 rfl ?_
        refine WP_getr dX2_search_40 fX2_12 rfl (lyx_is hy 43 2 rfl) (rfx hrI12670 43 3 44 (by decide)) ?_
        refine WP_aload_n dX2_search_43 rfl ?_
        refine WP_getr dX2_search_44 fX2_32 rfl (lyx_is hy 43 2 rfl) (rfx hrI12670 43 2 5 (by decide)) ?_
        refine WP_iload_n dX2_search_47 rfl ?_
        refine WP_iload dX2_search_48 rfl ?_
        refine WP_callV3 (k := 6) dX2_search_50 ⟨⟨⟨by decide, by decide⟩, zX6_load⟩, lX2_42, by decide, rfl, vX6_load.1, vX6_load.2⟩ (lyx_is hy 44 6 rfl) (sx_loadx_44_27 hy hrI12670 hTI12670 hI12670 so v12923 (by omega) (by omega) (by omega) (by omega)) (Nat.le_of_ble_eq_true rfl) ?_
        intro r I12924 J12925 Ra hq
        obtain ⟨⟨hI12924, ec, fiI12924, ejI12924, pI12924⟩, rfl⟩ := hq
        rw [ec]
        clear ec Ra
        have fr12926 : fz 74 g [43, 44, 47, 48] I I12924 := fz_tr fiI12670 (fz_mono fiI12924 (by decide))
        rw [ejI12924]
        clear ejI12924 J12925
        have ldI12924 := LD_fr pI12924 (fz_at fiI12670 27 (by decide) (by decide)) (fz_at fiI12670 32 (by decide) (by decide)) (fz_at fiI12670 34 (by decide) (by decide)) (fz_at fiI12670 35 (by decide) (by decide)) (fz_at fiI12670 36 (by decide) (by decide)) (fz_at fiI12670 22 (by decide) (by decide))
        have e12927 : I12924 (ad g 1) 1 = L := hI12924.2
        have b12928 := BT_get hI12924.1 1 1 2 (0) (0) (900) (by decide) 1 (by decide) (by decide)
        rw [e12927] at b12928
        refine WP_aload_n dX2_search_53 rfl ?_
        refine WP_iload dX2_search_54 rfl ?_
        refine WQ_if_ne 63 dX2_search_56 rfl (fun c12928 => ?_) (fun c12928 => ?_)
        · refine WP_aload_n dX2_search_63 rfl ?_
          refine WP_getr dX2_search_64 fX2_32 rfl (lyx_is hy 43 2 rfl) (rfx hrI12670 43 2 5 (by decide)) ?_
          refine WP_getr dX2_search_67 fX2_46 rfl (lyx_is hy 5 0 rfl) hTI12670 ?_
          refine WP_getr dX2_search_70 fX2_52 rfl (lyx_is hy 27 7 rfl) (rfx hrI12670 27 10 33 (by decide)) ?_
          refine WP_iload_n dX2_search_73 rfl ?_
          refine WQ_bipush (7) (7) dX2_search_74 rfl rfl (fun v12930 hv12930 => ?_)
          refine WQ_imulk (7) dX2_search_76 hv12930 (by omega) (by omega) (fun v12931 hv12931 => ?_)
          refine WP_iload dX2_search_77 rfl ?_
          refine WQ_iadd dX2_search_79 (by omega) (by omega) (fun v12932 hv12932 => ?_)
          refine WQ_iald dX2_search_80 (lyx_is hy 33 13 rfl) (lyx_n hy 33 28 rfl) (by omega) (by omega) (fun q hq => BT_get hI12924.1 33 0 28 (0) (0) (20) (by decide) q (Nat.zero_le _) hq) (fun v12933 av12933 bv12933 ev12933 => ?_)
          refine WP_iload dX2_search_81 rfl ?_
          refine WP_callV2 (k := 2) dX2_search_83 ⟨⟨⟨by decide, by decide⟩, zX2_spread⟩, lX2_57, by decide, rfl, vX2_spread.1, vX2_spread.2⟩ (lyx_is hy 43 2 rfl) (sx_spreadx hy hrI12670 hI12924 v12933 i12669 (by omega) (by omega) (by omega) (by omega)) (Nat.le_of_ble_eq_true rfl) ?_
          intro r Ia J12934 Ra hq
          obtain ⟨⟨ea, ec, fjJ12934, pJ12934⟩, rfl⟩ := hq
          rw [ea, ec]
          clear ea ec Ia Ra
          have fr12935 : fz 74 g [45, 46] J J12934 := fz_tr fjJ12671 (fz_mono fjJ12934 (by decide))
          have FJ12934 := FWD_P (P2 := J12934 (ad g 45)) PF_I12670_12671 (fz_at fjJ12934 45 (by decide) (by decide))
          have srJ12934 := pJ12934
          rw [← fz_at fjJ12934 45 (by decide) (by decide)] at srJ12934
          have ZJ12934 := ZB_P (P2 := J12934 (ad g 45)) PZ_I12670_12671 (fz_at fjJ12934 45 (by decide) (by decide))
          refine WP_aload_n dX2_search_86 rfl ?_
          refine WP_iload dX2_search_87 rfl ?_
          refine WP_iload dX2_search_89 rfl ?_
          refine WQ_iconst (1) (1) dX2_search_91 rfl rfl (fun v12936 hv12936 => ?_)
          refine WQ_iadd dX2_search_92 (by omega) (by omega) (fun v12937 hv12937 => ?_)
          refine WP_callV2 (k := 2) dX2_search_93 ⟨⟨⟨by decide, by decide⟩, zX2_sleep⟩, lX2_61, by decide, rfl, vX2_sleep.1, vX2_sleep.2⟩ (lyx_is hy 43 2 rfl) (sx_psleepx hy hrI12670 hI12924 v12923 v12937 (by omega) (by omega) (by omega) (by omega)) (Nat.le_of_ble_eq_true rfl) ?_
          intro r Ia J12938 Ra hq
          obtain ⟨⟨ea, ec, fjJ12938, pJ12938⟩, rfl⟩ := hq
          rw [ea, ec]
          clear ea ec Ia Ra
          have fr12939 : fz 74 g [45, 46] J J12938 := fz_tr fr12935 (fz_mono fjJ12938 (by decide))
          have slJ12938 := pJ12938.1
          rw [fz_at fr12926 24 (by decide) (by decide), fz_at fr12926 25 (by decide) (by decide), fz_at fr12926 26 (by decide) (by decide)] at slJ12938
          have FJ12938 := FWD_step FJ12934 ldI12924 srJ12934 slJ12938 pJ12938.2 (by unfold EA; rw [if_neg (by omega), show I (ad g (27 + 6)) = I12924 (ad g 33) from (fz_at fr12926 33 (by decide) (by decide)).symm, ← cl (x := v12932) (n := (7 * so.toInt + v12923.toInt).toNat) (by omega), ev12933]) (by omega) (by omega) (by omega) (sbx_b hI) (ldx_p hI (by decide) _ _ _ (by omega) (by omega) ldI12924 (by omega) (by omega)) (ldx_p hI (by decide)) (by omega)
          have ZJ12938 := ZB_out ZJ12934 pJ12938.2 (by omega)
          refine WP_iinc (ls' := [(0, _), (1, _), (2, _), (3, _), (4, _), (5, _), (6, _), (7, _)]) dX2_search_96 rfl (by decide) rfl ?_
          have hv12940 : (i12669 + Int32.ofInt (1)).toInt = i12669.toInt + (1) := ia_n rfl (by omega) (by omega)
          generalize i12669 + Int32.ofInt (1) = v12940 at hv12940 ⊢
          refine WP_goto 21 dX2_search_99 rfl ?_
          exact WP_sub (fc rfl (fc rfl (fc rfl (fc rfl (fc rfl (fc rfl (fc rfl fn))))))) (ihlp21_12672 v12940 I12924 J12938 RI12670 hrI12670 hTI12670 hSI12670 hPI12670 hI12924 fr12926 fr12939 (by omega) (by omega) (by omega) (by rw [show v12940.toInt = v12937.toInt by omega]; exact FJ12938) ZJ12938 (by omega))
        · refine WQ_iconst (0) (0) dX2_search_59 rfl rfl (fun v12941 hv12941 => ?_)
          refine WP_goto 81 dX2_search_60 rfl ?_
          refine WP_iload dX2_search_81 rfl ?_
          refine WP_callV2 (k := 2) dX2_search_83 ⟨⟨⟨by decide, by decide⟩, zX2_spread⟩, lX2_57, by decide, rfl, vX2_spread.1, vX2_spread.2⟩ (lyx_is hy 43 2 rfl) (sx_spreadx hy hrI12670 hI12924 v12941 i12669 (by omega) (by omega) (by omega) (by omega)) (Nat.le_of_ble_eq_true rfl) ?_
          intro r Ia J12942 Ra hq
          obtain ⟨⟨ea, ec, fjJ12942, pJ12942⟩, rfl⟩ := hq
          rw [ea, ec]
          clear ea ec Ia Ra
          have fr12943 : fz 74 g [45, 46] J J12942 := fz_tr fjJ12671 (fz_mono fjJ12942 (by decide))
          have FJ12942 := FWD_P (P2 := J12942 (ad g 45)) PF_I12670_12671 (fz_at fjJ12942 45 (by decide) (by decide))
          have srJ12942 := pJ12942
          rw [← fz_at fjJ12942 45 (by decide) (by decide)] at srJ12942
          have ZJ12942 := ZB_P (P2 := J12942 (ad g 45)) PZ_I12670_12671 (fz_at fjJ12942 45 (by decide) (by decide))
          refine WP_aload_n dX2_search_86 rfl ?_
          refine WP_iload dX2_search_87 rfl ?_
          refine WP_iload dX2_search_89 rfl ?_
          refine WQ_iconst (1) (1) dX2_search_91 rfl rfl (fun v12944 hv12944 => ?_)
          refine WQ_iadd dX2_search_92 (by omega) (by omega) (fun v12945 hv12945 => ?_)
          refine WP_callV2 (k := 2) dX2_search_93 ⟨⟨⟨by decide, by decide⟩, zX2_sleep⟩, lX2_61, by decide, rfl, vX2_sleep.1, vX2_sleep.2⟩ (lyx_is hy 43 2 rfl) (sx_psleepx hy hrI12670 hI12924 v12923 v12945 (by omega) (by omega) (by omega) (by omega)) (Nat.le_of_ble_eq_true rfl) ?_
          intro r Ia J12946 Ra hq
          obtain ⟨⟨ea, ec, fjJ12946, pJ12946⟩, rfl⟩ := hq
          rw [ea, ec]
          clear ea ec Ia Ra
          have fr12947 : fz 74 g [45, 46] J J12946 := fz_tr fr12943 (fz_mono fjJ12946 (by decide))
          have slJ12946 := pJ12946.1
          rw [fz_at fr12926 24 (by decide) (by decide), fz_at fr12926 25 (by decide) (by decide), fz_at fr12926 26 (by decide) (by decide)] at slJ12946
          have FJ12946 := FWD_step FJ12942 ldI12924 srJ12942 slJ12946 pJ12946.2 (by unfold EA; rw [if_pos (by omega)]; omega) (by omega) (by omega) (by omega) (sbx_b hI) (ldx_p hI (by decide) _ _ _ (by omega) (by omega) ldI12924 (by omega) (by omega)) (ldx_p hI (by decide)) (by omega)
          have ZJ12946 := ZB_out ZJ12942 pJ12946.2 (by omega)
          refine WP_iinc (ls' := [(0, _), (1, _), (2, _), (3, _), (4, _), (5, _), (6, _), (7, _)]) dX2_search_96 rfl (by decide) rfl ?_
          have hv12948 : (i12669 + Int32.ofInt (1)).toInt = i12669.toInt + (1) := ia_n rfl (by omega) (by omega)
          generalize i12669 + Int32.ofInt (1) = v12948 at hv12948 ⊢
          refine WP_goto 21 dX2_search_99 rfl ?_
          exact WP_sub (fc rfl (fc rfl (fc rfl (fc rfl (fc rfl (fc rfl (fc rfl fn))))))) (ihlp21_12672 v12948 I12924 J12946 RI12670 hrI12670 hTI12670 hSI12670 hPI12670 hI12924 fr12926 fr12947 (by omega) (by omega) (by omega) (by rw [show v12948.toInt = v12945.toInt by omega]; exact FJ12946) ZJ12946 (by omega))
  exact WP_sub (fc rfl (fc rfl (fc rfl (fc rfl (fc rfl (fc rfl (fc rfl fn))))))) (lp21_12672 _ v12668 I J12666 R hr hT rfl hP hI fr0 fr12667 (by omega) (by omega) (by omega) (FWD_0 hv12668) ZJ12666 (Nat.lt_succ_self _))
