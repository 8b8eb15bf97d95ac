set_option maxHeartbeats 4000000 in
set_option maxRecDepth 100000 in
theorem sx_searchx_6 {g : GG} {n : Int} {L : Int32} (hy : LyX g)  {I : pI} {J : pJ} {R : pR} (hr : RfX g R) (hP : NL g R) (hT : R (ad g 5) 0 = some (ad g 6)) (hI : XI g n L I) (so : Int32) (da : Int32) (co : Int32) (st : Int32) (nn : Int32) (so_lo : 0 ≤ so.toInt) (so_hi : so.toInt ≤ 3) (da_lo : 0 ≤ da.toInt) (da_hi : da.toInt ≤ 6) (co_lo : 0 ≤ co.toInt) (co_hi : co.toInt ≤ 60) (st_lo : 0 ≤ st.toInt) (st_hi : st.toInt ≤ 5) (nn_lo : 1 ≤ nn.toInt) (nn_hi : nn.toInt ≤ 28) : SP g mX2_search [.ref (ad g 43), .int so, .int da, .int co, .int st, .int nn] I J R (fun r I' J' R' => (XI g n L I' ∧ (RfX g R' ∧ (R' (ad g 5) 0 = R (ad g 5) 0 ∧ R' (ad g 0) 10 = R (ad g 0) 10) ∧ NL g R') ∧ fz 74 g [43, 44, 47, 48] I I' ∧ fz 74 g [45, 46] J J') ∧ ∃ v : Int32, r = some (.int v) ∧ 0 ≤ v.toInt ∧ v.toInt ≤ 47 ∧ (∃ T : Nat → Int32, LD g 6 I so.toInt da.toInt T ∧ AOKd T co.toInt st.toInt v.toInt)) := by
  refine SP_of ⟨by decide, rfl⟩ (Nat.le_of_ble_eq_true rfl) ?_
  have e11813 : I (ad g 1) 1 = L := hI.2
  have b11814 := BT_get hI.1 1 1 2 (0) (0) (900) (by decide) 1 (by decide) (by decide)
  rw [e11813] at b11814
  have fr0 : fz 74 g [43, 44, 47, 48] I I := fz_rf
  have frj0 : fz 74 g [45, 46] J J := fz_rf
  refine WP_aload_n dX2_search_0 rfl ?_
  refine WP_getr dX2_search_1 fX2_18 rfl (lyx_is hy 43 2 rfl) (rfx hr 43 4 45 (by decide)) ?_
  refine WP_lconst (0) dX2_search_4 rfl ?_
  obtain ⟨l11815, hl11815, el11815⟩ : ∃ v : Int64, v.toInt = 0 ∧ (0 : Int64) = v := ⟨_, rfl, rfl⟩
  rw [el11815]; clear el11815
  refine WP_callS2 dX2_search_5 ⟨⟨⟨by decide, by decide⟩, zJ7_fill_d0a16⟩, lX2_36, tJ7_fill_d0a16⟩ (sx_fillJx_45 hy hr hI l11815 ) (Nat.le_of_ble_eq_true rfl) ?_
  intro r Ia J11816 Ra hq
  obtain ⟨⟨ea, ec, fjJ11816, pJ11816⟩, rfl⟩ := hq
  rw [ea, ec]
  clear ea ec Ia Ra
  have fr11817 : fz 74 g [45, 46] J J11816 := fz_tr frj0 (fz_mono fjJ11816 (by decide))
  refine WP_aload_n dX2_search_8 rfl ?_
  refine WP_getr dX2_search_9 fX2_18 rfl (lyx_is hy 43 2 rfl) (rfx hr 43 4 45 (by decide)) ?_
  refine WP_iload dX2_search_12 rfl ?_
  refine WP_lconst (1) dX2_search_14 rfl ?_
  obtain ⟨l11818, hl11818, el11818⟩ : ∃ v : Int64, v.toInt = 1 ∧ (1 : Int64) = v := ⟨_, rfl, rfl⟩
  rw [el11818]; clear el11818
  refine WP_iload_n dX2_search_15 rfl ?_
  refine WQ_lshl1 dX2_search_16 hl11818 (by omega) (by omega) (fun l11819 ql11819 => ?_)
  refine WQ_last dX2_search_17 (lyx_is hy 45 14 rfl) (lyx_n hy 45 168 rfl) (by omega) (by omega) (fun J11820 eJ11820 => ?_)
  have fr11821 : fz 74 g [45, 46] J J11820 := by rw [eJ11820]; exact fzx_pp hy fr11817 (by decide) (by decide)
  have xJ11820 := eJ11820
  rw [cl (x := st) (n := st.toInt.toNat) (by omega)] at xJ11820
  have ZJ11820 := ZB_0 (co := co) (st := st) pJ11816 hl11815 xJ11820 ql11819 (by omega)
  clear eJ11820
  refine WQ_iconst (0) (0) dX2_search_18 rfl rfl (fun v11822 hv11822 => ?_)
  refine WP_istore (ls' := [(0, _), (1, _), (2, _), (3, _), (4, _), (5, _), (6, _)]) dX2_search_19 (by decide) rfl ?_
  have lp21_11826 : ∀ (mz : Nat) (i11823 : Int32) (I11824 : pI) (J11825 : pJ) (RI11824 : pR), RfX g RI11824 → RI11824 (ad g 5) 0 = some (ad g 6) → RI11824 (ad g 0) 10 = R (ad g 0) 10 → NL g RI11824 → XI g n L I11824 → fz 74 g [43, 44, 47, 48] I I11824 → fz 74 g [45, 46] J J11825 → 0 ≤ i11823.toInt → i11823.toInt ≤ 27 → i11823.toInt ≤ nn.toInt - 1 → (FWD g 6 I (J11825 (ad g 45)) so.toInt da.toInt i11823.toInt) → (ZB (J11825 (ad g 45)) co.toInt st.toInt) → (28 - i11823.toInt).toNat < mz → WP g mX2_search 21 [(0, .ref (ad g 43)), (1, .int so), (2, .int da), (3, .int co), (4, .int st), (5, .int nn), (6, .int i11823)] [] I11824 J11825 RI11824 (fun r I' J' R' => (XI g n L I' ∧ (RfX g R' ∧ (R' (ad g 5) 0 = R (ad g 5) 0 ∧ R' (ad g 0) 10 = R (ad g 0) 10) ∧ NL g R') ∧ fz 74 g [43, 44, 47, 48] I I' ∧ fz 74 g [45, 46] J J') ∧ ∃ v : Int32, r = some (.int v) ∧ 0 ≤ v.toInt ∧ v.toInt ≤ 47 ∧ (∃ T : Nat → Int32, LD g 6 I so.toInt da.toInt T ∧ AOKd T co.toInt st.toInt v.toInt)) := by
    intro mz
    induction mz with
    | zero =>
      intro i11823 I11824 J11825 RI11824 hrI11824 hTI11824 hSI11824 hPI11824 hI11824 fiI11824 fjJ11825 ai11823 bi11823 j0_I11824 PF_I11824_11825 PZ_I11824_11825 hmlp21_11826
      exact absurd hmlp21_11826 (Nat.not_lt_zero _)
    | succ mz ihlp21_11826 =>
      intro i11823 I11824 J11825 RI11824 hrI11824 hTI11824 hSI11824 hPI11824 hI11824 fiI11824 fjJ11825 ai11823 bi11823 j0_I11824 PF_I11824_11825 PZ_I11824_11825 hmlp21_11826
      have e11828 : I11824 (ad g 1) 1 = L := hI11824.2
      have b11829 := BT_get hI11824.1 1 1 2 (0) (0) (900) (by decide) 1 (by decide) (by decide)
      rw [e11828] at b11829
      refine WP_iload dX2_search_21 rfl ?_
      refine WP_iload dX2_search_23 rfl ?_
      refine WQ_iconst (1) (1) dX2_search_25 rfl rfl (fun v11830 hv11830 => ?_)
      refine WQ_isub dX2_search_26 (by omega) (by omega) (fun v11831 hv11831 => ?_)
      refine WQ_icmp_ge 102 dX2_search_27 rfl (fun c11831 => ?_) (fun c11831 => ?_)
      · rcases hPI11824 with ⟨hn102, hl102⟩ | ⟨hn102, hl102⟩
        · have FN11832 : FWD g 6 I (J11825 (ad g 45)) so.toInt da.toInt (nn.toInt - 1) := by rw [show (nn.toInt - 1) = i11823.toInt by omega]; exact PF_I11824_11825
          refine WP_aload_n dX2_search_102 rfl ?_
          refine WP_getr dX2_search_103 fX2_29 rfl (lyx_is hy 43 2 rfl) hl102 ?_
          refine WQ_iconst (0) (0) dX2_search_106 rfl rfl (fun v11834 hv11834 => ?_)
          refine WP_callS2u dX2_search_107 ⟨⟨⟨by decide, by decide⟩, zJ7_fill_53178⟩, lX2_64, tJ7_fill_53178⟩ (s_fill hy hrI11824 48 366 rfl rfl (by decide) v11834) (Nat.le_of_ble_eq_true rfl) ?_
          obtain ⟨I11835, eI11835⟩ : ∃ I9 : pI, I9 = fi I11824 (ad g 48) 366 v11834 := ⟨_, rfl⟩
          rw [← eI11835]
          have hI11835 : XI g n L I11835 := by rw [eI11835]; exact (xi_fill0 hy hI11824 48 366 v11834 (by decide) (by decide))
          have e11836 : I11835 (ad g 1) 1 = L := by rw [eI11835, fi_off (lyx_ne hy (by decide) (by decide) (by decide))]; exact e11828
          have fr11837 : fz 74 g [43, 44, 47, 48] I I11835 := by rw [eI11835]; exact fzx_fi hy fiI11824 (by decide) (by decide)
          have WI11835 : WB (J11825 (ad g 45)) (I11835 (ad g 48)) (nn.toInt - 1) (nn.toInt - 1) := WB_0 eI11835 hv11834
          clear eI11835
          refine WP_aload_n dX2_search_110 rfl ?_
          refine WQ_iconst (0) (0) dX2_search_111 rfl rfl (fun v11838 hv11838 => ?_)
          refine WQ_puti dX2_search_112 fX2_67 rfl rfl (lyx_is hy 43 2 rfl) (fun I11839 eI11839 => ?_)
          have hI11839 : XI g n L I11839 := by rw [eI11839]; exact (xi_f0 hy hI11835 (c := 43) (by decide) (Or.inl (by decide)) (by decide))
          have e11840 : I11839 (ad g 1) 1 = L := by rw [eI11839, pp_ne _ _ (Or.inl (lyx_ne hy (by decide) (by decide) (by decide)))]; exact e11836
          have e11841 : I11839 (ad g 43) 8 = v11838 := by rw [eI11839, pp_self]
          have fr11842 : fz 74 g [43, 44, 47, 48] I I11839 := by rw [eI11839]; exact fzx_pp hy fr11837 (by decide) (by decide)
          have WI11839 : WB (J11825 (ad g 45)) (I11839 (ad g 48)) (nn.toInt - 1) (nn.toInt - 1) := by rw [eI11839, pp_off _ _ (lyx_ne hy (by decide) (by decide) (by decide))]; exact WI11835
          clear eI11839
          refine WP_iload dX2_search_115 rfl ?_
          refine WQ_iconst (1) (1) dX2_search_117 rfl rfl (fun v11843 hv11843 => ?_)
          refine WQ_isub dX2_search_118 (by omega) (by omega) (fun v11844 hv11844 => ?_)
          refine WP_istore (ls' := [(0, _), (1, _), (2, _), (3, _), (4, _), (5, _), (6, _)]) dX2_search_119 (by decide) rfl ?_
          have lp121_11849 : ∀ (mz : Nat) (i11845 : Int32) (I11846 : pI) (RI11846 : pR), RfX g RI11846 → RI11846 (ad g 5) 0 = some (ad g 6) → RI11846 (ad g 0) 10 = R (ad g 0) 10 → NL g RI11846 → XI g n L I11846 → fz 74 g [43, 44, 47, 48] I I11846 → ∀ (w11848 : Int32), I11846 (ad g 43) 1 = w11848 → ∀ (w11849 : Int32), I11846 (ad g 43) 8 = w11849 → -1 ≤ i11845.toInt → i11845.toInt ≤ 27 → i11845.toInt ≤ nn.toInt - 1 → 0 ≤ w11849.toInt → w11849.toInt ≤ 594 * (nn.toInt - 1 - i11845.toInt) → (∀ q : Nat, q < 74 → RI11846 (ad g 43) 7 = some (ad g q) → WB (J11825 (ad g 45)) (I11846 (ad g q)) (nn.toInt - 1) i11845.toInt) → (0 ≤ i11845.toInt ∨ ∃ T : Nat → Int32, LD g 6 I so.toInt da.toInt T ∧ AOKd T co.toInt st.toInt w11848.toInt) → (i11845.toInt + 1).toNat < mz → WP g mX2_search 121 [(0, .ref (ad g 43)), (1, .int so), (2, .int da), (3, .int co), (4, .int st), (5, .int nn), (6, .int i11845)] [] I11846 J11825 RI11846 (fun r I' J' R' => (XI g n L I' ∧ (RfX g R' ∧ (R' (ad g 5) 0 = R (ad g 5) 0 ∧ R' (ad g 0) 10 = R (ad g 0) 10) ∧ NL g R') ∧ fz 74 g [43, 44, 47, 48] I I' ∧ fz 74 g [45, 46] J J') ∧ ∃ v : Int32, r = some (.int v) ∧ 0 ≤ v.toInt ∧ v.toInt ≤ 47 ∧ (∃ T : Nat → Int32, LD g 6 I so.toInt da.toInt T ∧ AOKd T co.toInt st.toInt v.toInt)) := by
            intro mz
            induction mz with
            | zero =>
              intro i11845 I11846 RI11846 hrI11846 hTI11846 hSI11846 hPI11846 hI11846 fiI11846 w11848 ew11848 w11849 ew11849 ai11845 bi11845 j0_I11846_11846 j1_I11846_11846 j2_I11846_11846 PW_I11846_11846 PQ_I11846_11846 hmlp121_11849
              exact absurd hmlp121_11849 (Nat.not_lt_zero _)
            | succ mz ihlp121_11849 =>
              intro i11845 I11846 RI11846 hrI11846 hTI11846 hSI11846 hPI11846 hI11846 fiI11846 w11848 ew11848 w11849 ew11849 ai11845 bi11845 j0_I11846_11846 j1_I11846_11846 j2_I11846_11846 PW_I11846_11846 PQ_I11846_11846 hmlp121_11849
              have bw11848 := BT_get hI11846.1 43 1 2 (0) (0) (47) (by decide) 1 (by decide) (by decide)
              rw [ew11848] at bw11848
              have e11851 : I11846 (ad g 1) 1 = L := hI11846.2
              have b11852 := BT_get hI11846.1 1 1 2 (0) (0) (900) (by decide) 1 (by decide) (by decide)
              rw [e11851] at b11852
              rcases hPI11846 with ⟨hn121, hl121⟩ | ⟨hn121, hl121⟩
              · have W11852 := PW_I11846_11846 48 (by decide) hl121
                refine WP_iload dX2_search_121 rfl ?_
                refine WQ_if_lt 215 dX2_search_123 rfl (fun c11853 => ?_) (fun c11853 => ?_)
                · refine WP_aload_n dX2_search_215 rfl ?_
                  refine WQ_getim dX2_search_216 fX2_75 rfl (lyx_is hy 43 2 rfl) ew11848 ?_
                  exact WP_iret dX2_search_219 rfl ⟨⟨hI11846, ⟨hrI11846, ⟨hTI11846.trans hT.symm, hSI11846⟩, (Or.inl ⟨hn121, hl121⟩)⟩, fiI11846, fjJ11825⟩, _, rfl, by omega, by omega, (PQ_I11846_11846.resolve_left (by omega))⟩
                · refine WP_iload_n dX2_search_126 rfl ?_
                  refine WP_iload dX2_search_127 rfl ?_
                  refine WQ_iadd dX2_search_129 (by omega) (by omega) (fun v11855 hv11855 => ?_)
                  refine WQ_bipush (7) (7) dX2_search_130 rfl rfl (fun v11856 hv11856 => ?_)
                  refine WQ_iremk (7) dX2_search_132 hv11856 (by decide) (by omega) (fun v11857 hv11857 => ?_)
                  refine WP_istore (ls' := [(0, _), (1, _), (2, _), (3, _), (4, _), (5, _), (6, _), (7, _)]) dX2_search_133 (by decide) rfl ?_
                  refine WP_aload_n dX2_search_135 rfl ?_
                  refine WP_getr dX2_search_136 fX2_12 rfl (lyx_is hy 43 2 rfl) (rfx hrI11846 43 3 44 (by decide)) ?_
                  refine WP_aload_n dX2_search_139 rfl ?_
                  refine WP_getr dX2_search_140 fX2_32 rfl (lyx_is hy 43 2 rfl) (rfx hrI11846 43 2 5 (by decide)) ?_
                  refine WP_iload_n dX2_search_143 rfl ?_
                  refine WP_iload dX2_search_144 rfl ?_
                  refine WP_callV3 (k := 6) dX2_search_146 ⟨⟨⟨by decide, by decide⟩, zX6_load⟩, lX2_42, by decide, rfl, vX6_load.1, vX6_load.2⟩ (lyx_is hy 44 6 rfl) (sx_loadx_44_6 hy hrI11846 hTI11846 hI11846 so v11857 (by omega) (by omega) (by omega) (by omega)) (Nat.le_of_ble_eq_true rfl) ?_
                  intro r I11858 J11859 Ra hq
                  obtain ⟨⟨hI11858, ec, fiI11858, ejI11858, pI11858⟩, rfl⟩ := hq
                  rw [ec]
                  clear ec Ra
                  have fr11860 : fz 74 g [43, 44, 47, 48] I I11858 := fz_tr fiI11846 (fz_mono fiI11858 (by decide))
                  rw [ejI11858]
                  clear ejI11858 J11859
                  have ldI11858 := LD_fr pI11858 (fz_at fiI11846 6 (by decide) (by decide)) (fz_at fiI11846 11 (by decide) (by decide)) (fz_at fiI11846 13 (by decide) (by decide)) (fz_at fiI11846 14 (by decide) (by decide)) (fz_at fiI11846 15 (by decide) (by decide)) (fz_at fiI11846 22 (by decide) (by decide))
                  have WI11858 := W11852
                  rw [← fz_at fiI11858 48 (by decide) (by decide)] at WI11858
                  have e11861 : I11858 (ad g 43) 1 = w11848 := by rw [fz_at fiI11858 43 (by decide) (by decide)]; exact ew11848
                  have e11862 : I11858 (ad g 43) 8 = w11849 := by rw [fz_at fiI11858 43 (by decide) (by decide)]; exact ew11849
                  have e11863 : I11858 (ad g 1) 1 = L := hI11858.2
                  have b11864 := BT_get hI11858.1 1 1 2 (0) (0) (900) (by decide) 1 (by decide) (by decide)
                  rw [e11863] at b11864
                  refine WP_aload_n dX2_search_149 rfl ?_
                  refine WP_aload_n dX2_search_150 rfl ?_
                  refine WP_iload dX2_search_151 rfl ?_
                  refine WQ_if_ne 160 dX2_search_153 rfl (fun c11864 => ?_) (fun c11864 => ?_)
                  · refine WP_aload_n dX2_search_160 rfl ?_
                    refine WP_getr dX2_search_161 fX2_32 rfl (lyx_is hy 43 2 rfl) (rfx hrI11846 43 2 5 (by decide)) ?_
                    refine WP_getr dX2_search_164 fX2_46 rfl (lyx_is hy 5 0 rfl) hTI11846 ?_
                    refine WP_getr dX2_search_167 fX2_52 rfl (lyx_is hy 6 7 rfl) (rfx hrI11846 6 10 12 (by decide)) ?_
                    refine WP_iload_n dX2_search_170 rfl ?_
                    refine WQ_bipush (7) (7) dX2_search_171 rfl rfl (fun v11866 hv11866 => ?_)
                    refine WQ_imulk (7) dX2_search_173 hv11866 (by omega) (by omega) (fun v11867 hv11867 => ?_)
                    refine WP_iload dX2_search_174 rfl ?_
                    refine WQ_iadd dX2_search_176 (by omega) (by omega) (fun v11868 hv11868 => ?_)
                    refine WQ_iald dX2_search_177 (lyx_is hy 12 13 rfl) (lyx_n hy 12 28 rfl) (by omega) (by omega) (fun q hq => BT_get hI11858.1 12 0 28 (0) (0) (20) (by decide) q (Nat.zero_le _) hq) (fun v11869 av11869 bv11869 ev11869 => ?_)
                    refine WP_iload_n dX2_search_178 rfl ?_
                    refine WP_iload dX2_search_179 rfl ?_
                    refine WP_iload dX2_search_181 rfl ?_
                    refine WP_callV4 (k := 2) dX2_search_183 ⟨⟨⟨by decide, by decide⟩, zX2_weighDay⟩, lX2_71, by decide, rfl, vX2_weighDay.1, vX2_weighDay.2⟩ (lyx_is hy 43 2 rfl) (sx_weighDayx_48_6 hy hrI11846 hTI11846 hI11858 v11869 so v11857 i11845 (by omega) (by omega) (by omega) (by omega) (by omega) (by omega) (by omega) (by omega) (K := 594 * ((nn.toInt - 1) - i11845.toInt)) (by omega) hl121 hn121 (by rw [fz_at fiI11858 43 (by decide) (by decide), ew11849]; omega) (by rw [fz_at fr11860 24 (by decide) (by decide), fz_at fr11860 25 (by decide) (by decide), fz_at fr11860 26 (by decide) (by decide)]; exact WD_of WI11858 FN11832 ldI11858 (by unfold EA; rw [if_neg (by omega), show I (ad g (6 + 6)) = I11858 (ad g 12) from (fz_at fr11860 12 (by decide) (by decide)).symm, ← cl (x := v11868) (n := (7 * so.toInt + v11857.toInt).toNat) (by omega), ev11869]) (by omega) (by omega) (by omega) (ldx_p hI (by decide) _ _ _ (by omega) (by omega) ldI11858 (by omega) (by omega)) (sbx_b hI) (cbx_b hI (by omega) (by omega)))) (Nat.le_of_ble_eq_true rfl) ?_
                    intro r I11870 J11871 Ra hq
                    obtain ⟨⟨hI11870, ec, fiI11870, ejI11870, pI11870⟩, v11872, rfl, av11872, bv11872, cv11872⟩ := hq
                    show WP _ _ _ _ (.int _ :: _) _ _ _ _
                    rw [ec]
                    clear ec Ra
                    have fr11873 : fz 74 g [43, 44, 47, 48] I I11870 := fz_tr fr11860 (fz_mono fiI11870 (by decide))
                    rw [ejI11870]
                    clear ejI11870 J11871
                    have e11874 : I11870 (ad g 12) v11868.toNatClampNeg = v11869 := by rw [fz_at fiI11870 12 (by decide) (by decide)]; exact ev11869
                    have e11875 : I11870 (ad g 1) 1 = L := hI11870.2
                    have b11876 := BT_get hI11870.1 1 1 2 (0) (0) (900) (by decide) 1 (by decide) (by decide)
                    rw [e11875] at b11876
                    obtain ⟨w11877, ew11877⟩ : ∃ w : Int32, I11870 (ad g 43) 1 = w := ⟨_, rfl⟩
                    have bw11877 := BT_get hI11870.1 43 1 2 (0) (0) (47) (by decide) 1 (by decide) (by decide)
                    rw [ew11877] at bw11877
                    have vsI11870 := pI11870.1
                    have fuI11870 := pI11870.2
                    rw [ew11877] at fuI11870
                    refine WQ_puti dX2_search_186 fX2_67 rfl rfl (lyx_is hy 43 2 rfl) (fun I11878 eI11878 => ?_)
                    have hI11878 : XI g n L I11878 := by rw [eI11878]; exact (xi_f0 hy hI11870 (c := 43) (by decide) (Or.inl (by decide)) (by decide))
                    have e11879 : I11878 (ad g 12) v11868.toNatClampNeg = v11869 := by rw [eI11878, pp_ne _ _ (Or.inl (lyx_ne hy (by decide) (by decide) (by decide)))]; exact e11874
                    have e11880 : I11878 (ad g 1) 1 = L := by rw [eI11878, pp_ne _ _ (Or.inl (lyx_ne hy (by decide) (by decide) (by decide)))]; exact e11875
                    have e11881 : I11878 (ad g 43) 1 = w11877 := by rw [eI11878, pp_ne _ _ (Or.inr (by decide))]; exact ew11877
                    have e11882 : I11878 (ad g 43) 8 = v11872 := by rw [eI11878, pp_self]
                    have fr11883 : fz 74 g [43, 44, 47, 48] I I11878 := by rw [eI11878]; exact fzx_pp hy fr11873 (by decide) (by decide)
                    have VI11878 := vsI11870
                    rw [show I11870 (ad g 47) = I11878 (ad g 47) by rw [eI11878, pp_off _ _ (lyx_ne hy (by decide) (by decide) (by decide))]] at VI11878
                    clear eI11878
                    refine WP_aload_n dX2_search_189 rfl ?_
                    refine WP_getr dX2_search_190 fX2_29 rfl (lyx_is hy 43 2 rfl) hl121 ?_
                    refine WP_astore (ls' := [(0, _), (1, _), (2, _), (3, _), (4, _), (5, _), (6, _), (7, _), (8, _)]) dX2_search_193 (by decide) rfl ?_
                    refine WP_aload_n dX2_search_195 rfl ?_
                    refine WP_aload_n dX2_search_196 rfl ?_
                    refine WP_getr dX2_search_197 fX2_25 rfl (lyx_is hy 43 2 rfl) hn121 ?_
                    refine WP_putr dX2_search_200 fX2_29 rfl rfl rfl rfl (lyx_is hy 43 2 rfl) ?_
                    obtain ⟨R11884, eR11884⟩ : ∃ R9 : pR, R9 = pp RI11846 (ad g 43) 7 (some (ad g 47)) := ⟨_, rfl⟩
                    rw [← eR11884]
                    have hrR11884 : RfX g R11884 := by rw [eR11884]; exact rfx_pp hy hrI11846 (by decide)
                    have hSR11884 : R11884 (ad g 0) 10 = R (ad g 0) 10 := by rw [eR11884, pp_ne _ _ (Or.inl (lyx_ne hy (by decide) (by decide) (by decide)))]; exact hSI11846
                    have hTR11884 : R11884 (ad g 5) 0 = some (ad g 6) := by rw [eR11884, pp_ne _ _ (Or.inl (lyx_ne hy (by decide) (by decide) (by decide)))]; exact hTI11846
                    have hOR11884 : R11884 (ad g 43) 6 = some (ad g 47) := by rw [eR11884, pp_ne _ _ (Or.inr (by decide))]; exact hn121
                    have hQR11884 : R11884 (ad g 43) 7 = some (ad g 47) := by rw [eR11884, pp_self]
                    clear eR11884
                    refine WP_aload_n dX2_search_203 rfl ?_
                    refine WP_aload dX2_search_204 rfl ?_
                    refine WP_putr dX2_search_206 fX2_25 rfl rfl rfl rfl (lyx_is hy 43 2 rfl) ?_
                    obtain ⟨R11885, eR11885⟩ : ∃ R9 : pR, R9 = pp R11884 (ad g 43) 6 (some (ad g 48)) := ⟨_, rfl⟩
                    rw [← eR11885]
                    have hrR11885 : RfX g R11885 := by rw [eR11885]; exact rfx_pp hy hrR11884 (by decide)
                    have hSR11885 : R11885 (ad g 0) 10 = R (ad g 0) 10 := by rw [eR11885, pp_ne _ _ (Or.inl (lyx_ne hy (by decide) (by decide) (by decide)))]; exact hSR11884
                    have hTR11885 : R11885 (ad g 5) 0 = some (ad g 6) := by rw [eR11885, pp_ne _ _ (Or.inl (lyx_ne hy (by decide) (by decide) (by decide)))]; exact hTR11884
                    have hOR11885 : R11885 (ad g 43) 7 = some (ad g 47) := by rw [eR11885, pp_ne _ _ (Or.inr (by decide))]; exact hQR11884
                    have hQR11885 : R11885 (ad g 43) 6 = some (ad g 48) := by rw [eR11885, pp_self]
                    clear eR11885
                    refine WP_iinc (ls' := [(0, _), (1, _), (2, _), (3, _), (4, _), (5, _), (6, _), (7, _), (8, _)]) dX2_search_209 rfl (by decide) rfl ?_
                    have hv11886 : (i11845 + Int32.ofInt (-1)).toInt = i11845.toInt + (-1) := ia_n rfl (by omega) (by omega)
                    generalize i11845 + Int32.ofInt (-1) = v11886 at hv11886 ⊢
                    refine WP_goto 121 dX2_search_212 rfl ?_
                    exact WP_sub (fc rfl (fc rfl (fc rfl (fc rfl (fc rfl (fc rfl (fc rfl fn))))))) (ihlp121_11849 v11886 I11878 R11885 hrR11885 hTR11885 hSR11885 (Or.inr ⟨hQR11885, hOR11885⟩) hI11878 fr11883 w11877 e11881 v11872 e11882 (by omega) (by omega) (by omega) (by omega) (by omega) (fun q hq he => by have e := adx_inj hy hq (by decide) (Option.some.inj (he.symm.trans hOR11885)); subst e; exact WB_V VI11878 (by omega) (by omega)) (Or.inl (by omega)) (by omega))
                  · refine WQ_iconst (0) (0) dX2_search_156 rfl rfl (fun v11887 hv11887 => ?_)
                    refine WP_goto 178 dX2_search_157 rfl ?_
                    refine WP_iload_n dX2_search_178 rfl ?_
                    refine WP_iload dX2_search_179 rfl ?_
                    refine WP_iload dX2_search_181 rfl ?_
                    refine WP_callV4 (k := 2) dX2_search_183 ⟨⟨⟨by decide, by decide⟩, zX2_weighDay⟩, lX2_71, by decide, rfl, vX2_weighDay.1, vX2_weighDay.2⟩ (lyx_is hy 43 2 rfl) (sx_weighDayx_48_6 hy hrI11846 hTI11846 hI11858 v11887 so v11857 i11845 (by omega) (by omega) (by omega) (by omega) (by omega) (by omega) (by omega) (by omega) (K := 594 * ((nn.toInt - 1) - i11845.toInt)) (by omega) hl121 hn121 (by rw [fz_at fiI11858 43 (by decide) (by decide), ew11849]; omega) (by rw [fz_at fr11860 24 (by decide) (by decide), fz_at fr11860 25 (by decide) (by decide), fz_at fr11860 26 (by decide) (by decide)]; exact WD_of WI11858 FN11832 ldI11858 (by unfold EA; rw [if_pos (by omega)]; omega) (by omega) (by omega) (by omega) (ldx_p hI (by decide) _ _ _ (by omega) (by omega) ldI11858 (by omega) (by omega)) (sbx_b hI) (cbx_b hI (by omega) (by omega)))) (Nat.le_of_ble_eq_true rfl) ?_
                    intro r I11888 J11889 Ra hq
                    obtain ⟨⟨hI11888, ec, fiI11888, ejI11888, pI11888⟩, v11890, rfl, av11890, bv11890, cv11890⟩ := hq
                    show WP _ _ _ _ (.int _ :: _) _ _ _ _
                    rw [ec]
                    clear ec Ra
                    have fr11891 : fz 74 g [43, 44, 47, 48] I I11888 := fz_tr fr11860 (fz_mono fiI11888 (by decide))
                    rw [ejI11888]
                    clear ejI11888 J11889
                    have e11892 : I11888 (ad g 1) 1 = L := hI11888.2
                    have b11893 := BT_get hI11888.1 1 1 2 (0) (0) (900) (by decide) 1 (by decide) (by decide)
                    rw [e11892] at b11893
                    obtain ⟨w11894, ew11894⟩ : ∃ w : Int32, I11888 (ad g 43) 1 = w := ⟨_, rfl⟩
                    have bw11894 := BT_get hI11888.1 43 1 2 (0) (0) (47) (by decide) 1 (by decide) (by decide)
                    rw [ew11894] at bw11894
                    have vsI11888 := pI11888.1
                    have fuI11888 := pI11888.2
                    rw [ew11894] at fuI11888
                    refine WQ_puti dX2_search_186 fX2_67 rfl rfl (lyx_is hy 43 2 rfl) (fun I11895 eI11895 => ?_)
                    have hI11895 : XI g n L I11895 := by rw [eI11895]; exact (xi_f0 hy hI11888 (c := 43) (by decide) (Or.inl (by decide)) (by decide))
                    have e11896 : I11895 (ad g 1) 1 = L := by rw [eI11895, pp_ne _ _ (Or.inl (lyx_ne hy (by decide) (by decide) (by decide)))]; exact e11892
                    have e11897 : I11895 (ad g 43) 1 = w11894 := by rw [eI11895, pp_ne _ _ (Or.inr (by decide))]; exact ew11894
                    have e11898 : I11895 (ad g 43) 8 = v11890 := by rw [eI11895, pp_self]
                    have fr11899 : fz 74 g [43, 44, 47, 48] I I11895 := by rw [eI11895]; exact fzx_pp hy fr11891 (by decide) (by decide)
                    have VI11895 := vsI11888
                    rw [show I11888 (ad g 47) = I11895 (ad g 47) by rw [eI11895, pp_off _ _ (lyx_ne hy (by decide) (by decide) (by decide))]] at VI11895
                    clear eI11895
                    refine WP_aload_n dX2_search_189 rfl ?_
                    refine WP_getr dX2_search_190 fX2_29 rfl (lyx_is hy 43 2 rfl) hl121 ?_
                    refine WP_astore (ls' := [(0, _), (1, _), (2, _), (3, _), (4, _), (5, _), (6, _), (7, _), (8, _)]) dX2_search_193 (by decide) rfl ?_
                    refine WP_aload_n dX2_search_195 rfl ?_
                    refine WP_aload_n dX2_search_196 rfl ?_
                    refine WP_getr dX2_search_197 fX2_25 rfl (lyx_is hy 43 2 rfl) hn121 ?_
                    refine WP_putr dX2_search_200 fX2_29 rfl rfl rfl rfl (lyx_is hy 43 2 rfl) ?_
                    obtain ⟨R11900, eR11900⟩ : ∃ R9 : pR, R9 = pp RI11846 (ad g 43) 7 (some (ad g 47)) := ⟨_, rfl⟩
                    rw [← eR11900]
                    have hrR11900 : RfX g R11900 := by rw [eR11900]; exact rfx_pp hy hrI11846 (by decide)
                    have hSR11900 : R11900 (ad g 0) 10 = R (ad g 0) 10 := by rw [eR11900, pp_ne _ _ (Or.inl (lyx_ne hy (by decide) (by decide) (by decide)))]; exact hSI11846
                    have hTR11900 : R11900 (ad g 5) 0 = some (ad g 6) := by rw [eR11900, pp_ne _ _ (Or.inl (lyx_ne hy (by decide) (by decide) (by decide)))]; exact hTI11846
                    have hOR11900 : R11900 (ad g 43) 6 = some (ad g 47) := by rw [eR11900, pp_ne _ _ (Or.inr (by decide))]; exact hn121
                    have hQR11900 : R11900 (ad g 43) 7 = some (ad g 47) := by rw [eR11900, pp_self]
                    clear eR11900
                    refine WP_aload_n dX2_search_203 rfl ?_
                    refine WP_aload dX2_search_204 rfl ?_
                    refine WP_putr dX2_search_206 fX2_25 rfl rfl rfl rfl (lyx_is hy 43 2 rfl) ?_
                    obtain ⟨R11901, eR11901⟩ : ∃ R9 : pR, R9 = pp R11900 (ad g 43) 6 (some (ad g 48)) := ⟨_, rfl⟩
                    rw [← eR11901]
                    have hrR11901 : RfX g R11901 := by rw [eR11901]; exact rfx_pp hy hrR11900 (by decide)
                    have hSR11901 : R11901 (ad g 0) 10 = R (ad g 0) 10 := by rw [eR11901, pp_ne _ _ (Or.inl (lyx_ne hy (by decide) (by decide) (by decide)))]; exact hSR11900
                    have hTR11901 : R11901 (ad g 5) 0 = some (ad g 6) := by rw [eR11901, pp_ne _ _ (Or.inl (lyx_ne hy (by decide) (by decide) (by decide)))]; exact hTR11900
                    have hOR11901 : R11901 (ad g 43) 7 = some (ad g 47) := by rw [eR11901, pp_ne _ _ (Or.inr (by decide))]; exact hQR11900
                    have hQR11901 : R11901 (ad g 43) 6 = some (ad g 48) := by rw [eR11901, pp_self]
                    clear eR11901
                    refine WP_iinc (ls' := [(0, _), (1, _), (2, _), (3, _), (4, _), (5, _), (6, _), (7, _), (8, _)]) dX2_search_209 rfl (by decide) rfl ?_
                    have hv11902 : (i11845 + Int32.ofInt (-1)).toInt = i11845.toInt + (-1) := ia_n rfl (by omega) (by omega)
                    generalize i11845 + Int32.ofInt (-1) = v11902 at hv11902 ⊢
                    refine WP_goto 121 dX2_search_212 rfl ?_
                    exact WP_sub (fc rfl (fc rfl (fc rfl (fc rfl (fc rfl (fc rfl (fc rfl fn))))))) (ihlp121_11849 v11902 I11895 R11901 hrR11901 hTR11901 hSR11901 (Or.inr ⟨hQR11901, hOR11901⟩) hI11895 fr11899 w11894 e11897 v11890 e11898 (by omega) (by omega) (by omega) (by omega) (by omega) (fun q hq he => by have e := adx_inj hy hq (by decide) (Option.some.inj (he.symm.trans hOR11901)); subst e; exact WB_V VI11895 (by omega) (by omega)) (Or.inr ⟨_, by rw [show da.toInt = v11857.toInt by omega]; exact ldI11858, FU_end (by have z := fuI11888; rw [show i11845.toInt = (0 : Int) by omega] at z; exact z) PZ_I11824_11825 (by omega) (by omega) (by omega)⟩) (by omega))
              · have W11902 := PW_I11846_11846 47 (by decide) hl121
                refine WP_iload dX2_search_121 rfl ?_
                refine WQ_if_lt 215 dX2_search_123 rfl (fun c11903 => ?_) (fun c11903 => ?_)
                · refine WP_aload_n dX2_search_215 rfl ?_
                  refine WQ_getim dX2_search_216 fX2_75 rfl (lyx_is hy 43 2 rfl) ew11848 ?_
                  exact WP_iret dX2_search_219 rfl ⟨⟨hI11846, ⟨hrI11846, ⟨hTI11846.trans hT.symm, hSI11846⟩, (Or.inr ⟨hn121, hl121⟩)⟩, fiI11846, fjJ11825⟩, _, rfl, by omega, by omega, (PQ_I11846_11846.resolve_left (by omega))⟩
                · refine WP_iload_n dX2_search_126 rfl ?_
                  refine WP_iload dX2_search_127 rfl ?_
                  refine WQ_iadd dX2_search_129 (by omega) (by omega) (fun v11905 hv11905 => ?_)
                  refine WQ_bipush (7) (7) dX2_search_130 rfl rfl (fun v11906 hv11906 => ?_)
                  refine WQ_iremk (7) dX2_search_132 hv11906 (by decide) (by omega) (fun v11907 hv11907 => ?_)
                  refine WP_istore (ls' := [(0, _), (1, _), (2, _), (3, _), (4, _), (5, _), (6, _), (7, _)]) dX2_search_133 (by decide) rfl ?_
                  refine WP_aload_n dX2_search_135 rfl ?_
                  refine WP_getr dX2_search_136 fX2_12 rfl (lyx_is hy 43 2 rfl) (rfx hrI11846 43 3 44 (by decide)) ?_
                  refine WP_aload_n dX2_search_139 rfl ?_
                  refine WP_getr dX2_search_140 fX2_32 rfl (lyx_is hy 43 2 rfl) (rfx hrI11846 43 2 5 (by decide)) ?_
                  refine WP_iload_n dX2_search_143 rfl ?_
                  refine WP_iload dX2_search_144 rfl ?_
                  refine WP_callV3 (k := 6) dX2_search_146 ⟨⟨⟨by decide, by decide⟩, zX6_load⟩, lX2_42, by decide, rfl, vX6_load.1, vX6_load.2⟩ (lyx_is hy 44 6 rfl) (sx_loadx_44_6 hy hrI11846 hTI11846 hI11846 so v11907 (by omega) (by omega) (by omega) (by omega)) (Nat.le_of_ble_eq_true rfl) ?_
                  intro r I11908 J11909 Ra hq
                  obtain ⟨⟨hI11908, ec, fiI11908, ejI11908, pI11908⟩, rfl⟩ := hq
                  rw [ec]
                  clear ec Ra
                  have fr11910 : fz 74 g [43, 44, 47, 48] I I11908 := fz_tr fiI11846 (fz_mono fiI11908 (by decide))
                  rw [ejI11908]
                  clear ejI11908 J11909
                  have ldI11908 := LD_fr pI11908 (fz_at fiI11846 6 (by decide) (by decide)) (fz_at fiI11846 11 (by decide) (by decide)) (fz_at fiI11846 13 (by decide) (by decide)) (fz_at fiI11846 14 (by decide) (by decide)) (fz_at fiI11846 15 (by decide) (by decide)) (fz_at fiI11846 22 (by decide) (by decide))
                  have WI11908 := W11902
                  rw [← fz_at fiI11908 47 (by decide) (by decide)] at WI11908
                  have e11911 : I11908 (ad g 43) 1 = w11848 := by rw [fz_at fiI11908 43 (by decide) (by decide)]; exact ew11848
                  have e11912 : I11908 (ad g 43) 8 = w11849 := by rw [fz_at fiI11908 43 (by decide) (by decide)]; exact ew11849
                  have e11913 : I11908 (ad g 1) 1 = L := hI11908.2
                  have b11914 := BT_get hI11908.1 1 1 2 (0) (0) (900) (by decide) 1 (by decide) (by decide)
                  rw [e11913] at b11914
                  refine WP_aload_n dX2_search_149 rfl ?_
                  refine WP_aload_n dX2_search_150 rfl ?_
                  refine WP_iload dX2_search_151 rfl ?_
                  refine WQ_if_ne 160 dX2_search_153 rfl (fun c11914 => ?_) (fun c11914 => ?_)
                  · refine WP_aload_n dX2_search_160 rfl ?_
                    refine WP_getr dX2_search_161 fX2_32 rfl (lyx_is hy 43 2 rfl) (rfx hrI11846 43 2 5 (by decide)) ?_
                    refine WP_getr dX2_search_164 fX2_46 rfl (lyx_is hy 5 0 rfl) hTI11846 ?_
                    refine WP_getr dX2_search_167 fX2_52 rfl (lyx_is hy 6 7 rfl) (rfx hrI11846 6 10 12 (by decide)) ?_
                    refine WP_iload_n dX2_search_170 rfl ?_
                    refine WQ_bipush (7) (7) dX2_search_171 rfl rfl (fun v11916 hv11916 => ?_)
                    refine WQ_imulk (7) dX2_search_173 hv11916 (by omega) (by omega) (fun v11917 hv11917 => ?_)
                    refine WP_iload dX2_search_174 rfl ?_
                    refine WQ_iadd dX2_search_176 (by omega) (by omega) (fun v11918 hv11918 => ?_)
                    refine WQ_iald dX2_search_177 (lyx_is hy 12 13 rfl) (lyx_n hy 12 28 rfl) (by omega) (by omega) (fun q hq => BT_get hI11908.1 12 0 28 (0) (0) (20) (by decide) q (Nat.zero_le _) hq) (fun v11919 av11919 bv11919 ev11919 => ?_)
                    refine WP_iload_n dX2_search_178 rfl ?_
                    refine WP_iload dX2_search_179 rfl ?_
                    refine WP_iload dX2_search_181 rfl ?_
                    refine WP_callV4 (k := 2) dX2_search_183 ⟨⟨⟨by decide, by decide⟩, zX2_weighDay⟩, lX2_71, by decide, rfl, vX2_weighDay.1, vX2_weighDay.2⟩ (lyx_is hy 43 2 rfl) (sx_weighDayx_47_6 hy hrI11846 hTI11846 hI11908 v11919 so v11907 i11845 (by omega) (by omega) (by omega) (by omega) (by omega) (by omega) (by omega) (by omega) (K := 594 * ((nn.toInt - 1) - i11845.toInt)) (by omega) hl121 hn121 (by rw [fz_at fiI11908 43 (by decide) (by decide), ew11849]; omega) (by rw [fz_at fr11910 24 (by decide) (by decide), fz_at fr11910 25 (by decide) (by decide), fz_at fr11910 26 (by decide) (by decide)]; exact WD_of WI11908 FN11832 ldI11908 (by unfold EA; rw [if_neg (by omega), show I (ad g (6 + 6)) = I11908 (ad g 12) from (fz_at fr11910 12 (by decide) (by decide)).symm, ← cl (x := v11918) (n := (7 * so.toInt + v11907.toInt).toNat) (by omega), ev11919]) (by omega) (by omega) (by omega) (ldx_p hI (by decide) _ _ _ (by omega) (by omega) ldI11908 (by omega) (by omega)) (sbx_b hI) (cbx_b hI (by omega) (by omega)))) (Nat.le_of_ble_eq_true rfl) ?_
                    intro r I11920 J11921 Ra hq
                    obtain ⟨⟨hI11920, ec, fiI11920, ejI11920, pI11920⟩, v11922, rfl, av11922, bv11922, cv11922⟩ := hq
                    show WP _ _ _ _ (.int _ :: _) _ _ _ _
                    rw [ec]
                    clear ec Ra
                    have fr11923 : fz 74 g [43, 44, 47, 48] I I11920 := fz_tr fr11910 (fz_mono fiI11920 (by decide))
                    rw [ejI11920]
                    clear ejI11920 J11921
                    have e11924 : I11920 (ad g 12) v11918.toNatClampNeg = v11919 := by rw [fz_at fiI11920 12 (by decide) (by decide)]; exact ev11919
                    have e11925 : I11920 (ad g 1) 1 = L := hI11920.2
                    have b11926 := BT_get hI11920.1 1 1 2 (0) (0) (900) (by decide) 1 (by decide) (by decide)
                    rw [e11925] at b11926
                    obtain ⟨w11927, ew11927⟩ : ∃ w : Int32, I11920 (ad g 43) 1 = w := ⟨_, rfl⟩
                    have bw11927 := BT_get hI11920.1 43 1 2 (0) (0) (47) (by decide) 1 (by decide) (by decide)
                    rw [ew11927] at bw11927
                    have vsI11920 := pI11920.1
                    have fuI11920 := pI11920.2
                    rw [ew11927] at fuI11920
                    refine WQ_puti dX2_search_186 fX2_67 rfl rfl (lyx_is hy 43 2 rfl) (fun I11928 eI11928 => ?_)
                    have hI11928 : XI g n L I11928 := by rw [eI11928]; exact (xi_f0 hy hI11920 (c := 43) (by decide) (Or.inl (by decide)) (by decide))
                    have e11929 : I11928 (ad g 12) v11918.toNatClampNeg = v11919 := by rw [eI11928, pp_ne _ _ (Or.inl (lyx_ne hy (by decide) (by decide) (by decide)))]; exact e11924
                    have e11930 : I11928 (ad g 1) 1 = L := by rw [eI11928, pp_ne _ _ (Or.inl (lyx_ne hy (by decide) (by decide) (by decide)))]; exact e11925
                    have e11931 : I11928 (ad g 43) 1 = w11927 := by rw [eI11928, pp_ne _ _ (Or.inr (by decide))]; exact ew11927
                    have e11932 : I11928 (ad g 43) 8 = v11922 := by rw [eI11928, pp_self]
                    have fr11933 : fz 74 g [43, 44, 47, 48] I I11928 := by rw [eI11928]; exact fzx_pp hy fr11923 (by decide) (by decide)
                    have VI11928 := vsI11920
                    rw [show I11920 (ad g 48) = I11928 (ad g 48) by rw [eI11928, pp_off _ _ (lyx_ne hy (by decide) (by decide) (by decide))]] at VI11928
                    clear eI11928
                    refine WP_aload_n dX2_search_189 rfl ?_
                    refine WP_getr dX2_search_190 fX2_29 rfl (lyx_is hy 43 2 rfl) hl121 ?_
                    refine WP_astore (ls' := [(0, _), (1, _), (2, _), (3, _), (4, _), (5, _), (6, _), (7, _), (8, _)]) dX2_search_193 (by decide) rfl ?_
                    refine WP_aload_n dX2_search_195 rfl ?_
                    refine WP_aload_n dX2_search_196 rfl ?_
                    refine WP_getr dX2_search_197 fX2_25 rfl (lyx_is hy 43 2 rfl) hn121 ?_
                    refine WP_putr dX2_search_200 fX2_29 rfl rfl rfl rfl (lyx_is hy 43 2 rfl) ?_
                    obtain ⟨R11934, eR11934⟩ : ∃ R9 : pR, R9 = pp RI11846 (ad g 43) 7 (some (ad g 48)) := ⟨_, rfl⟩
                    rw [← eR11934]
                    have hrR11934 : RfX g R11934 := by rw [eR11934]; exact rfx_pp hy hrI11846 (by decide)
                    have hSR11934 : R11934 (ad g 0) 10 = R (ad g 0) 10 := by rw [eR11934, pp_ne _ _ (Or.inl (lyx_ne hy (by decide) (by decide) (by decide)))]; exact hSI11846
                    have hTR11934 : R11934 (ad g 5) 0 = some (ad g 6) := by rw [eR11934, pp_ne _ _ (Or.inl (lyx_ne hy (by decide) (by decide) (by decide)))]; exact hTI11846
                    have hOR11934 : R11934 (ad g 43) 6 = some (ad g 48) := by rw [eR11934, pp_ne _ _ (Or.inr (by decide))]; exact hn121
                    have hQR11934 : R11934 (ad g 43) 7 = some (ad g 48) := by rw [eR11934, pp_self]
                    clear eR11934
                    refine WP_aload_n dX2_search_203 rfl ?_
                    refine WP_aload dX2_search_204 rfl ?_
                    refine WP_putr dX2_search_206 fX2_25 rfl rfl rfl rfl (lyx_is hy 43 2 rfl) ?_
                    obtain ⟨R11935, eR11935⟩ : ∃ R9 : pR, R9 = pp R11934 (ad g 43) 6 (some (ad g 47)) := ⟨_, rfl⟩
                    rw [← eR11935]
                    have hrR11935 : RfX g R11935 := by rw [eR11935]; exact rfx_pp hy hrR11934 (by decide)
                    have hSR11935 : R11935 (ad g 0) 10 = R (ad g 0) 10 := by rw [eR11935, pp_ne _ _ (Or.inl (lyx_ne hy (by decide) (by decide) (by decide)))]; exact hSR11934
                    have hTR11935 : R11935 (ad g 5) 0 = some (ad g 6) := by rw [eR11935, pp_ne _ _ (Or.inl (lyx_ne hy (by decide) (by decide) (by decide)))]; exact hTR11934
                    have hOR11935 : R11935 (ad g 43) 7 = some (ad g 48) := by rw [eR11935, pp_ne _ _ (Or.inr (by decide))]; exact hQR11934
                    have hQR11935 : R11935 (ad g 43) 6 = some (ad g 47) := by rw [eR11935, pp_self]
                    clear eR11935
                    refine WP_iinc (ls' := [(0, _), (1, _), (2, _), (3, _), (4, _), (5, _), (6, _), (7, _), (8, _)]) dX2_search_209 rfl (by decide) rfl ?_
                    have hv11936 : (i11845 + Int32.ofInt (-1)).toInt = i11845.toInt + (-1) := ia_n rfl (by omega) (by omega)
                    generalize i11845 + Int32.ofInt (-1) = v11936 at hv11936 ⊢
                    refine WP_goto 121 dX2_search_212 rfl ?_
                    exact WP_sub (fc rfl (fc rfl (fc rfl (fc rfl (fc rfl (fc rfl (fc rfl fn))))))) (ihlp121_11849 v11936 I11928 R11935 hrR11935 hTR11935 hSR11935 (Or.inl ⟨hQR11935, hOR11935⟩) hI11928 fr11933 w11927 e11931 v11922 e11932 (by omega) (by omega) (by omega) (by omega) (by omega) (fun q hq he => by have e := adx_inj hy hq (by decide) (Option.some.inj (he.symm.trans hOR11935)); subst e; exact WB_V VI11928 (by omega) (by omega)) (Or.inl (by omega)) (by omega))
                  · refine WQ_iconst (0) (0) dX2_search_156 rfl rfl (fun v11937 hv11937 => ?_)
                    refine WP_goto 178 dX2_search_157 rfl ?_
                    refine WP_iload_n dX2_search_178 rfl ?_
                    refine WP_iload dX2_search_179 rfl ?_
                    refine WP_iload dX2_search_181 rfl ?_
                    refine WP_callV4 (k := 2) dX2_search_183 ⟨⟨⟨by decide, by decide⟩, zX2_weighDay⟩, lX2_71, by decide, rfl, vX2_weighDay.1, vX2_weighDay.2⟩ (lyx_is hy 43 2 rfl) (sx_weighDayx_47_6 hy hrI11846 hTI11846 hI11908 v11937 so v11907 i11845 (by omega) (by omega) (by omega) (by omega) (by omega) (by omega) (by omega) (by omega) (K := 594 * ((nn.toInt - 1) - i11845.toInt)) (by omega) hl121 hn121 (by rw [fz_at fiI11908 43 (by decide) (by decide), ew11849]; omega) (by rw [fz_at fr11910 24 (by decide) (by decide), fz_at fr11910 25 (by decide) (by decide), fz_at fr11910 26 (by decide) (by decide)]; exact WD_of WI11908 FN11832 ldI11908 (by unfold EA; rw [if_pos (by omega)]; omega) (by omega) (by omega) (by omega) (ldx_p hI (by decide) _ _ _ (by omega) (by omega) ldI11908 (by omega) (by omega)) (sbx_b hI) (cbx_b hI (by omega) (by omega)))) (Nat.le_of_ble_eq_true rfl) ?_
                    intro r I11938 J11939 Ra hq
                    obtain ⟨⟨hI11938, ec, fiI11938, ejI11938, pI11938⟩, v11940, rfl, av11940, bv11940, cv11940⟩ := hq
                    show WP _ _ _ _ (.int _ :: _) _ _ _ _
                    rw [ec]
                    clear ec Ra
                    have fr11941 : fz 74 g [43, 44, 47, 48] I I11938 := fz_tr fr11910 (fz_mono fiI11938 (by decide))
                    rw [ejI11938]
                    clear ejI11938 J11939
                    have e11942 : I11938 (ad g 1) 1 = L := hI11938.2
                    have b11943 := BT_get hI11938.1 1 1 2 (0) (0) (900) (by decide) 1 (by decide) (by decide)
                    rw [e11942] at b11943
                    obtain ⟨w11944, ew11944⟩ : ∃ w : Int32, I11938 (ad g 43) 1 = w := ⟨_, rfl⟩
                    have bw11944 := BT_get hI11938.1 43 1 2 (0) (0) (47) (by decide) 1 (by decide) (by decide)
                    rw [ew11944] at bw11944
                    have vsI11938 := pI11938.1
                    have fuI11938 := pI11938.2
                    rw [ew11944] at fuI11938
                    refine WQ_puti dX2_search_186 fX2_67 rfl rfl (lyx_is hy 43 2 rfl) (fun I11945 eI11945 => ?_)
                    have hI11945 : XI g n L I11945 := by rw [eI11945]; exact (xi_f0 hy hI11938 (c := 43) (by decide) (Or.inl (by decide)) (by decide))
                    have e11946 : I11945 (ad g 1) 1 = L := by rw [eI11945, pp_ne _ _ (Or.inl (lyx_ne hy (by decide) (by decide) (by decide)))]; exact e11942
                    have e11947 : I11945 (ad g 43) 1 = w11944 := by rw [eI11945, pp_ne _ _ (Or.inr (by decide))]; exact ew11944
                    have e11948 : I11945 (ad g 43) 8 = v11940 := by rw [eI11945, pp_self]
                    have fr11949 : fz 74 g [43, 44, 47, 48] I I11945 := by rw [eI11945]; exact fzx_pp hy fr11941 (by decide) (by decide)
                    have VI11945 := vsI11938
                    rw [show I11938 (ad g 48) = I11945 (ad g 48) by rw [eI11945, pp_off _ _ (lyx_ne hy (by decide) (by decide) (by decide))]] at VI11945
                    clear eI11945
                    refine WP_aload_n dX2_search_189 rfl ?_
                    refine WP_getr dX2_search_190 fX2_29 rfl (lyx_is hy 43 2 rfl) hl121 ?_
                    refine WP_astore (ls' := [(0, _), (1, _), (2, _), (3, _), (4, _), (5, _), (6, _), (7, _), (8, _)]) dX2_search_193 (by decide) rfl ?_
                    refine WP_aload_n dX2_search_195 rfl ?_
                    refine WP_aload_n dX2_search_196 rfl ?_
                    refine WP_getr dX2_search_197 fX2_25 rfl (lyx_is hy 43 2 rfl) hn121 ?_
                    refine WP_putr dX2_search_200 fX2_29 rfl rfl rfl rfl (lyx_is hy 43 2 rfl) ?_
                    obtain ⟨R11950, eR11950⟩ : ∃ R9 : pR, R9 = pp RI11846 (ad g 43) 7 (some (ad g 48)) := ⟨_, rfl⟩
                    rw [← eR11950]
                    have hrR11950 : RfX g R11950 := by rw [eR11950]; exact rfx_pp hy hrI11846 (by decide)
                    have hSR11950 : R11950 (ad g 0) 10 = R (ad g 0) 10 := by rw [eR11950, pp_ne _ _ (Or.inl (lyx_ne hy (by decide) (by decide) (by decide)))]; exact hSI11846
                    have hTR11950 : R11950 (ad g 5) 0 = some (ad g 6) := by rw [eR11950, pp_ne _ _ (Or.inl (lyx_ne hy (by decide) (by decide) (by decide)))]; exact hTI11846
                    have hOR11950 : R11950 (ad g 43) 6 = some (ad g 48) := by rw [eR11950, pp_ne _ _ (Or.inr (by decide))]; exact hn121
                    have hQR11950 : R11950 (ad g 43) 7 = some (ad g 48) := by rw [eR11950, pp_self]
                    clear eR11950
                    refine WP_aload_n dX2_search_203 rfl ?_
                    refine WP_aload dX2_search_204 rfl ?_
                    refine WP_putr dX2_search_206 fX2_25 rfl rfl rfl rfl (lyx_is hy 43 2 rfl) ?_
                    obtain ⟨R11951, eR11951⟩ : ∃ R9 : pR, R9 = pp R11950 (ad g 43) 6 (some (ad g 47)) := ⟨_, rfl⟩
                    rw [← eR11951]
                    have hrR11951 : RfX g R11951 := by rw [eR11951]; exact rfx_pp hy hrR11950 (by decide)
                    have hSR11951 : R11951 (ad g 0) 10 = R (ad g 0) 10 := by rw [eR11951, pp_ne _ _ (Or.inl (lyx_ne hy (by decide) (by decide) (by decide)))]; exact hSR11950
                    have hTR11951 : R11951 (ad g 5) 0 = some (ad g 6) := by rw [eR11951, pp_ne _ _ (Or.inl (lyx_ne hy (by decide) (by decide) (by decide)))]; exact hTR11950
                    have hOR11951 : R11951 (ad g 43) 7 = some (ad g 48) := by rw [eR11951, pp_ne _ _ (Or.inr (by decide))]; exact hQR11950
                    have hQR11951 : R11951 (ad g 43) 6 = some (ad g 47) := by rw [eR11951, pp_self]
                    clear eR11951
                    refine WP_iinc (ls' := [(0, _), (1, _), (2, _), (3, _), (4, _), (5, _), (6, _), (7, _), (8, _)]) dX2_search_209 rfl (by decide) rfl ?_
                    have hv11952 : (i11845 + Int32.ofInt (-1)).toInt = i11845.toInt + (-1) := ia_n rfl (by omega) (by omega)
                    generalize i11845 + Int32.ofInt (-1) = v11952 at hv11952 ⊢
                    refine WP_goto 121 dX2_search_212 rfl ?_
                    exact WP_sub (fc rfl (fc rfl (fc rfl (fc rfl (fc rfl (fc rfl (fc rfl fn))))))) (ihlp121_11849 v11952 I11945 R11951 hrR11951 hTR11951 hSR11951 (Or.inl ⟨hQR11951, hOR11951⟩) hI11945 fr11949 w11944 e11947 v11940 e11948 (by omega) (by omega) (by omega) (by omega) (by omega) (fun q hq he => by have e := adx_inj hy hq (by decide) (Option.some.inj (he.symm.trans hOR11951)); subst e; exact WB_V VI11945 (by omega) (by omega)) (Or.inr ⟨_, by rw [show da.toInt = v11907.toInt by omega]; exact ldI11908, FU_end (by have z := fuI11938; rw [show i11845.toInt = (0 : Int) by omega] at z; exact z) PZ_I11824_11825 (by omega) (by omega) (by omega)⟩) (by omega))
          obtain ⟨w11953, ew11953⟩ : ∃ w : Int32, I11839 (ad g 43) 1 = w := ⟨_, rfl⟩
          have bw11953 := BT_get hI11839.1 43 1 2 (0) (0) (47) (by decide) 1 (by decide) (by decide)
          rw [ew11953] at bw11953
          exact WP_sub (fc rfl (fc rfl (fc rfl (fc rfl (fc rfl (fc rfl (fc rfl fn))))))) (lp121_11849 _ v11844 I11839 RI11824 hrI11824 hTI11824 hSI11824 (Or.inl ⟨hn102, hl102⟩) hI11839 fr11842 w11953 ew11953 v11838 e11841 (by omega) (by omega) (by omega) (by omega) (by omega) (fun q hq he => by have e := adx_inj hy hq (by decide) (Option.some.inj (he.symm.trans hl102)); subst e; exact (by rw [show v11844.toInt = (nn.toInt - 1) by omega]; exact WI11839)) (Or.inl (by omega)) (Nat.lt_succ_self _))
        · have FN11953 : FWD g 6 I (J11825 (ad g 45)) so.toInt da.toInt (nn.toInt - 1) := by rw [show (nn.toInt - 1) = i11823.toInt by omega]; exact PF_I11824_11825
          refine WP_aload_n dX2_search_102 rfl ?_
          refine WP_getr dX2_search_103 fX2_29 rfl (lyx_is hy 43 2 rfl) hl102 ?_
          refine WQ_iconst (0) (0) dX2_search_106 rfl rfl (fun v11955 hv11955 => ?_)
          refine WP_callS2u dX2_search_107 ⟨⟨⟨by decide, by decide⟩, zJ7_fill_53178⟩, lX2_64, tJ7_fill_53178⟩ (s_fill hy hrI11824 47 366 rfl rfl (by decide) v11955) (Nat.le_of_ble_eq_true rfl) ?_
          obtain ⟨I11956, eI11956⟩ : ∃ I9 : pI, I9 = fi I11824 (ad g 47) 366 v11955 := ⟨_, rfl⟩
          rw [← eI11956]
          have hI11956 : XI g n L I11956 := by rw [eI11956]; exact (xi_fill0 hy hI11824 47 366 v11955 (by decide) (by decide))
          have e11957 : I11956 (ad g 1) 1 = L := by rw [eI11956, fi_off (lyx_ne hy (by decide) (by decide) (by decide))]; exact e11828
          have fr11958 : fz 74 g [43, 44, 47, 48] I I11956 := by rw [eI11956]; exact fzx_fi hy fiI11824 (by decide) (by decide)
          have WI11956 : WB (J11825 (ad g 45)) (I11956 (ad g 47)) (nn.toInt - 1) (nn.toInt - 1) := WB_0 eI11956 hv11955
          clear eI11956
          refine WP_aload_n dX2_search_110 rfl ?_
          refine WQ_iconst (0) (0) dX2_search_111 rfl rfl (fun v11959 hv11959 => ?_)
          refine WQ_puti dX2_search_112 fX2_67 rfl rfl (lyx_is hy 43 2 rfl) (fun I11960 eI11960 => ?_)
          have hI11960 : XI g n L I11960 := by rw [eI11960]; exact (xi_f0 hy hI11956 (c := 43) (by decide) (Or.inl (by decide)) (by decide))
          have e11961 : I11960 (ad g 1) 1 = L := by rw [eI11960, pp_ne _ _ (Or.inl (lyx_ne hy (by decide) (by decide) (by decide)))]; exact e11957
          have e11962 : I11960 (ad g 43) 8 = v11959 := by rw [eI11960, pp_self]
          have fr11963 : fz 74 g [43, 44, 47, 48] I I11960 := by rw [eI11960]; exact fzx_pp hy fr11958 (by decide) (by decide)
          have WI11960 : WB (J11825 (ad g 45)) (I11960 (ad g 47)) (nn.toInt - 1) (nn.toInt - 1) := by rw [eI11960, pp_off _ _ (lyx_ne hy (by decide) (by decide) (by decide))]; exact WI11956
          clear eI11960
          refine WP_iload dX2_search_115 rfl ?_
          refine WQ_iconst (1) (1) dX2_search_117 rfl rfl (fun v11964 hv11964 => ?_)
          refine WQ_isub dX2_search_118 (by omega) (by omega) (fun v11965 hv11965 => ?_)
          refine WP_istore (ls' := [(0, _), (1, _), (2, _), (3, _), (4, _), (5, _), (6, _)]) dX2_search_119 (by decide) rfl ?_
          have lp121_11970 : ∀ (mz : Nat) (i11966 : Int32) (I11967 : pI) (RI11967 : pR), RfX g RI11967 → RI11967 (ad g 5) 0 = some (ad g 6) → RI11967 (ad g 0) 10 = R (ad g 0) 10 → NL g RI11967 → XI g n L I11967 → fz 74 g [43, 44, 47, 48] I I11967 → ∀ (w11969 : Int32), I11967 (ad g 43) 1 = w11969 → ∀ (w11970 : Int32), I11967 (ad g 43) 8 = w11970 → -1 ≤ i11966.toInt → i11966.toInt ≤ 27 → i11966.toInt ≤ nn.toInt - 1 → 0 ≤ w11970.toInt → w11970.toInt ≤ 594 * (nn.toInt - 1 - i11966.toInt) → (∀ q : Nat, q < 74 → RI11967 (ad g 43) 7 = some (ad g q) → WB (J11825 (ad g 45)) (I11967 (ad g q)) (nn.toInt - 1) i11966.toInt) → (0 ≤ i11966.toInt ∨ ∃ T : Nat → Int32, LD g 6 I so.toInt da.toInt T ∧ AOKd T co.toInt st.toInt w11969.toInt) → (i11966.toInt + 1).toNat < mz → WP g mX2_search 121 [(0, .ref (ad g 43)), (1, .int so), (2, .int da), (3, .int co), (4, .int st), (5, .int nn), (6, .int i11966)] [] I11967 J11825 RI11967 (fun r I' J' R' => (XI g n L I' ∧ (RfX g R' ∧ (R' (ad g 5) 0 = R (ad g 5) 0 ∧ R' (ad g 0) 10 = R (ad g 0) 10) ∧ NL g R') ∧ fz 74 g [43, 44, 47, 48] I I' ∧ fz 74 g [45, 46] J J') ∧ ∃ v : Int32, r = some (.int v) ∧ 0 ≤ v.toInt ∧ v.toInt ≤ 47 ∧ (∃ T : Nat → Int32, LD g 6 I so.toInt da.toInt T ∧ AOKd T co.toInt st.toInt v.toInt)) := by
            intro mz
            induction mz with
            | zero =>
              intro i11966 I11967 RI11967 hrI11967 hTI11967 hSI11967 hPI11967 hI11967 fiI11967 w11969 ew11969 w11970 ew11970 ai11966 bi11966 j0_I11967_11967 j1_I11967_11967 j2_I11967_11967 PW_I11967_11967 PQ_I11967_11967 hmlp121_11970
              exact absurd hmlp121_11970 (Nat.not_lt_zero _)
            | succ mz ihlp121_11970 =>
              intro i11966 I11967 RI11967 hrI11967 hTI11967 hSI11967 hPI11967 hI11967 fiI11967 w11969 ew11969 w11970 ew11970 ai11966 bi11966 j0_I11967_11967 j1_I11967_11967 j2_I11967_11967 PW_I11967_11967 PQ_I11967_11967 hmlp121_11970
              have bw11969 := BT_get hI11967.1 43 1 2 (0) (0) (47) (by decide) 1 (by decide) (by decide)
              rw [ew11969] at bw11969
              have e11972 : I11967 (ad g 1) 1 = L := hI11967.2
              have b11973 := BT_get hI11967.1 1 1 2 (0) (0) (900) (by decide) 1 (by decide) (by decide)
              rw [e11972] at b11973
              rcases hPI11967 with ⟨hn121, hl121⟩ | ⟨hn121, hl121⟩
              · have W11973 := PW_I11967_11967 48 (by decide) hl121
                refine WP_iload dX2_search_121 rfl ?_
                refine WQ_if_lt 215 dX2_search_123 rfl (fun c11974 => ?_) (fun c11974 => ?_)
                · refine WP_aload_n dX2_search_215 rfl ?_
                  refine WQ_getim dX2_search_216 fX2_75 rfl (lyx_is hy 43 2 rfl) ew11969 ?_
                  exact WP_iret dX2_search_219 rfl ⟨⟨hI11967, ⟨hrI11967, ⟨hTI11967.trans hT.symm, hSI11967⟩, (Or.inl ⟨hn121, hl121⟩)⟩, fiI11967, fjJ11825⟩, _, rfl, by omega, by omega, (PQ_I11967_11967.resolve_left (by omega))⟩
                · refine WP_iload_n dX2_search_126 rfl ?_
                  refine WP_iload dX2_search_127 rfl ?_
                  refine WQ_iadd dX2_search_129 (by omega) (by omega) (fun v11976 hv11976 => ?_)
                  refine WQ_bipush (7) (7) dX2_search_130 rfl rfl (fun v11977 hv11977 => ?_)
                  refine WQ_iremk (7) dX2_search_132 hv11977 (by decide) (by omega) (fun v11978 hv11978 => ?_)
                  refine WP_istore (ls' := [(0, _), (1, _), (2, _), (3, _), (4, _), (5, _), (6, _), (7, _)]) dX2_search_133 (by decide) rfl ?_
                  refine WP_aload_n dX2_search_135 rfl ?_
                  refine WP_getr dX2_search_136 fX2_12 rfl (lyx_is hy 43 2 rfl) (rfx hrI11967 43 3 44 (by decide)) ?_
                  refine WP_aload_n dX2_search_139 rfl ?_
                  refine WP_getr dX2_search_140 fX2_32 rfl (lyx_is hy 43 2 rfl) (rfx hrI11967 43 2 5 (by decide)) ?_
                  refine WP_iload_n dX2_search_143 rfl ?_
                  refine WP_iload dX2_search_144 rfl ?_
                  refine WP_callV3 (k := 6) dX2_search_146 ⟨⟨⟨by decide, by decide⟩, zX6_load⟩, lX2_42, by decide, rfl, vX6_load.1, vX6_load.2⟩ (lyx_is hy 44 6 rfl) (sx_loadx_44_6 hy hrI11967 hTI11967 hI11967 so v11978 (by omega) (by omega) (by omega) (by omega)) (Nat.le_of_ble_eq_true rfl) ?_
                  intro r I11979 J11980 Ra hq
                  obtain ⟨⟨hI11979, ec, fiI11979, ejI11979, pI11979⟩, rfl⟩ := hq
                  rw [ec]
                  clear ec Ra
                  have fr11981 : fz 74 g [43, 44, 47, 48] I I11979 := fz_tr fiI11967 (fz_mono fiI11979 (by decide))
                  rw [ejI11979]
                  clear ejI11979 J11980
                  have ldI11979 := LD_fr pI11979 (fz_at fiI11967 6 (by decide) (by decide)) (fz_at fiI11967 11 (by decide) (by decide)) (fz_at fiI11967 13 (by decide) (by decide)) (fz_at fiI11967 14 (by decide) (by decide)) (fz_at fiI11967 15 (by decide) (by decide)) (fz_at fiI11967 22 (by decide) (by decide))
                  have WI11979 := W11973
                  rw [← fz_at fiI11979 48 (by decide) (by decide)] at WI11979
                  have e11982 : I11979 (ad g 43) 1 = w11969 := by rw [fz_at fiI11979 43 (by decide) (by decide)]; exact ew11969
                  have e11983 : I11979 (ad g 43) 8 = w11970 := by rw [fz_at fiI11979 43 (by decide) (by decide)]; exact ew11970
                  have e11984 : I11979 (ad g 1) 1 = L := hI11979.2
                  have b11985 := BT_get hI11979.1 1 1 2 (0) (0) (900) (by decide) 1 (by decide) (by decide)
                  rw [e11984] at b11985
                  refine WP_aload_n dX2_search_149 rfl ?_
                  refine WP_aload_n dX2_search_150 rfl ?_
                  refine WP_iload dX2_search_151 rfl ?_
                  refine WQ_if_ne 160 dX2_search_153 rfl (fun c11985 => ?_) (fun c11985 => ?_)
                  · refine WP_aload_n dX2_search_160 rfl ?_
                    refine WP_getr dX2_search_161 fX2_32 rfl (lyx_is hy 43 2 rfl) (rfx hrI11967 43 2 5 (by decide)) ?_
                    refine WP_getr dX2_search_164 fX2_46 rfl (lyx_is hy 5 0 rfl) hTI11967 ?_
                    refine WP_getr dX2_search_167 fX2_52 rfl (lyx_is hy 6 7 rfl) (rfx hrI11967 6 10 12 (by decide)) ?_
                    refine WP_iload_n dX2_search_170 rfl ?_
                    refine WQ_bipush (7) (7) dX2_search_171 rfl rfl (fun v11987 hv11987 => ?_)
                    refine WQ_imulk (7) dX2_search_173 hv11987 (by omega) (by omega) (fun v11988 hv11988 => ?_)
                    refine WP_iload dX2_search_174 rfl ?_
                    refine WQ_iadd dX2_search_176 (by omega) (by omega) (fun v11989 hv11989 => ?_)
                    refine WQ_iald dX2_search_177 (lyx_is hy 12 13 rfl) (lyx_n hy 12 28 rfl) (by omega) (by omega) (fun q hq => BT_get hI11979.1 12 0 28 (0) (0) (20) (by decide) q (Nat.zero_le _) hq) (fun v11990 av11990 bv11990 ev11990 => ?_)
                    refine WP_iload_n dX2_search_178 rfl ?_
                    refine WP_iload dX2_search_179 rfl ?_
                    refine WP_iload dX2_search_181 rfl ?_
                    refine WP_callV4 (k := 2) dX2_search_183 ⟨⟨⟨by decide, by decide⟩, zX2_weighDay⟩, lX2_71, by decide, rfl, vX2_weighDay.1, vX2_weighDay.2⟩ (lyx_is hy 43 2 rfl) (sx_weighDayx_48_6 hy hrI11967 hTI11967 hI11979 v11990 so v11978 i11966 (by omega) (by omega) (by omega) (by omega) (by omega) (by omega) (by omega) (by omega) (K := 594 * ((nn.toInt - 1) - i11966.toInt)) (by omega) hl121 hn121 (by rw [fz_at fiI11979 43 (by decide) (by decide), ew11970]; omega) (by rw [fz_at fr11981 24 (by decide) (by decide), fz_at fr11981 25 (by decide) (by decide), fz_at fr11981 26 (by decide) (by decide)]; exact WD_of WI11979 FN11953 ldI11979 (by unfold EA; rw [if_neg (by omega), show I (ad g (6 + 6)) = I11979 (ad g 12) from (fz_at fr11981 12 (by decide) (by decide)).symm, ← cl (x := v11989) (n := (7 * so.toInt + v11978.toInt).toNat) (by omega), ev11990]) (by omega) (by omega) (by omega) (ldx_p hI (by decide) _ _ _ (by omega) (by omega) ldI11979 (by omega) (by omega)) (sbx_b hI) (cbx_b hI (by omega) (by omega)))) (Nat.le_of_ble_eq_true rfl) ?_
                    intro r I11991 J11992 Ra hq
                    obtain ⟨⟨hI11991, ec, fiI11991, ejI11991, pI11991⟩, v11993, rfl, av11993, bv11993, cv11993⟩ := hq
                    show WP _ _ _ _ (.int _ :: _) _ _ _ _
                    rw [ec]
                    clear ec Ra
                    have fr11994 : fz 74 g [43, 44, 47, 48] I I11991 := fz_tr fr11981 (fz_mono fiI11991 (by decide))
                    rw [ejI11991]
                    clear ejI11991 J11992
                    have e11995 : I11991 (ad g 12) v11989.toNatClampNeg = v11990 := by rw [fz_at fiI11991 12 (by decide) (by decide)]; exact ev11990
                    have e11996 : I11991 (ad g 1) 1 = L := hI11991.2
                    have b11997 := BT_get hI11991.1 1 1 2 (0) (0) (900) (by decide) 1 (by decide) (by decide)
                    rw [e11996] at b11997
                    obtain ⟨w11998, ew11998⟩ : ∃ w : Int32, I11991 (ad g 43) 1 = w := ⟨_, rfl⟩
                    have bw11998 := BT_get hI11991.1 43 1 2 (0) (0) (47) (by decide) 1 (by decide) (by decide)
                    rw [ew11998] at bw11998
                    have vsI11991 := pI11991.1
                    have fuI11991 := pI11991.2
                    rw [ew11998] at fuI11991
                    refine WQ_puti dX2_search_186 fX2_67 rfl rfl (lyx_is hy 43 2 rfl) (fun I11999 eI11999 => ?_)
                    have hI11999 : XI g n L I11999 := by rw [eI11999]; exact (xi_f0 hy hI11991 (c := 43) (by decide) (Or.inl (by decide)) (by decide))
                    have e12000 : I11999 (ad g 12) v11989.toNatClampNeg = v11990 := by rw [eI11999, pp_ne _ _ (Or.inl (lyx_ne hy (by decide) (by decide) (by decide)))]; exact e11995
                    have e12001 : I11999 (ad g 1) 1 = L := by rw [eI11999, pp_ne _ _ (Or.inl (lyx_ne hy (by decide) (by decide) (by decide)))]; exact e11996
                    have e12002 : I11999 (ad g 43) 1 = w11998 := by rw [eI11999, pp_ne _ _ (Or.inr (by decide))]; exact ew11998
                    have e12003 : I11999 (ad g 43) 8 = v11993 := by rw [eI11999, pp_self]
                    have fr12004 : fz 74 g [43, 44, 47, 48] I I11999 := by rw [eI11999]; exact fzx_pp hy fr11994 (by decide) (by decide)
                    have VI11999 := vsI11991
                    rw [show I11991 (ad g 47) = I11999 (ad g 47) by rw [eI11999, pp_off _ _ (lyx_ne hy (by decide) (by decide) (by decide))]] at VI11999
                    clear eI11999
                    refine WP_aload_n dX2_search_189 rfl ?_
                    refine WP_getr dX2_search_190 fX2_29 rfl (lyx_is hy 43 2 rfl) hl121 ?_
                    refine WP_astore (ls' := [(0, _), (1, _), (2, _), (3, _), (4, _), (5, _), (6, _), (7, _), (8, _)]) dX2_search_193 (by decide) rfl ?_
                    refine WP_aload_n dX2_search_195 rfl ?_
                    refine WP_aload_n dX2_search_196 rfl ?_
                    refine WP_getr dX2_search_197 fX2_25 rfl (lyx_is hy 43 2 rfl) hn121 ?_
                    refine WP_putr dX2_search_200 fX2_29 rfl rfl rfl rfl (lyx_is hy 43 2 rfl) ?_
                    obtain ⟨R12005, eR12005⟩ : ∃ R9 : pR, R9 = pp RI11967 (ad g 43) 7 (some (ad g 47)) := ⟨_, rfl⟩
                    rw [← eR12005]
                    have hrR12005 : RfX g R12005 := by rw [eR12005]; exact rfx_pp hy hrI11967 (by decide)
                    have hSR12005 : R12005 (ad g 0) 10 = R (ad g 0) 10 := by rw [eR12005, pp_ne _ _ (Or.inl (lyx_ne hy (by decide) (by decide) (by decide)))]; exact hSI11967
                    have hTR12005 : R12005 (ad g 5) 0 = some (ad g 6) := by rw [eR12005, pp_ne _ _ (Or.inl (lyx_ne hy (by decide) (by decide) (by decide)))]; exact hTI11967
                    have hOR12005 : R12005 (ad g 43) 6 = some (ad g 47) := by rw [eR12005, pp_ne _ _ (Or.inr (by decide))]; exact hn121
                    have hQR12005 : R12005 (ad g 43) 7 = some (ad g 47) := by rw [eR12005, pp_self]
                    clear eR12005
                    refine WP_aload_n dX2_search_203 rfl ?_
                    refine WP_aload dX2_search_204 rfl ?_
                    refine WP_putr dX2_search_206 fX2_25 rfl rfl rfl rfl (lyx_is hy 43 2 rfl) ?_
                    obtain ⟨R12006, eR12006⟩ : ∃ R9 : pR, R9 = pp R12005 (ad g 43) 6 (some (ad g 48)) := ⟨_, rfl⟩
                    rw [← eR12006]
                    have hrR12006 : RfX g R12006 := by rw [eR12006]; exact rfx_pp hy hrR12005 (by decide)
                    have hSR12006 : R12006 (ad g 0) 10 = R (ad g 0) 10 := by rw [eR12006, pp_ne _ _ (Or.inl (lyx_ne hy (by decide) (by decide) (by decide)))]; exact hSR12005
                    have hTR12006 : R12006 (ad g 5) 0 = some (ad g 6) := by rw [eR12006, pp_ne _ _ (Or.inl (lyx_ne hy (by decide) (by decide) (by decide)))]; exact hTR12005
                    have hOR12006 : R12006 (ad g 43) 7 = some (ad g 47) := by rw [eR12006, pp_ne _ _ (Or.inr (by decide))]; exact hQR12005
                    have hQR12006 : R12006 (ad g 43) 6 = some (ad g 48) := by rw [eR12006, pp_self]
                    clear eR12006
                    refine WP_iinc (ls' := [(0, _), (1, _), (2, _), (3, _), (4, _), (5, _), (6, _), (7, _), (8, _)]) dX2_search_209 rfl (by decide) rfl ?_
                    have hv12007 : (i11966 + Int32.ofInt (-1)).toInt = i11966.toInt + (-1) := ia_n rfl (by omega) (by omega)
                    generalize i11966 + Int32.ofInt (-1) = v12007 at hv12007 ⊢
                    refine WP_goto 121 dX2_search_212 rfl ?_
                    exact WP_sub (fc rfl (fc rfl (fc rfl (fc rfl (fc rfl (fc rfl (fc rfl fn))))))) (ihlp121_11970 v12007 I11999 R12006 hrR12006 hTR12006 hSR12006 (Or.inr ⟨hQR12006, hOR12006⟩) hI11999 fr12004 w11998 e12002 v11993 e12003 (by omega) (by omega) (by omega) (by omega) (by omega) (fun q hq he => by have e := adx_inj hy hq (by decide) (Option.some.inj (he.symm.trans hOR12006)); subst e; exact WB_V VI11999 (by omega) (by omega)) (Or.inl (by omega)) (by omega))
                  · refine WQ_iconst (0) (0) dX2_search_156 rfl rfl (fun v12008 hv12008 => ?_)
                    refine WP_goto 178 dX2_search_157 rfl ?_
                    refine WP_iload_n dX2_search_178 rfl ?_
                    refine WP_iload dX2_search_179 rfl ?_
                    refine WP_iload dX2_search_181 rfl ?_
                    refine WP_callV4 (k := 2) dX2_search_183 ⟨⟨⟨by decide, by decide⟩, zX2_weighDay⟩, lX2_71, by decide, rfl, vX2_weighDay.1, vX2_weighDay.2⟩ (lyx_is hy 43 2 rfl) (sx_weighDayx_48_6 hy hrI11967 hTI11967 hI11979 v12008 so v11978 i11966 (by omega) (by omega) (by omega) (by omega) (by omega) (by omega) (by omega) (by omega) (K := 594 * ((nn.toInt - 1) - i11966.toInt)) (by omega) hl121 hn121 (by rw [fz_at fiI11979 43 (by decide) (by decide), ew11970]; omega) (by rw [fz_at fr11981 24 (by decide) (by decide), fz_at fr11981 25 (by decide) (by decide), fz_at fr11981 26 (by decide) (by decide)]; exact WD_of WI11979 FN11953 ldI11979 (by unfold EA; rw [if_pos (by omega)]; omega) (by omega) (by omega) (by omega) (ldx_p hI (by decide) _ _ _ (by omega) (by omega) ldI11979 (by omega) (by omega)) (sbx_b hI) (cbx_b hI (by omega) (by omega)))) (Nat.le_of_ble_eq_true rfl) ?_
                    intro r I12009 J12010 Ra hq
                    obtain ⟨⟨hI12009, ec, fiI12009, ejI12009, pI12009⟩, v12011, rfl, av12011, bv12011, cv12011⟩ := hq
                    show WP _ _ _ _ (.int _ :: _) _ _ _ _
                    rw [ec]
                    clear ec Ra
                    have fr12012 : fz 74 g [43, 44, 47, 48] I I12009 := fz_tr fr11981 (fz_mono fiI12009 (by decide))
                    rw [ejI12009]
                    clear ejI12009 J12010
                    have e12013 : I12009 (ad g 1) 1 = L := hI12009.2
                    have b12014 := BT_get hI12009.1 1 1 2 (0) (0) (900) (by decide) 1 (by decide) (by decide)
                    rw [e12013] at b12014
                    obtain ⟨w12015, ew12015⟩ : ∃ w : Int32, I12009 (ad g 43) 1 = w := ⟨_, rfl⟩
                    have bw12015 := BT_get hI12009.1 43 1 2 (0) (0) (47) (by decide) 1 (by decide) (by decide)
                    rw [ew12015] at bw12015
                    have vsI12009 := pI12009.1
                    have fuI12009 := pI12009.2
                    rw [ew12015] at fuI12009
                    refine WQ_puti dX2_search_186 fX2_67 rfl rfl (lyx_is hy 43 2 rfl) (fun I12016 eI12016 => ?_)
                    have hI12016 : XI g n L I12016 := by rw [eI12016]; exact (xi_f0 hy hI12009 (c := 43) (by decide) (Or.inl (by decide)) (by decide))
                    have e12017 : I12016 (ad g 1) 1 = L := by rw [eI12016, pp_ne _ _ (Or.inl (lyx_ne hy (by decide) (by decide) (by decide)))]; exact e12013
                    have e12018 : I12016 (ad g 43) 1 = w12015 := by rw [eI12016, pp_ne _ _ (Or.inr (by decide))]; exact ew12015
                    have e12019 : I12016 (ad g 43) 8 = v12011 := by rw [eI12016, pp_self]
                    have fr12020 : fz 74 g [43, 44, 47, 48] I I12016 := by rw [eI12016]; exact fzx_pp hy fr12012 (by decide) (by decide)
                    have VI12016 := vsI12009
                    rw [show I12009 (ad g 47) = I12016 (ad g 47) by rw [eI12016, pp_off _ _ (lyx_ne hy (by decide) (by decide) (by decide))]] at VI12016
                    clear eI12016
                    refine WP_aload_n dX2_search_189 rfl ?_
                    refine WP_getr dX2_search_190 fX2_29 rfl (lyx_is hy 43 2 rfl) hl121 ?_
                    refine WP_astore (ls' := [(0, _), (1, _), (2, _), (3, _), (4, _), (5, _), (6, _), (7, _), (8, _)]) dX2_search_193 (by decide) rfl ?_
                    refine WP_aload_n dX2_search_195 rfl ?_
                    refine WP_aload_n dX2_search_196 rfl ?_
                    refine WP_getr dX2_search_197 fX2_25 rfl (lyx_is hy 43 2 rfl) hn121 ?_
                    refine WP_putr dX2_search_200 fX2_29 rfl rfl rfl rfl (lyx_is hy 43 2 rfl) ?_
                    obtain ⟨R12021, eR12021⟩ : ∃ R9 : pR, R9 = pp RI11967 (ad g 43) 7 (some (ad g 47)) := ⟨_, rfl⟩
                    rw [← eR12021]
                    have hrR12021 : RfX g R12021 := by rw [eR12021]; exact rfx_pp hy hrI11967 (by decide)
                    have hSR12021 : R12021 (ad g 0) 10 = R (ad g 0) 10 := by rw [eR12021, pp_ne _ _ (Or.inl (lyx_ne hy (by decide) (by decide) (by decide)))]; exact hSI11967
                    have hTR12021 : R12021 (ad g 5) 0 = some (ad g 6) := by rw [eR12021, pp_ne _ _ (Or.inl (lyx_ne hy (by decide) (by decide) (by decide)))]; exact hTI11967
                    have hOR12021 : R12021 (ad g 43) 6 = some (ad g 47) := by rw [eR12021, pp_ne _ _ (Or.inr (by decide))]; exact hn121
                    have hQR12021 : R12021 (ad g 43) 7 = some (ad g 47) := by rw [eR12021, pp_self]
                    clear eR12021
                    refine WP_aload_n dX2_search_203 rfl ?_
                    refine WP_aload dX2_search_204 rfl ?_
                    refine WP_putr dX2_search_206 fX2_25 rfl rfl rfl rfl (lyx_is hy 43 2 rfl) ?_
                    obtain ⟨R12022, eR12022⟩ : ∃ R9 : pR, R9 = pp R12021 (ad g 43) 6 (some (ad g 48)) := ⟨_, rfl⟩
                    rw [← eR12022]
                    have hrR12022 : RfX g R12022 := by rw [eR12022]; exact rfx_pp hy hrR12021 (by decide)
                    have hSR12022 : R12022 (ad g 0) 10 = R (ad g 0) 10 := by rw [eR12022, pp_ne _ _ (Or.inl (lyx_ne hy (by decide) (by decide) (by decide)))]; exact hSR12021
                    have hTR12022 : R12022 (ad g 5) 0 = some (ad g 6) := by rw [eR12022, pp_ne _ _ (Or.inl (lyx_ne hy (by decide) (by decide) (by decide)))]; exact hTR12021
                    have hOR12022 : R12022 (ad g 43) 7 = some (ad g 47) := by rw [eR12022, pp_ne _ _ (Or.inr (by decide))]; exact hQR12021
                    have hQR12022 : R12022 (ad g 43) 6 = some (ad g 48) := by rw [eR12022, pp_self]
                    clear eR12022
                    refine WP_iinc (ls' := [(0, _), (1, _), (2, _), (3, _), (4, _), (5, _), (6, _), (7, _), (8, _)]) dX2_search_209 rfl (by decide) rfl ?_
                    have hv12023 : (i11966 + Int32.ofInt (-1)).toInt = i11966.toInt + (-1) := ia_n rfl (by omega) (by omega)
                    generalize i11966 + Int32.ofInt (-1) = v12023 at hv12023 ⊢
                    refine WP_goto 121 dX2_search_212 rfl ?_
                    exact WP_sub (fc rfl (fc rfl (fc rfl (fc rfl (fc rfl (fc rfl (fc rfl fn))))))) (ihlp121_11970 v12023 I12016 R12022 hrR12022 hTR12022 hSR12022 (Or.inr ⟨hQR12022, hOR12022⟩) hI12016 fr12020 w12015 e12018 v12011 e12019 (by omega) (by omega) (by omega) (by omega) (by omega) (fun q hq he => by have e := adx_inj hy hq (by decide) (Option.some.inj (he.symm.trans hOR12022)); subst e; exact WB_V VI12016 (by omega) (by omega)) (Or.inr ⟨_, by rw [show da.toInt = v11978.toInt by omega]; exact ldI11979, FU_end (by have z := fuI12009; rw [show i11966.toInt = (0 : Int) by omega] at z; exact z) PZ_I11824_11825 (by omega) (by omega) (by omega)⟩) (by omega))
              · have W12023 := PW_I11967_11967 47 (by decide) hl121
                refine WP_iload dX2_search_121 rfl ?_
                refine WQ_if_lt 215 dX2_search_123 rfl (fun c12024 => ?_) (fun c12024 => ?_)
                · refine WP_aload_n dX2_search_215 rfl ?_
                  refine WQ_getim dX2_search_216 fX2_75 rfl (lyx_is hy 43 2 rfl) ew11969 ?_
                  exact WP_iret dX2_search_219 rfl ⟨⟨hI11967, ⟨hrI11967, ⟨hTI11967.trans hT.symm, hSI11967⟩, (Or.inr ⟨hn121, hl121⟩)⟩, fiI11967, fjJ11825⟩, _, rfl, by omega, by omega, (PQ_I11967_11967.resolve_left (by omega))⟩
                · refine WP_iload_n dX2_search_126 rfl ?_
                  refine WP_iload dX2_search_127 rfl ?_
                  refine WQ_iadd dX2_search_129 (by omega) (by omega) (fun v12026 hv12026 => ?_)
                  refine WQ_bipush (7) (7) dX2_search_130 rfl rfl (fun v12027 hv12027 => ?_)
                  refine WQ_iremk (7) dX2_search_132 hv12027 (by decide) (by omega) (fun v12028 hv12028 => ?_)
                  refine WP_istore (ls' := [(0, _), (1, _), (2, _), (3, _), (4, _), (5, _), (6, _), (7, _)]) dX2_search_133 (by decide) rfl ?_
                  refine WP_aload_n dX2_search_135 rfl ?_
                  refine WP_getr dX2_search_136 fX2_12 rfl (lyx_is hy 43 2 rfl) (rfx hrI11967 43 3 44 (by decide)) ?_
                  refine WP_aload_n dX2_search_139 rfl ?_
                  refine WP_getr dX2_search_140 fX2_32 rfl (lyx_is hy 43 2 rfl) (rfx hrI11967 43 2 5 (by decide)) ?_
                  refine WP_iload_n dX2_search_143 rfl ?_
                  refine WP_iload dX2_search_144 rfl ?_
                  refine WP_callV3 (k := 6) dX2_search_146 ⟨⟨⟨by decide, by decide⟩, zX6_load⟩, lX2_42, by decide, rfl, vX6_load.1, vX6_load.2⟩ (lyx_is hy 44 6 rfl) (sx_loadx_44_6 hy hrI11967 hTI11967 hI11967 so v12028 (by omega) (by omega) (by omega) (by omega)) (Nat.le_of_ble_eq_true rfl) ?_
                  intro r I12029 J12030 Ra hq
                  obtain ⟨⟨hI12029, ec, fiI12029, ejI12029, pI12029⟩, rfl⟩ := hq
                  rw [ec]
                  clear ec Ra
                  have fr12031 : fz 74 g [43, 44, 47, 48] I I12029 := fz_tr fiI11967 (fz_mono fiI12029 (by decide))
                  rw [ejI12029]
                  clear ejI12029 J12030
                  have ldI12029 := LD_fr pI12029 (fz_at fiI11967 6 (by decide) (by decide)) (fz_at fiI11967 11 (by decide) (by decide)) (fz_at fiI11967 13 (by decide) (by decide)) (fz_at fiI11967 14 (by decide) (by decide)) (fz_at fiI11967 15 (by decide) (by decide)) (fz_at fiI11967 22 (by decide) (by decide))
                  have WI12029 := W12023
                  rw [← fz_at fiI12029 47 (by decide) (by decide)] at WI12029
                  have e12032 : I12029 (ad g 43) 1 = w11969 := by rw [fz_at fiI12029 43 (by decide) (by decide)]; exact ew11969
                  have e12033 : I12029 (ad g 43) 8 = w11970 := by rw [fz_at fiI12029 43 (by decide) (by decide)]; exact ew11970
                  have e12034 : I12029 (ad g 1) 1 = L := hI12029.2
                  have b12035 := BT_get hI12029.1 1 1 2 (0) (0) (900) (by decide) 1 (by decide) (by decide)
                  rw [e12034] at b12035
                  refine WP_aload_n dX2_search_149 rfl ?_
                  refine WP_aload_n dX2_search_150 rfl ?_
                  refine WP_iload dX2_search_151 rfl ?_
                  refine WQ_if_ne 160 dX2_search_153 rfl (fun c12035 => ?_) (fun c12035 => ?_)
                  · refine WP_aload_n dX2_search_160 rfl ?_
                    refine WP_getr dX2_search_161 fX2_32 rfl (lyx_is hy 43 2 rfl) (rfx hrI11967 43 2 5 (by decide)) ?_
                    refine WP_getr dX2_search_164 fX2_46 rfl (lyx_is hy 5 0 rfl) hTI11967 ?_
                    refine WP_getr dX2_search_167 fX2_52 rfl (lyx_is hy 6 7 rfl) (rfx hrI11967 6 10 12 (by decide)) ?_
                    refine WP_iload_n dX2_search_170 rfl ?_
                    refine WQ_bipush (7) (7) dX2_search_171 rfl rfl (fun v12037 hv12037 => ?_)
                    refine WQ_imulk (7) dX2_search_173 hv12037 (by omega) (by omega) (fun v12038 hv12038 => ?_)
                    refine WP_iload dX2_search_174 rfl ?_
                    refine WQ_iadd dX2_search_176 (by omega) (by omega) (fun v12039 hv12039 => ?_)
                    refine WQ_iald dX2_search_177 (lyx_is hy 12 13 rfl) (lyx_n hy 12 28 rfl) (by omega) (by omega) (fun q hq => BT_get hI12029.1 12 0 28 (0) (0) (20) (by decide) q (Nat.zero_le _) hq) (fun v12040 av12040 bv12040 ev12040 => ?_)
                    refine WP_iload_n dX2_search_178 rfl ?_
                    refine WP_iload dX2_search_179 rfl ?_
                    refine WP_iload dX2_search_181 rfl ?_
                    refine WP_callV4 (k := 2) dX2_search_183 ⟨⟨⟨by decide, by decide⟩, zX2_weighDay⟩, lX2_71, by decide, rfl, vX2_weighDay.1, vX2_weighDay.2⟩ (lyx_is hy 43 2 rfl) (sx_weighDayx_47_6 hy hrI11967 hTI11967 hI12029 v12040 so v12028 i11966 (by omega) (by omega) (by omega) (by omega) (by omega) (by omega) (by omega) (by omega) (K := 594 * ((nn.toInt - 1) - i11966.toInt)) (by omega) hl121 hn121 (by rw [fz_at fiI12029 43 (by decide) (by decide), ew11970]; omega) (by rw [fz_at fr12031 24 (by decide) (by decide), fz_at fr12031 25 (by decide) (by decide), fz_at fr12031 26 (by decide) (by decide)]; exact WD_of WI12029 FN11953 ldI12029 (by unfold EA; rw [if_neg (by omega), show I (ad g (6 + 6)) = I12029 (ad g 12) from (fz_at fr12031 12 (by decide) (by decide)).symm, ← cl (x := v12039) (n := (7 * so.toInt + v12028.toInt).toNat) (by omega), ev12040]) (by omega) (by omega) (by omega) (ldx_p hI (by decide) _ _ _ (by omega) (by omega) ldI12029 (by omega) (by omega)) (sbx_b hI) (cbx_b hI (by omega) (by omega)))) (Nat.le_of_ble_eq_true rfl) ?_
                    intro r I12041 J12042 Ra hq
                    obtain ⟨⟨hI12041, ec, fiI12041, ejI12041, pI12041⟩, v12043, rfl, av12043, bv12043, cv12043⟩ := hq
                    show WP _ _ _ _ (.int _ :: _) _ _ _ _
                    rw [ec]
                    clear ec Ra
                    have fr12044 : fz 74 g [43, 44, 47, 48] I I12041 := fz_tr fr12031 (fz_mono fiI12041 (by decide))
                    rw [ejI12041]
                    clear ejI12041 J12042
                    have e12045 : I12041 (ad g 12) v12039.toNatClampNeg = v12040 := by rw [fz_at fiI12041 12 (by decide) (by decide)]; exact ev12040
                    have e12046 : I12041 (ad g 1) 1 = L := hI12041.2
                    have b12047 := BT_get hI12041.1 1 1 2 (0) (0) (900) (by decide) 1 (by decide) (by decide)
                    rw [e12046] at b12047
                    obtain ⟨w12048, ew12048⟩ : ∃ w : Int32, I12041 (ad g 43) 1 = w := ⟨_, rfl⟩
                    have bw12048 := BT_get hI12041.1 43 1 2 (0) (0) (47) (by decide) 1 (by decide) (by decide)
                    rw [ew12048] at bw12048
                    have vsI12041 := pI12041.1
                    have fuI12041 := pI12041.2
                    rw [ew12048] at fuI12041
                    refine WQ_puti dX2_search_186 fX2_67 rfl rfl (lyx_is hy 43 2 rfl) (fun I12049 eI12049 => ?_)
                    have hI12049 : XI g n L I12049 := by rw [eI12049]; exact (xi_f0 hy hI12041 (c := 43) (by decide) (Or.inl (by decide)) (by decide))
                    have e12050 : I12049 (ad g 12) v12039.toNatClampNeg = v12040 := by rw [eI12049, pp_ne _ _ (Or.inl (lyx_ne hy (by decide) (by decide) (by decide)))]; exact e12045
                    have e12051 : I12049 (ad g 1) 1 = L := by rw [eI12049, pp_ne _ _ (Or.inl (lyx_ne hy (by decide) (by decide) (by decide)))]; exact e12046
                    have e12052 : I12049 (ad g 43) 1 = w12048 := by rw [eI12049, pp_ne _ _ (Or.inr (by decide))]; exact ew12048
                    have e12053 : I12049 (ad g 43) 8 = v12043 := by rw [eI12049, pp_self]
                    have fr12054 : fz 74 g [43, 44, 47, 48] I I12049 := by rw [eI12049]; exact fzx_pp hy fr12044 (by decide) (by decide)
                    have VI12049 := vsI12041
                    rw [show I12041 (ad g 48) = I12049 (ad g 48) by rw [eI12049, pp_off _ _ (lyx_ne hy (by decide) (by decide) (by decide))]] at VI12049
                    clear eI12049
                    refine WP_aload_n dX2_search_189 rfl ?_
                    refine WP_getr dX2_search_190 fX2_29 rfl (lyx_is hy 43 2 rfl) hl121 ?_
                    refine WP_astore (ls' := [(0, _), (1, _), (2, _), (3, _), (4, _), (5, _), (6, _), (7, _), (8, _)]) dX2_search_193 (by decide) rfl ?_
                    refine WP_aload_n dX2_search_195 rfl ?_
                    refine WP_aload_n dX2_search_196 rfl ?_
                    refine WP_getr dX2_search_197 fX2_25 rfl (lyx_is hy 43 2 rfl) hn121 ?_
                    refine WP_putr dX2_search_200 fX2_29 rfl rfl rfl rfl (lyx_is hy 43 2 rfl) ?_
                    obtain ⟨R12055, eR12055⟩ : ∃ R9 : pR, R9 = pp RI11967 (ad g 43) 7 (some (ad g 48)) := ⟨_, rfl⟩
                    rw [← eR12055]
                    have hrR12055 : RfX g R12055 := by rw [eR12055]; exact rfx_pp hy hrI11967 (by decide)
                    have hSR12055 : R12055 (ad g 0) 10 = R (ad g 0) 10 := by rw [eR12055, pp_ne _ _ (Or.inl (lyx_ne hy (by decide) (by decide) (by decide)))]; exact hSI11967
                    have hTR12055 : R12055 (ad g 5) 0 = some (ad g 6) := by rw [eR12055, pp_ne _ _ (Or.inl (lyx_ne hy (by decide) (by decide) (by decide)))]; exact hTI11967
                    have hOR12055 : R12055 (ad g 43) 6 = some (ad g 48) := by rw [eR12055, pp_ne _ _ (Or.inr (by decide))]; exact hn121
                    have hQR12055 : R12055 (ad g 43) 7 = some (ad g 48) := by rw [eR12055, pp_self]
                    clear eR12055
                    refine WP_aload_n dX2_search_203 rfl ?_
                    refine WP_aload dX2_search_204 rfl ?_
                    refine WP_putr dX2_search_206 fX2_25 rfl rfl rfl rfl (lyx_is hy 43 2 rfl) ?_
                    obtain ⟨R12056, eR12056⟩ : ∃ R9 : pR, R9 = pp R12055 (ad g 43) 6 (some (ad g 47)) := ⟨_, rfl⟩
                    rw [← eR12056]
                    have hrR12056 : RfX g R12056 := by rw [eR12056]; exact rfx_pp hy hrR12055 (by decide)
                    have hSR12056 : R12056 (ad g 0) 10 = R (ad g 0) 10 := by rw [eR12056, pp_ne _ _ (Or.inl (lyx_ne hy (by decide) (by decide) (by decide)))]; exact hSR12055
                    have hTR12056 : R12056 (ad g 5) 0 = some (ad g 6) := by rw [eR12056, pp_ne _ _ (Or.inl (lyx_ne hy (by decide) (by decide) (by decide)))]; exact hTR12055
                    have hOR12056 : R12056 (ad g 43) 7 = some (ad g 48) := by rw [eR12056, pp_ne _ _ (Or.inr (by decide))]; exact hQR12055
                    have hQR12056 : R12056 (ad g 43) 6 = some (ad g 47) := by rw [eR12056, pp_self]
                    clear eR12056
                    refine WP_iinc (ls' := [(0, _), (1, _), (2, _), (3, _), (4, _), (5, _), (6, _), (7, _), (8, _)]) dX2_search_209 rfl (by decide) rfl ?_
                    have hv12057 : (i11966 + Int32.ofInt (-1)).toInt = i11966.toInt + (-1) := ia_n rfl (by omega) (by omega)
                    generalize i11966 + Int32.ofInt (-1) = v12057 at hv12057 ⊢
                    refine WP_goto 121 dX2_search_212 rfl ?_
                    exact WP_sub (fc rfl (fc rfl (fc rfl (fc rfl (fc rfl (fc rfl (fc rfl fn))))))) (ihlp121_11970 v12057 I12049 R12056 hrR12056 hTR12056 hSR12056 (Or.inl ⟨hQR12056, hOR12056⟩) hI12049 fr12054 w12048 e12052 v12043 e12053 (by omega) (by omega) (by omega) (by omega) (by omega) (fun q hq he => by have e := adx_inj hy hq (by decide) (Option.some.inj (he.symm.trans hOR12056)); subst e; exact WB_V VI12049 (by omega) (by omega)) (Or.inl (by omega)) (by omega))
                  · refine WQ_iconst (0) (0) dX2_search_156 rfl rfl (fun v12058 hv12058 => ?_)
                    refine WP_goto 178 dX2_search_157 rfl ?_
                    refine WP_iload_n dX2_search_178 rfl ?_
                    refine WP_iload dX2_search_179 rfl ?_
                    refine WP_iload dX2_search_181 rfl ?_
                    refine WP_callV4 (k := 2) dX2_search_183 ⟨⟨⟨by decide, by decide⟩, zX2_weighDay⟩, lX2_71, by decide, rfl, vX2_weighDay.1, vX2_weighDay.2⟩ (lyx_is hy 43 2 rfl) (sx_weighDayx_47_6 hy hrI11967 hTI11967 hI12029 v12058 so v12028 i11966 (by omega) (by omega) (by omega) (by omega) (by omega) (by omega) (by omega) (by omega) (K := 594 * ((nn.toInt - 1) - i11966.toInt)) (by omega) hl121 hn121 (by rw [fz_at fiI12029 43 (by decide) (by decide), ew11970]; omega) (by rw [fz_at fr12031 24 (by decide) (by decide), fz_at fr12031 25 (by decide) (by decide), fz_at fr12031 26 (by decide) (by decide)]; exact WD_of WI12029 FN11953 ldI12029 (by unfold EA; rw [if_pos (by omega)]; omega) (by omega) (by omega) (by omega) (ldx_p hI (by decide) _ _ _ (by omega) (by omega) ldI12029 (by omega) (by omega)) (sbx_b hI) (cbx_b hI (by omega) (by omega)))) (Nat.le_of_ble_eq_true rfl) ?_
                    intro r I12059 J12060 Ra hq
                    obtain ⟨⟨hI12059, ec, fiI12059, ejI12059, pI12059⟩, v12061, rfl, av12061, bv12061, cv12061⟩ := hq
                    show WP _ _ _ _ (.int _ :: _) _ _ _ _
                    rw [ec]
                    clear ec Ra
                    have fr12062 : fz 74 g [43, 44, 47, 48] I I12059 := fz_tr fr12031 (fz_mono fiI12059 (by decide))
                    rw [ejI12059]
                    clear ejI12059 J12060
                    have e12063 : I12059 (ad g 1) 1 = L := hI12059.2
                    have b12064 := BT_get hI12059.1 1 1 2 (0) (0) (900) (by decide) 1 (by decide) (by decide)
                    rw [e12063] at b12064
                    obtain ⟨w12065, ew12065⟩ : ∃ w : Int32, I12059 (ad g 43) 1 = w := ⟨_, rfl⟩
                    have bw12065 := BT_get hI12059.1 43 1 2 (0) (0) (47) (by decide) 1 (by decide) (by decide)
                    rw [ew12065] at bw12065
                    have vsI12059 := pI12059.1
                    have fuI12059 := pI12059.2
                    rw [ew12065] at fuI12059
                    refine WQ_puti dX2_search_186 fX2_67 rfl rfl (lyx_is hy 43 2 rfl) (fun I12066 eI12066 => ?_)
                    have hI12066 : XI g n L I12066 := by rw [eI12066]; exact (xi_f0 hy hI12059 (c := 43) (by decide) (Or.inl (by decide)) (by decide))
                    have e12067 : I12066 (ad g 1) 1 = L := by rw [eI12066, pp_ne _ _ (Or.inl (lyx_ne hy (by decide) (by decide) (by decide)))]; exact e12063
                    have e12068 : I12066 (ad g 43) 1 = w12065 := by rw [eI12066, pp_ne _ _ (Or.inr (by decide))]; exact ew12065
                    have e12069 : I12066 (ad g 43) 8 = v12061 := by rw [eI12066, pp_self]
                    have fr12070 : fz 74 g [43, 44, 47, 48] I I12066 := by rw [eI12066]; exact fzx_pp hy fr12062 (by decide) (by decide)
                    have VI12066 := vsI12059
                    rw [show I12059 (ad g 48) = I12066 (ad g 48) by rw [eI12066, pp_off _ _ (lyx_ne hy (by decide) (by decide) (by decide))]] at VI12066
                    clear eI12066
                    refine WP_aload_n dX2_search_189 rfl ?_
                    refine WP_getr dX2_search_190 fX2_29 rfl (lyx_is hy 43 2 rfl) hl121 ?_
                    refine WP_astore (ls' := [(0, _), (1, _), (2, _), (3, _), (4, _), (5, _), (6, _), (7, _), (8, _)]) dX2_search_193 (by decide) rfl ?_
                    refine WP_aload_n dX2_search_195 rfl ?_
                    refine WP_aload_n dX2_search_196 rfl ?_
                    refine WP_getr dX2_search_197 fX2_25 rfl (lyx_is hy 43 2 rfl) hn121 ?_
                    refine WP_putr dX2_search_200 fX2_29 rfl rfl rfl rfl (lyx_is hy 43 2 rfl) ?_
                    obtain ⟨R12071, eR12071⟩ : ∃ R9 : pR, R9 = pp RI11967 (ad g 43) 7 (some (ad g 48)) := ⟨_, rfl⟩
                    rw [← eR12071]
                    have hrR12071 : RfX g R12071 := by rw [eR12071]; exact rfx_pp hy hrI11967 (by decide)
                    have hSR12071 : R12071 (ad g 0) 10 = R (ad g 0) 10 := by rw [eR12071, pp_ne _ _ (Or.inl (lyx_ne hy (by decide) (by decide) (by decide)))]; exact hSI11967
                    have hTR12071 : R12071 (ad g 5) 0 = some (ad g 6) := by rw [eR12071, pp_ne _ _ (Or.inl (lyx_ne hy (by decide) (by decide) (by decide)))]; exact hTI11967
                    have hOR12071 : R12071 (ad g 43) 6 = some (ad g 48) := by rw [eR12071, pp_ne _ _ (Or.inr (by decide))]; exact hn121
                    have hQR12071 : R12071 (ad g 43) 7 = some (ad g 48) := by rw [eR12071, pp_self]
                    clear eR12071
                    refine WP_aload_n dX2_search_203 rfl ?_
                    refine WP_aload dX2_search_204 rfl ?_
                    refine WP_putr dX2_search_206 fX2_25 rfl rfl rfl rfl (lyx_is hy 43 2 rfl) ?_
                    obtain ⟨R12072, eR12072⟩ : ∃ R9 : pR, R9 = pp R12071 (ad g 43) 6 (some (ad g 47)) := ⟨_, rfl⟩
                    rw [← eR12072]
                    have hrR12072 : RfX g R12072 := by rw [eR12072]; exact rfx_pp hy hrR12071 (by decide)
                    have hSR12072 : R12072 (ad g 0) 10 = R (ad g 0) 10 := by rw [eR12072, pp_ne _ _ (Or.inl (lyx_ne hy (by decide) (by decide) (by decide)))]; exact hSR12071
                    have hTR12072 : R12072 (ad g 5) 0 = some (ad g 6) := by rw [eR12072, pp_ne _ _ (Or.inl (lyx_ne hy (by decide) (by decide) (by decide)))]; exact hTR12071
                    have hOR12072 : R12072 (ad g 43) 7 = some (ad g 48) := by rw [eR12072, pp_ne _ _ (Or.inr (by decide))]; exact hQR12071
                    have hQR12072 : R12072 (ad g 43) 6 = some (ad g 47) := by rw [eR12072, pp_self]
                    clear eR12072
                    refine WP_iinc (ls' := [(0, _), (1, _), (2, _), (3, _), (4, _), (5, _), (6, _), (7, _), (8, _)]) dX2_search_209 rfl (by decide) rfl ?_
                    have hv12073 : (i11966 + Int32.ofInt (-1)).toInt = i11966.toInt + (-1) := ia_n rfl (by omega) (by omega)
                    generalize i11966 + Int32.ofInt (-1) = v12073 at hv12073 ⊢
                    refine WP_goto 121 dX2_search_212 rfl ?_
                    exact WP_sub (fc rfl (fc rfl (fc rfl (fc rfl (fc rfl (fc rfl (fc rfl fn))))))) (ihlp121_11970 v12073 I12066 R12072 hrR12072 hTR12072 hSR12072 (Or.inl ⟨hQR12072, hOR12072⟩) hI12066 fr12070 w12065 e12068 v12061 e12069 (by omega) (by omega) (by omega) (by omega) (by omega) (fun q hq he => by have e := adx_inj hy hq (by decide) (Option.some.inj (he.symm.trans hOR12072)); subst e; exact WB_V VI12066 (by omega) (by omega)) (Or.inr ⟨_, by rw [show da.toInt = v12028.toInt by omega]; exact ldI12029, FU_end (by have z := fuI12059; rw [show i11966.toInt = (0 : Int) by omega] at z; exact z) PZ_I11824_11825 (by omega) (by omega) (by omega)⟩) (by omega))
          obtain ⟨w12074, ew12074⟩ : ∃ w : Int32, I11960 (ad g 43) 1 = w := ⟨_, rfl⟩
          have bw12074 := BT_get hI11960.1 43 1 2 (0) (0) (47) (by decide) 1 (by decide) (by decide)
          rw [ew12074] at bw12074
          exact WP_sub (fc rfl (fc rfl (fc rfl (fc rfl (fc rfl (fc rfl (fc rfl fn))))))) (lp121_11970 _ v11965 I11960 RI11824 hrI11824 hTI11824 hSI11824 (Or.inr ⟨hn102, hl102⟩) hI11960 fr11963 w12074 ew12074 v11959 e11962 (by omega) (by omega) (by omega) (by omega) (by omega) (fun q hq he => by have e := adx_inj hy hq (by decide) (Option.some.inj (he.symm.trans hl102)); subst e; exact (by rw [show v11965.toInt = (nn.toInt - 1) by omega]; exact WI11960)) (Or.inl (by omega)) (Nat.lt_succ_self _))
      · refine WP_iload_n dX2_search_30 rfl ?_
        refine WP_iload dX2_search_31 rfl ?_
        refine WQ_iadd dX2_search_33 (by omega) (by omega) (fun v12075 hv12075 => ?_)
        refine WQ_bipush (7) (7) dX2_search_34 rfl rfl (fun v12076 hv12076 => ?_)
        refine WQ_iremk (7) dX2_search_36 hv12076 (by decide) (by omega) (fun v12077 hv12077 => ?_)
        refine WP_istore (ls' := [(0, _), (1, _), (2, _), (3, _), (4, _), (5, _), (6, _), (7, _)]) dX2_search_37 (by decide) rfl ?_
        refine WP_aload_n dX2_search_39 rfl ?_
        refine WP_getr dX2_search_40 fX2_12 rfl (lyx_is hy 43 2 rfl) (rfx hrI11824 43 3 44 (by decide)) ?_
        refine WP_aload_n dX2_search_43 rfl ?_
        refine WP_getr dX2_search_44 fX2_32 rfl (lyx_is hy 43 2 rfl) (rfx hrI11824 43 2 5 (by decide)) ?_
        refine WP_iload_n dX2_search_47 rfl ?_
        refine WP_iload dX2_search_48 rfl ?_
        refine WP_callV3 (k := 6) dX2_search_50 ⟨⟨⟨by decide, by decide⟩, zX6_load⟩, lX2_42, by decide, rfl, vX6_load.1, vX6_load.2⟩ (lyx_is hy 44 6 rfl) (sx_loadx_44_6 hy hrI11824 hTI11824 hI11824 so v12077 (by omega) (by omega) (by omega) (by omega)) (Nat.le_of_ble_eq_true rfl) ?_
        intro r I12078 J12079 Ra hq
        obtain ⟨⟨hI12078, ec, fiI12078, ejI12078, pI12078⟩, rfl⟩ := hq
        rw [ec]
        clear ec Ra
        have fr12080 : fz 74 g [43, 44, 47, 48] I I12078 := fz_tr fiI11824 (fz_mono fiI12078 (by decide))
        rw [ejI12078]
        clear ejI12078 J12079
        have ldI12078 := LD_fr pI12078 (fz_at fiI11824 6 (by decide) (by decide)) (fz_at fiI11824 11 (by decide) (by decide)) (fz_at fiI11824 13 (by decide) (by decide)) (fz_at fiI11824 14 (by decide) (by decide)) (fz_at fiI11824 15 (by decide) (by decide)) (fz_at fiI11824 22 (by decide) (by decide))
        have e12081 : I12078 (ad g 1) 1 = L := hI12078.2
        have b12082 := BT_get hI12078.1 1 1 2 (0) (0) (900) (by decide) 1 (by decide) (by decide)
        rw [e12081] at b12082
        refine WP_aload_n dX2_search_53 rfl ?_
        refine WP_iload dX2_search_54 rfl ?_
        refine WQ_if_ne 63 dX2_search_56 rfl (fun c12082 => ?_) (fun c12082 => ?_)
        · refine WP_aload_n dX2_search_63 rfl ?_
          refine WP_getr dX2_search_64 fX2_32 rfl (lyx_is hy 43 2 rfl) (rfx hrI11824 43 2 5 (by decide)) ?_
          refine WP_getr dX2_search_67 fX2_46 rfl (lyx_is hy 5 0 rfl) hTI11824 ?_
          refine WP_getr dX2_search_70 fX2_52 rfl (lyx_is hy 6 7 rfl) (rfx hrI11824 6 10 12 (by decide)) ?_
          refine WP_iload_n dX2_search_73 rfl ?_
          refine WQ_bipush (7) (7) dX2_search_74 rfl rfl (fun v12084 hv12084 => ?_)
          refine WQ_imulk (7) dX2_search_76 hv12084 (by omega) (by omega) (fun v12085 hv12085 => ?_)
          refine WP_iload dX2_search_77 rfl ?_
          refine WQ_iadd dX2_search_79 (by omega) (by omega) (fun v12086 hv12086 => ?_)
          refine WQ_iald dX2_search_80 (lyx_is hy 12 13 rfl) (lyx_n hy 12 28 rfl) (by omega) (by omega) (fun q hq => BT_get hI12078.1 12 0 28 (0) (0) (20) (by decide) q (Nat.zero_le _) hq) (fun v12087 av12087 bv12087 ev12087 => ?_)
          refine WP_iload dX2_search_81 rfl ?_
          refine WP_callV2 (k := 2) dX2_search_83 ⟨⟨⟨by decide, by decide⟩, zX2_spread⟩, lX2_57, by decide, rfl, vX2_spread.1, vX2_spread.2⟩ (lyx_is hy 43 2 rfl) (sx_spreadx hy hrI11824 hI12078 v12087 i11823 (by omega) (by omega) (by omega) (by omega)) (Nat.le_of_ble_eq_true rfl) ?_
          intro r Ia J12088 Ra hq
          obtain ⟨⟨ea, ec, fjJ12088, pJ12088⟩, rfl⟩ := hq
          rw [ea, ec]
          clear ea ec Ia Ra
          have fr12089 : fz 74 g [45, 46] J J12088 := fz_tr fjJ11825 (fz_mono fjJ12088 (by decide))
          have FJ12088 := FWD_P (P2 := J12088 (ad g 45)) PF_I11824_11825 (fz_at fjJ12088 45 (by decide) (by decide))
          have srJ12088 := pJ12088
          rw [← fz_at fjJ12088 45 (by decide) (by decide)] at srJ12088
          have ZJ12088 := ZB_P (P2 := J12088 (ad g 45)) PZ_I11824_11825 (fz_at fjJ12088 45 (by decide) (by decide))
          refine WP_aload_n dX2_search_86 rfl ?_
          refine WP_iload dX2_search_87 rfl ?_
          refine WP_iload dX2_search_89 rfl ?_
          refine WQ_iconst (1) (1) dX2_search_91 rfl rfl (fun v12090 hv12090 => ?_)
          refine WQ_iadd dX2_search_92 (by omega) (by omega) (fun v12091 hv12091 => ?_)
          refine WP_callV2 (k := 2) dX2_search_93 ⟨⟨⟨by decide, by decide⟩, zX2_sleep⟩, lX2_61, by decide, rfl, vX2_sleep.1, vX2_sleep.2⟩ (lyx_is hy 43 2 rfl) (sx_psleepx hy hrI11824 hI12078 v12077 v12091 (by omega) (by omega) (by omega) (by omega)) (Nat.le_of_ble_eq_true rfl) ?_
          intro r Ia J12092 Ra hq
          obtain ⟨⟨ea, ec, fjJ12092, pJ12092⟩, rfl⟩ := hq
          rw [ea, ec]
          clear ea ec Ia Ra
          have fr12093 : fz 74 g [45, 46] J J12092 := fz_tr fr12089 (fz_mono fjJ12092 (by decide))
          have slJ12092 := pJ12092.1
          rw [fz_at fr12080 24 (by decide) (by decide), fz_at fr12080 25 (by decide) (by decide), fz_at fr12080 26 (by decide) (by decide)] at slJ12092
          have FJ12092 := FWD_step FJ12088 ldI12078 srJ12088 slJ12092 pJ12092.2 (by unfold EA; rw [if_neg (by omega), show I (ad g (6 + 6)) = I12078 (ad g 12) from (fz_at fr12080 12 (by decide) (by decide)).symm, ← cl (x := v12086) (n := (7 * so.toInt + v12077.toInt).toNat) (by omega), ev12087]) (by omega) (by omega) (by omega) (sbx_b hI) (ldx_p hI (by decide) _ _ _ (by omega) (by omega) ldI12078 (by omega) (by omega)) (ldx_p hI (by decide)) (by omega)
          have ZJ12092 := ZB_out ZJ12088 pJ12092.2 (by omega)
          refine WP_iinc (ls' := [(0, _), (1, _), (2, _), (3, _), (4, _), (5, _), (6, _), (7, _)]) dX2_search_96 rfl (by decide) rfl ?_
          have hv12094 : (i11823 + Int32.ofInt (1)).toInt = i11823.toInt + (1) := ia_n rfl (by omega) (by omega)
          generalize i11823 + Int32.ofInt (1) = v12094 at hv12094 ⊢
          refine WP_goto 21 dX2_search_99 rfl ?_
          exact WP_sub (fc rfl (fc rfl (fc rfl (fc rfl (fc rfl (fc rfl (fc rfl fn))))))) (ihlp21_11826 v12094 I12078 J12092 RI11824 hrI11824 hTI11824 hSI11824 hPI11824 hI12078 fr12080 fr12093 (by omega) (by omega) (by omega) (by rw [show v12094.toInt = v12091.toInt by omega]; exact FJ12092) ZJ12092 (by omega))
        · refine WQ_iconst (0) (0) dX2_search_59 rfl rfl (fun v12095 hv12095 => ?_)
          refine WP_goto 81 dX2_search_60 rfl ?_
          refine WP_iload dX2_search_81 rfl ?_
          refine WP_callV2 (k := 2) dX2_search_83 ⟨⟨⟨by decide, by decide⟩, zX2_spread⟩, lX2_57, by decide, rfl, vX2_spread.1, vX2_spread.2⟩ (lyx_is hy 43 2 rfl) (sx_spreadx hy hrI11824 hI12078 v12095 i11823 (by omega) (by omega) (by omega) (by omega)) (Nat.le_of_ble_eq_true rfl) ?_
          intro r Ia J12096 Ra hq
          obtain ⟨⟨ea, ec, fjJ12096, pJ12096⟩, rfl⟩ := hq
          rw [ea, ec]
          clear ea ec Ia Ra
          have fr12097 : fz 74 g [45, 46] J J12096 := fz_tr fjJ11825 (fz_mono fjJ12096 (by decide))
          have FJ12096 := FWD_P (P2 := J12096 (ad g 45)) PF_I11824_11825 (fz_at fjJ12096 45 (by decide) (by decide))
          have srJ12096 := pJ12096
          rw [← fz_at fjJ12096 45 (by decide) (by decide)] at srJ12096
          have ZJ12096 := ZB_P (P2 := J12096 (ad g 45)) PZ_I11824_11825 (fz_at fjJ12096 45 (by decide) (by decide))
          refine WP_aload_n dX2_search_86 rfl ?_
          refine WP_iload dX2_search_87 rfl ?_
          refine WP_iload dX2_search_89 rfl ?_
          refine WQ_iconst (1) (1) dX2_search_91 rfl rfl (fun v12098 hv12098 => ?_)
          refine WQ_iadd dX2_search_92 (by omega) (by omega) (fun v12099 hv12099 => ?_)
          refine WP_callV2 (k := 2) dX2_search_93 ⟨⟨⟨by decide, by decide⟩, zX2_sleep⟩, lX2_61, by decide, rfl, vX2_sleep.1, vX2_sleep.2⟩ (lyx_is hy 43 2 rfl) (sx_psleepx hy hrI11824 hI12078 v12077 v12099 (by omega) (by omega) (by omega) (by omega)) (Nat.le_of_ble_eq_true rfl) ?_
          intro r Ia J12100 Ra hq
          obtain ⟨⟨ea, ec, fjJ12100, pJ12100⟩, rfl⟩ := hq
          rw [ea, ec]
          clear ea ec Ia Ra
          have fr12101 : fz 74 g [45, 46] J J12100 := fz_tr fr12097 (fz_mono fjJ12100 (by decide))
          have slJ12100 := pJ12100.1
          rw [fz_at fr12080 24 (by decide) (by decide), fz_at fr12080 25 (by decide) (by decide), fz_at fr12080 26 (by decide) (by decide)] at slJ12100
          have FJ12100 := FWD_step FJ12096 ldI12078 srJ12096 slJ12100 pJ12100.2 (by unfold EA; rw [if_pos (by omega)]; omega) (by omega) (by omega) (by omega) (sbx_b hI) (ldx_p hI (by decide) _ _ _ (by omega) (by omega) ldI12078 (by omega) (by omega)) (ldx_p hI (by decide)) (by omega)
          have ZJ12100 := ZB_out ZJ12096 pJ12100.2 (by omega)
          refine WP_iinc (ls' := [(0, _), (1, _), (2, _), (3, _), (4, _), (5, _), (6, _), (7, _)]) dX2_search_96 rfl (by decide) rfl ?_
          have hv12102 : (i11823 + Int32.ofInt (1)).toInt = i11823.toInt + (1) := ia_n rfl (by omega) (by omega)
          generalize i11823 + Int32.ofInt (1) = v12102 at hv12102 ⊢
          refine WP_goto 21 dX2_search_99 rfl ?_
          exact WP_sub (fc rfl (fc rfl (fc rfl (fc rfl (fc rfl (fc rfl (fc rfl fn))))))) (ihlp21_11826 v12102 I12078 J12100 RI11824 hrI11824 hTI11824 hSI11824 hPI11824 hI12078 fr12080 fr12101 (by omega) (by omega) (by omega) (by rw [show v12102.toInt = v12099.toInt by omega]; exact FJ12100) ZJ12100 (by omega))
  exact WP_sub (fc rfl (fc rfl (fc rfl (fc rfl (fc rfl (fc rfl (fc rfl fn))))))) (lp21_11826 _ v11822 I J11820 R hr hT rfl hP hI fr0 fr11821 (by omega) (by omega) (by omega) (FWD_0 hv11822) ZJ11820 (Nat.lt_succ_self _))
set_option maxHeartbeats 4000000 in
set_option maxRecDepth 100000 in
theorem sx_searchx_27 {g : GG} {n : Int} {L : Int32} (hy : LyX g)  {I : pI} {J : pJ} {R : pR} (hr : RfX g R) (hP : NL g R) (hT : R (ad g 5) 0 = some (ad g 27)) (hI : XI g n L I) (so : Int32) (da : Int32) (co : Int32) (st : Int32) (nn : Int32) (so_lo : 0 ≤ so.toInt) (so_hi : so.toInt ≤ 3) (da_lo : 0 ≤ da.toInt) (da_hi : da.toInt ≤ 6) (co_lo : 0 ≤ co.toInt) (co_hi : co.toInt ≤ 60) (st_lo : 0 ≤ st.toInt) (st_hi : st.toInt ≤ 5) (nn_lo : 1 ≤ nn.toInt) (nn_hi : nn.toInt ≤ 28) : SP g mX2_search [.ref (ad g 43), .int so, .int da, .int co, .int st, .int nn] I J R (fun r I' J' R' => (XI g n L I' ∧ (RfX g R' ∧ (R' (ad g 5) 0 = R (ad g 5) 0 ∧ R' (ad g 0) 10 = R (ad g 0) 10) ∧ NL g R') ∧ fz 74 g [43, 44, 47, 48] I I' ∧ fz 74 g [45, 46] J J') ∧ ∃ v : Int32, r = some (.int v) ∧ 0 ≤ v.toInt ∧ v.toInt ≤ 47 ∧ (∃ T : Nat → Int32, LD g 27 I so.toInt da.toInt T ∧ AOKd T co.toInt st.toInt v.toInt)) := by
  refine SP_of ⟨by decide, rfl⟩ (Nat.le_of_ble_eq_true rfl) ?_
  have e12103 : I (ad g 1) 1 = L := hI.2
  have b12104 := BT_get hI.1 1 1 2 (0) (0) (900) (by decide) 1 (by decide) (by decide)
  rw [e12103] at b12104
  have fr0 : fz 74 g [43, 44, 47, 48] I I := fz_rf
  have frj0 : fz 74 g [45, 46] J J := fz_rf
  refine WP_aload_n dX2_search_0 rfl ?_
  refine WP_getr dX2_search_1 fX2_18 rfl (lyx_is hy 43 2 rfl) (rfx hr 43 4 45 (by decide)) ?_
  refine WP_lconst (0) dX2_search_4 rfl ?_
  obtain ⟨l12105, hl12105, el12105⟩ : ∃ v : Int64, v.toInt = 0 ∧ (0 : Int64) = v := ⟨_, rfl, rfl⟩
  rw [el12105]; clear el12105
  refine WP_callS2 dX2_search_5 ⟨⟨⟨by decide, by decide⟩, zJ7_fill_d0a16⟩, lX2_36, tJ7_fill_d0a16⟩ (sx_fillJx_45 hy hr hI l12105 ) (Nat.le_of_ble_eq_true rfl) ?_
  intro r Ia J12106 Ra hq
  obtain ⟨⟨ea, ec, fjJ12106, pJ12106⟩, rfl⟩ := hq
  rw [ea, ec]
  clear ea ec Ia Ra
  have fr12107 : fz 74 g [45, 46] J J12106 := fz_tr frj0 (fz_mono fjJ12106 (by decide))
  refine WP_aload_n dX2_search_8 rfl ?_
  refine WP_getr dX2_search_9 fX2_18 rfl (lyx_is hy 43 2 rfl) (rfx hr 43 4 45 (by decide)) ?_
  refine WP_iload dX2_search_12 rfl ?_
  refine WP_lconst (1) dX2_search_14 rfl ?_
  obtain ⟨l12108, hl12108, el12108⟩ : ∃ v : Int64, v.toInt = 1 ∧ (1 : Int64) = v := ⟨_, rfl, rfl⟩
  rw [el12108]; clear el12108
  refine WP_iload_n dX2_search_15 rfl ?_
  refine WQ_lshl1 dX2_search_16 hl12108 (by omega) (by omega) (fun l12109 ql12109 => ?_)
  refine WQ_last dX2_search_17 (lyx_is hy 45 14 rfl) (lyx_n hy 45 168 rfl) (by omega) (by omega) (fun J12110 eJ12110 => ?_)
  have fr12111 : fz 74 g [45, 46] J J12110 := by rw [eJ12110]; exact fzx_pp hy fr12107 (by decide) (by decide)
  have xJ12110 := eJ12110
  rw [cl (x := st) (n := st.toInt.toNat) (by omega)] at xJ12110
  have ZJ12110 := ZB_0 (co := co) (st := st) pJ12106 hl12105 xJ12110 ql12109 (by omega)
  clear eJ12110
  refine WQ_iconst (0) (0) dX2_search_18 rfl rfl (fun v12112 hv12112 => ?_)
  refine WP_istore (ls' := [(0, _), (1, _), (2, _), (3, _), (4, _), (5, _), (6, _)]) dX2_search_19 (by decide) rfl ?_
  have lp21_12116 : ∀ (mz : Nat) (i12113 : Int32) (I12114 : pI) (J12115 : pJ) (RI12114 : pR), RfX g RI12114 → RI12114 (ad g 5) 0 = some (ad g 27) → RI12114 (ad g 0) 10 = R (ad g 0) 10 → NL g RI12114 → XI g n L I12114 → fz 74 g [43, 44, 47, 48] I I12114 → fz 74 g [45, 46] J J12115 → 0 ≤ i12113.toInt → i12113.toInt ≤ 27 → i12113.toInt ≤ nn.toInt - 1 → (FWD g 27 I (J12115 (ad g 45)) so.toInt da.toInt i12113.toInt) → (ZB (J12115 (ad g 45)) co.toInt st.toInt) → (28 - i12113.toInt).toNat < mz → WP g mX2_search 21 [(0, .ref (ad g 43)), (1, .int so), (2, .int da), (3, .int co), (4, .int st), (5, .int nn), (6, .int i12113)] [] I12114 J12115 RI12114 (fun r I' J' R' => (XI g n L I' ∧ (RfX g R' ∧ (R' (ad g 5) 0 = R (ad g 5) 0 ∧ R' (ad g 0) 10 = R (ad g 0) 10) ∧ NL g R') ∧ fz 74 g [43, 44, 47, 48] I I' ∧ fz 74 g [45, 46] J J') ∧ ∃ v : Int32, r = some (.int v) ∧ 0 ≤ v.toInt ∧ v.toInt ≤ 47 ∧ (∃ T : Nat → Int32, LD g 27 I so.toInt da.toInt T ∧ AOKd T co.toInt st.toInt v.toInt)) := by
    intro mz
    induction mz with
    | zero =>
      intro i12113 I12114 J12115 RI12114 hrI12114 hTI12114 hSI12114 hPI12114 hI12114 fiI12114 fjJ12115 ai12113 bi12113 j0_I12114 PF_I12114_12115 PZ_I12114_12115 hmlp21_12116
      exact absurd hmlp21_12116 (Nat.not_lt_zero _)
    | succ mz ihlp21_12116 =>
      intro i12113 I12114 J12115 RI12114 hrI12114 hTI12114 hSI12114 hPI12114 hI12114 fiI12114 fjJ12115 ai12113 bi12113 j0_I12114 PF_I12114_12115 PZ_I12114_12115 hmlp21_12116
      have e12118 : I12114 (ad g 1) 1 = L := hI12114.2
      have b12119 := BT_get hI12114.1 1 1 2 (0) (0) (900) (by decide) 1 (by decide) (by decide)
      rw [e12118] at b12119
      refine WP_iload dX2_search_21 rfl ?_
      refine WP_iload dX2_search_23 rfl ?_
      refine WQ_iconst (1) (1) dX2_search_25 rfl rfl (fun v12120 hv12120 => ?_)
      refine WQ_isub dX2_search_26 (by omega) (by omega) (fun v12121 hv12121 => ?_)
      refine WQ_icmp_ge 102 dX2_search_27 rfl (fun c12121 => ?_) (fun c12121 => ?_)
      · rcases hPI12114 with ⟨hn102, hl102⟩ | ⟨hn102, hl102⟩
        · have FN12122 : FWD g 27 I (J12115 (ad g 45)) so.toInt da.toInt (nn.toInt - 1) := by rw [show (nn.toInt - 1) = i12113.toInt by omega]; exact PF_I12114_12115
          refine WP_aload_n dX2_search_102 rfl ?_
          refine WP_getr dX2_search_103 fX2_29 rfl (lyx_is hy 43 2 rfl) hl102 ?_
          refine WQ_iconst (0) (0) dX2_search_106 rfl rfl (fun v12124 hv12124 => ?_)
          refine WP_callS2u dX2_search_107 ⟨⟨⟨by decide, by decide⟩, zJ7_fill_53178⟩, lX2_64, tJ7_fill_53178⟩ (s_fill hy hrI12114 48 366 rfl rfl (by decide) v12124) (Nat.le_of_ble_eq_true rfl) ?_
          obtain ⟨I12125, eI12125⟩ : ∃ I9 : pI, I9 = fi I12114 (ad g 48) 366 v12124 := ⟨_, rfl⟩
          rw [← eI12125]
          have hI12125 : XI g n L I12125 := by rw [eI12125]; exact (xi_fill0 hy hI12114 48 366 v12124 (by decide) (by decide))
          have e12126 : I12125 (ad g 1) 1 = L := by rw [eI12125, fi_off (lyx_ne hy (by decide) (by decide) (by decide))]; exact e12118
          have fr12127 : fz 74 g [43, 44, 47, 48] I I12125 := by rw [eI12125]; exact fzx_fi hy fiI12114 (by decide) (by decide)
          have WI12125 : WB (J12115 (ad g 45)) (I12125 (ad g 48)) (nn.toInt - 1) (nn.toInt - 1) := WB_0 eI12125 hv12124
          clear eI12125
          refine WP_aload_n dX2_search_110 rfl ?_
          refine WQ_iconst (0) (0) dX2_search_111 rfl rfl (fun v12128 hv12128 => ?_)
          refine WQ_puti dX2_search_112 fX2_67 rfl rfl (lyx_is hy 43 2 rfl) (fun I12129 eI12129 => ?_)
          have hI12129 : XI g n L I12129 := by rw [eI12129]; exact (xi_f0 hy hI12125 (c := 43) (by decide) (Or.inl (by decide)) (by decide))
          have e12130 : I12129 (ad g 1) 1 = L := by rw [eI12129, pp_ne _ _ (Or.inl (lyx_ne hy (by decide) (by decide) (by decide)))]; exact e12126
          have e12131 : I12129 (ad g 43) 8 = v12128 := by rw [eI12129, pp_self]
          have fr12132 : fz 74 g [43, 44, 47, 48] I I12129 := by rw [eI12129]; exact fzx_pp hy fr12127 (by decide) (by decide)
          have WI12129 : WB (J12115 (ad g 45)) (I12129 (ad g 48)) (nn.toInt - 1) (nn.toInt - 1) := by rw [eI12129, pp_off _ _ (lyx_ne hy (by decide) (by decide) (by decide))]; exact WI12125
          clear eI12129
          refine WP_iload dX2_search_115 rfl ?_
          refine WQ_iconst (1) (1) dX2_search_117 rfl rfl (fun v12133 hv12133 => ?_)
          refine WQ_isub dX2_search_118 (by omega) (by omega) (fun v12134 hv12134 => ?_)
          refine WP_istore (ls' := [(0, _), (1, _), (2, _), (3, _), (4, _), (5, _), (6, _)]) dX2_search_119 (by decide) rfl ?_
          have lp121_12139 : ∀ (mz : Nat) (i12135 : Int32) (I12136 : pI) (RI12136 : pR), RfX g RI12136 → RI12136 (ad g 5) 0 = some (ad g 27) → RI12136 (ad g 0) 10 = R (ad g 0) 10 → NL g RI12136 → XI g n L I12136 → fz 74 g [43, 44, 47, 48] I I12136 → ∀ (w12138 : Int32), I12136 (ad g 43) 1 = w12138 → ∀ (w12139 : Int32), I12136 (ad g 43) 8 = w12139 → -1 ≤ i12135.toInt → i12135.toInt ≤ 27 → i12135.toInt ≤ nn.toInt - 1 → 0 ≤ w12139.toInt → w12139.toInt ≤ 594 * (nn.toInt - 1 - i12135.toInt) → (∀ q : Nat, q < 74 → RI12136 (ad g 43) 7 = some (ad g q) → WB (J12115 (ad g 45)) (I12136 (ad g q)) (nn.toInt - 1) i12135.toInt) → (0 ≤ i12135.toInt ∨ ∃ T : Nat → Int32, LD g 27 I so.toInt da.toInt T ∧ AOKd T co.toInt st.toInt w12138.toInt) → (i12135.toInt + 1).toNat < mz → WP g mX2_search 121 [(0, .ref (ad g 43)), (1, .int so), (2, .int da), (3, .int co), (4, .int st), (5, .int nn), (6, .int i12135)] [] I12136 J12115 RI12136 (fun r I' J' R' => (XI g n L I' ∧ (RfX g R' ∧ (R' (ad g 5) 0 = R (ad g 5) 0 ∧ R' (ad g 0) 10 = R (ad g 0) 10) ∧ NL g R') ∧ fz 74 g [43, 44, 47, 48] I I' ∧ fz 74 g [45, 46] J J') ∧ ∃ v : Int32, r = some (.int v) ∧ 0 ≤ v.toInt ∧ v.toInt ≤ 47 ∧ (∃ T : Nat → Int32, LD g 27 I so.toInt da.toInt T ∧ AOKd T co.toInt st.toInt v.toInt)) := by
            intro mz
            induction mz with
            | zero =>
              intro i12135 I12136 RI12136 hrI12136 hTI12136 hSI12136 hPI12136 hI12136 fiI12136 w12138 ew12138 w12139 ew12139 ai12135 bi12135 j0_I12136_12136 j1_I12136_12136 j2_I12136_12136 PW_I12136_12136 PQ_I12136_12136 hmlp121_12139
              exact absurd hmlp121_12139 (Nat.not_lt_zero _)
            | succ mz ihlp121_12139 =>
              intro i12135 I12136 RI12136 hrI12136 hTI12136 hSI12136 hPI12136 hI12136 fiI12136 w12138 ew12138 w12139 ew12139 ai12135 bi12135 j0_I12136_12136 j1_I12136_12136 j2_I12136_12136 PW_I12136_12136 PQ_I12136_12136 hmlp121_12139
              have bw12138 := BT_get hI12136.1 43 1 2 (0) (0) (47) (by decide) 1 (by decide) (by decide)
              rw [ew12138] at bw12138
              have e12141 : I12136 (ad g 1) 1 = L := hI12136.2
              have b12142 := BT_get hI12136.1 1 1 2 (0) (0) (900) (by decide) 1 (by decide) (by decide)
              rw [e12141] at b12142
              rcases hPI12136 with ⟨hn121, hl121⟩ | ⟨hn121, hl121⟩
              · have W12142 := PW_I12136_12136 48 (by decide) hl121
                refine WP_iload dX2_search_121 rfl ?_
                refine WQ_if_lt 215 dX2_search_123 rfl (fun c12143 => ?_) (fun c12143 => ?_)
                · refine WP_aload_n dX2_search_215 rfl ?_
                  refine WQ_getim dX2_search_216 fX2_75 rfl (lyx_is hy 43 2 rfl) ew12138 ?_
                  exact WP_iret dX2_search_219 rfl ⟨⟨hI12136, ⟨hrI12136, ⟨hTI12136.trans hT.symm, hSI12136⟩, (Or.inl ⟨hn121, hl121⟩)⟩, fiI12136, fjJ12115⟩, _, rfl, by omega, by omega, (PQ_I12136_12136.resolve_left (by omega))⟩
                · refine WP_iload_n dX2_search_126 rfl ?_
                  refine WP_iload dX2_search_127 rfl ?_
                  refine WQ_iadd dX2_search_129 (by omega) (by omega) (fun v12145 hv12145 => ?_)
                  refine WQ_bipush (7) (7) dX2_search_130 rfl rfl (fun v12146 hv12146 => ?_)
                  refine WQ_iremk (7) dX2_search_132 hv12146 (by decide) (by omega) (fun v12147 hv12147 => ?_)
                  refine WP_istore (ls' := [(0, _), (1, _), (2, _), (3, _), (4, _), (5, _), (6, _), (7, _)]) dX2_search_133 (by decide) rfl ?_
                  refine WP_aload_n dX2_search_135 rfl ?_
                  refine WP_getr dX2_search_136 fX2_12 rfl (lyx_is hy 43 2 rfl) (rfx hrI12136 43 3 44 (by decide)) ?_
                  refine WP_aload_n dX2_search_139 rfl ?_
                  refine WP_getr dX2_search_140 fX2_32 rfl (lyx_is hy 43 2 rfl) (rfx hrI12136 43 2 5 (by decide)) ?_
                  refine WP_iload_n dX2_search_143 rfl ?_
                  refine WP_iload dX2_search_144 rfl ?_
                  refine WP_callV3 (k := 6) dX2_search_146 ⟨⟨⟨by decide, by decide⟩, zX6_load⟩, lX2_42, by decide, rfl, vX6_load.1, vX6_load.2⟩ (lyx_is hy 44 6 rfl) (sx_loadx_44_27 hy hrI12136 hTI12136 hI12136 so v12147 (by omega) (by omega) (by omega) (by omega)) (Nat.le_of_ble_eq_true rfl) ?_
                  intro r I12148 J12149 Ra hq
                  obtain ⟨⟨hI12148, ec, fiI12148, ejI12148, pI12148⟩, rfl⟩ := hq
                  rw [ec]
                  clear ec Ra
                  have fr12150 : fz 74 g [43, 44, 47, 48] I I12148 := fz_tr fiI12136 (fz_mono fiI12148 (by decide))
                  rw [ejI12148]
                  clear ejI12148 J12149
                  have ldI12148 := LD_fr pI12148 (fz_at fiI12136 27 (by decide) (by decide)) (fz_at fiI12136 32 (by decide) (by decide)) (fz_at fiI12136 34 (by decide) (by decide)) (fz_at fiI12136 35 (by decide) (by decide)) (fz_at fiI12136 36 (by decide) (by decide)) (fz_at fiI12136 22 (by decide) (by decide))
                  have WI12148 := W12142
                  rw [← fz_at fiI12148 48 (by decide) (by decide)] at WI12148
                  have e12151 : I12148 (ad g 43) 1 = w12138 := by rw [fz_at fiI12148 43 (by decide) (by decide)]; exact ew12138
                  have e12152 : I12148 (ad g 43) 8 = w12139 := by rw [fz_at fiI12148 43 (by decide) (by decide)]; exact ew12139
                  have e12153 : I12148 (ad g 1) 1 = L := hI12148.2
                  have b12154 := BT_get hI12148.1 1 1 2 (0) (0) (900) (by decide) 1 (by decide) (by decide)
                  rw [e12153] at b12154
                  refine WP_aload_n dX2_search_149 rfl ?_
                  refine WP_aload_n dX2_search_150 rfl ?_
                  refine WP_iload dX2_search_151 rfl ?_
                  refine WQ_if_ne 160 dX2_search_153 rfl (fun c12154 => ?_) (fun c12154 => ?_)
                  · refine WP_aload_n dX2_search_160 rfl ?_
                    refine WP_getr dX2_search_161 fX2_32 rfl (lyx_is hy 43 2 rfl) (rfx hrI12136 43 2 5 (by decide)) ?_
                    refine WP_getr dX2_search_164 fX2_46 rfl (lyx_is hy 5 0 rfl) hTI12136 ?_
                    refine WP_getr dX2_search_167 fX2_52 rfl (lyx_is hy 27 7 rfl) (rfx hrI12136 27 10 33 (by decide)) ?_
                    refine WP_iload_n dX2_search_170 rfl ?_
                    refine WQ_bipush (7) (7) dX2_search_171 rfl rfl (fun v12156 hv12156 => ?_)
                    refine WQ_imulk (7) dX2_search_173 hv12156 (by omega) (by omega) (fun v12157 hv12157 => ?_)
                    refine WP_iload dX2_search_174 rfl ?_
                    refine WQ_iadd dX2_search_176 (by omega) (by omega) (fun v12158 hv12158 => ?_)
                    refine WQ_iald dX2_search_177 (lyx_is hy 33 13 rfl) (lyx_n hy 33 28 rfl) (by omega) (by omega) (fun q hq => BT_get hI12148.1 33 0 28 (0) (0) (20) (by decide) q (Nat.zero_le _) hq) (fun v12159 av12159 bv12159 ev12159 => ?_)
                    refine WP_iload_n dX2_search_178 rfl ?_
                    refine WP_iload dX2_search_179 rfl ?_
                    refine WP_iload dX2_search_181 rfl ?_
                    refine WP_callV4 (k := 2) dX2_search_183 ⟨⟨⟨by decide, by decide⟩, zX2_weighDay⟩, lX2_71, by decide, rfl, vX2_weighDay.1, vX2_weighDay.2⟩ (lyx_is hy 43 2 rfl) (sx_weighDayx_48_27 hy hrI12136 hTI12136 hI12148 v12159 so v12147 i12135 (by omega) (by omega) (by omega) (by omega) (by omega) (by omega) (by omega) (by omega) (K := 594 * ((nn.toInt - 1) - i12135.toInt)) (by omega) hl121 hn121 (by rw [fz_at fiI12148 43 (by decide) (by decide), ew12139]; omega) (by rw [fz_at fr12150 24 (by decide) (by decide), fz_at fr12150 25 (by decide) (by decide), fz_at fr12150 26 (by decide) (by decide)]; exact WD_of WI12148 FN12122 ldI12148 (by unfold EA; rw [if_neg (by omega), show I (ad g (27 + 6)) = I12148 (ad g 33) from (fz_at fr12150 33 (by decide) (by decide)).symm, ← cl (x := v12158) (n := (7 * so.toInt + v12147.toInt).toNat) (by omega), ev12159]) (by omega) (by omega) (by omega) (ldx_p hI (by decide) _ _ _ (by omega) (by omega) ldI12148 (by omega) (by omega)) (sbx_b hI) (cbx_b hI (by omega) (by omega)))) (Nat.le_of_ble_eq_true rfl) ?_
                    intro r I12160 J12161 Ra hq
                    obtain ⟨⟨hI12160, ec, fiI12160, ejI12160, pI12160⟩, v12162, rfl, av12162, bv12162, cv12162⟩ := hq
                    show WP _ _ _ _ (.int _ :: _) _ _ _ _
                    rw [ec]
                    clear ec Ra
                    have fr12163 : fz 74 g [43, 44, 47, 48] I I12160 := fz_tr fr12150 (fz_mono fiI12160 (by decide))
                    rw [ejI12160]
                    clear ejI12160 J12161
                    have e12164 : I12160 (ad g 33) v12158.toNatClampNeg = v12159 := by rw [fz_at fiI12160 33 (by decide) (by decide)]; exact ev12159
                    have e12165 : I12160 (ad g 1) 1 = L := hI12160.2
                    have b12166 := BT_get hI12160.1 1 1 2 (0) (0) (900) (by decide) 1 (by decide) (by decide)
                    rw [e12165] at b12166
                    obtain ⟨w12167, ew12167⟩ : ∃ w : Int32, I12160 (ad g 43) 1 = w := ⟨_, rfl⟩
                    have bw12167 := BT_get hI12160.1 43 1 2 (0) (0) (47) (by decide) 1 (by decide) (by decide)
                    rw [ew12167] at bw12167
                    have vsI12160 := pI12160.1
                    have fuI12160 := pI12160.2
                    rw [ew12167] at fuI12160
                    refine WQ_puti dX2_search_186 fX2_67 rfl rfl (lyx_is hy 43 2 rfl) (fun I12168 eI12168 => ?_)
                    have hI12168 : XI g n L I12168 := by rw [eI12168]; exact (xi_f0 hy hI12160 (c := 43) (by decide) (Or.inl (by decide)) (by decide))
                    have e12169 : I12168 (ad g 33) v12158.toNatClampNeg = v12159 := by rw [eI12168, pp_ne _ _ (Or.inl (lyx_ne hy (by decide) (by decide) (by decide)))]; exact e12164
                    have e12170 : I12168 (ad g 1) 1 = L := by rw [eI12168, pp_ne _ _ (Or.inl (lyx_ne hy (by decide) (by decide) (by decide)))]; exact e12165
                    have e12171 : I12168 (ad g 43) 1 = w12167 := by rw [eI12168, pp_ne _ _ (Or.inr (by decide))]; exact ew12167
                    have e12172 : I12168 (ad g 43) 8 = v12162 := by rw [eI12168, pp_self]
                    have fr12173 : fz 74 g [43, 44, 47, 48] I I12168 := by rw [eI12168]; exact fzx_pp hy fr12163 (by decide) (by decide)
                    have VI12168 := vsI12160
                    rw [show I12160 (ad g 47) = I12168 (ad g 47) by rw [eI12168, pp_off _ _ (lyx_ne hy (by decide) (by decide) (by decide))]] at VI12168
                    clear eI12168
                    refine WP_aload_n dX2_search_189 rfl ?_
                    refine WP_getr dX2_search_190 fX2_29 rfl (lyx_is hy 43 2 rfl) hl121 ?_
                    refine WP_astore (ls' := [(0, _), (1, _), (2, _), (3, _), (4, _), (5, _), (6, _), (7, _), (8, _)]) dX2_search_193 (by decide) rfl ?_
                    refine WP_aload_n dX2_search_195 rfl ?_
                    refine WP_aload_n dX2_search_196 rfl ?_
                    refine WP_getr dX2_search_197 fX2_25 rfl (lyx_is hy 43 2 rfl) hn121 ?_
                    refine WP_putr dX2_search_200 fX2_29 rfl rfl rfl rfl (lyx_is hy 43 2 rfl) ?_
                    obtain ⟨R12174, eR12174⟩ : ∃ R9 : pR, R9 = pp RI12136 (ad g 43) 7 (some (ad g 47)) := ⟨_, rfl⟩
                    rw [← eR12174]
                    have hrR12174 : RfX g R12174 := by rw [eR12174]; exact rfx_pp hy hrI12136 (by decide)
                    have hSR12174 : R12174 (ad g 0) 10 = R (ad g 0) 10 := by rw [eR12174, pp_ne _ _ (Or.inl (lyx_ne hy (by decide) (by decide) (by decide)))]; exact hSI12136
                    have hTR12174 : R12174 (ad g 5) 0 = some (ad g 27) := by rw [eR12174, pp_ne _ _ (Or.inl (lyx_ne hy (by decide) (by decide) (by decide)))]; exact hTI12136
                    have hOR12174 : R12174 (ad g 43) 6 = some (ad g 47) := by rw [eR12174, pp_ne _ _ (Or.inr (by decide))]; exact hn121
                    have hQR12174 : R12174 (ad g 43) 7 = some (ad g 47) := by rw [eR12174, pp_self]
                    clear eR12174
                    refine WP_aload_n dX2_search_203 rfl ?_
                    refine WP_aload dX2_search_204 rfl ?_
                    refine WP_putr dX2_search_206 fX2_25 rfl rfl rfl rfl (lyx_is hy 43 2 rfl) ?_
                    obtain ⟨R12175, eR12175⟩ : ∃ R9 : pR, R9 = pp R12174 (ad g 43) 6 (some (ad g 48)) := ⟨_, rfl⟩
                    rw [← eR12175]
                    have hrR12175 : RfX g R12175 := by rw [eR12175]; exact rfx_pp hy hrR12174 (by decide)
                    have hSR12175 : R12175 (ad g 0) 10 = R (ad g 0) 10 := by rw [eR12175, pp_ne _ _ (Or.inl (lyx_ne hy (by decide) (by decide) (by decide)))]; exact hSR12174
                    have hTR12175 : R12175 (ad g 5) 0 = some (ad g 27) := by rw [eR12175, pp_ne _ _ (Or.inl (lyx_ne hy (by decide) (by decide) (by decide)))]; exact hTR12174
                    have hOR12175 : R12175 (ad g 43) 7 = some (ad g 47) := by rw [eR12175, pp_ne _ _ (Or.inr (by decide))]; exact hQR12174
                    have hQR12175 : R12175 (ad g 43) 6 = some (ad g 48) := by rw [eR12175, pp_self]
                    clear eR12175
                    refine WP_iinc (ls' := [(0, _), (1, _), (2, _), (3, _), (4, _), (5, _), (6, _), (7, _), (8, _)]) dX2_search_209 rfl (by decide) rfl ?_
                    have hv12176 : (i12135 + Int32.ofInt (-1)).toInt = i12135.toInt + (-1) := ia_n rfl (by omega) (by omega)
                    generalize i12135 + Int32.ofInt (-1) = v12176 at hv12176 ⊢
                    refine WP_goto 121 dX2_search_212 rfl ?_
                    exact WP_sub (fc rfl (fc rfl (fc rfl (fc rfl (fc rfl (fc rfl (fc rfl fn))))))) (ihlp121_12139 v12176 I12168 R12175 hrR12175 hTR12175 hSR12175 (Or.inr ⟨hQR12175, hOR12175⟩) hI12168 fr12173 w12167 e12171 v12162 e12172 (by omega) (by omega) (by omega) (by omega) (by omega) (fun q hq he => by have e := adx_inj hy hq (by decide) (Option.some.inj (he.symm.trans hOR12175)); subst e; exact WB_V VI12168 (by omega) (by omega)) (Or.inl (by omega)) (by omega))
                  · refine WQ_iconst (0) (0) dX2_search_156 rfl rfl (fun v12177 hv12177 => ?_)
                    refine WP_goto 178 dX2_search_157 rfl ?_
                    refine WP_iload_n dX2_search_178 rfl ?_
                    refine WP_iload dX2_search_179 rfl ?_
                    refine WP_iload dX2_search_181 rfl ?_
                    refine WP_callV4 (k := 2) dX2_search_183 ⟨⟨⟨by decide, by decide⟩, zX2_weighDay⟩, lX2_71, by decide, rfl, vX2_weighDay.1, vX2_weighDay.2⟩ (lyx_is hy 43 2 rfl) (sx_weighDayx_48_27 hy hrI12136 hTI12136 hI12148 v12177 so v12147 i12135 (by omega) (by omega) (by omega) (by omega) (by omega) (by omega) (by omega) (by omega) (K := 594 * ((nn.toInt - 1) - i12135.toInt)) (by omega) hl121 hn121 (by rw [fz_at fiI12148 43 (by decide) (by decide), ew12139]; omega) (by rw [fz_at fr12150 24 (by decide) (by decide), fz_at fr12150 25 (by decide) (by decide), fz_at fr12150 26 (by decide) (by decide)]; exact WD_of WI12148 FN12122 ldI12148 (by unfold EA; rw [if_pos (by omega)]; omega) (by omega) (by omega) (by omega) (ldx_p hI (by decide) _ _ _ (by omega) (by omega) ldI12148 (by omega) (by omega)) (sbx_b hI) (cbx_b hI (by omega) (by omega)))) (Nat.le_of_ble_eq_true rfl) ?_
                    intro r I12178 J12179 Ra hq
                    obtain ⟨⟨hI12178, ec, fiI12178, ejI12178, pI12178⟩, v12180, rfl, av12180, bv12180, cv12180⟩ := hq
                    show WP _ _ _ _ (.int _ :: _) _ _ _ _
                    rw [ec]
                    clear ec Ra
                    have fr12181 : fz 74 g [43, 44, 47, 48] I I12178 := fz_tr fr12150 (fz_mono fiI12178 (by decide))
                    rw [ejI12178]
                    clear ejI12178 J12179
                    have e12182 : I12178 (ad g 1) 1 = L := hI12178.2
                    have b12183 := BT_get hI12178.1 1 1 2 (0) (0) (900) (by decide) 1 (by decide) (by decide)
                    rw [e12182] at b12183
                    obtain ⟨w12184, ew12184⟩ : ∃ w : Int32, I12178 (ad g 43) 1 = w := ⟨_, rfl⟩
                    have bw12184 := BT_get hI12178.1 43 1 2 (0) (0) (47) (by decide) 1 (by decide) (by decide)
                    rw [ew12184] at bw12184
                    have vsI12178 := pI12178.1
                    have fuI12178 := pI12178.2
                    rw [ew12184] at fuI12178
                    refine WQ_puti dX2_search_186 fX2_67 rfl rfl (lyx_is hy 43 2 rfl) (fun I12185 eI12185 => ?_)
                    have hI12185 : XI g n L I12185 := by rw [eI12185]; exact (xi_f0 hy hI12178 (c := 43) (by decide) (Or.inl (by decide)) (by decide))
                    have e12186 : I12185 (ad g 1) 1 = L := by rw [eI12185, pp_ne _ _ (Or.inl (lyx_ne hy (by decide) (by decide) (by decide)))]; exact e12182
                    have e12187 : I12185 (ad g 43) 1 = w12184 := by rw [eI12185, pp_ne _ _ (Or.inr (by decide))]; exact ew12184
                    have e12188 : I12185 (ad g 43) 8 = v12180 := by rw [eI12185, pp_self]
                    have fr12189 : fz 74 g [43, 44, 47, 48] I I12185 := by rw [eI12185]; exact fzx_pp hy fr12181 (by decide) (by decide)
                    have VI12185 := vsI12178
                    rw [show I12178 (ad g 47) = I12185 (ad g 47) by rw [eI12185, pp_off _ _ (lyx_ne hy (by decide) (by decide) (by decide))]] at VI12185
                    clear eI12185
                    refine WP_aload_n dX2_search_189 rfl ?_
                    refine WP_getr dX2_search_190 fX2_29 rfl (lyx_is hy 43 2 rfl) hl121 ?_
                    refine WP_astore (ls' := [(0, _), (1, _), (2, _), (3, _), (4, _), (5, _), (6, _), (7, _), (8, _)]) dX2_search_193 (by decide) rfl ?_
                    refine WP_aload_n dX2_search_195 rfl ?_
                    refine WP_aload_n dX2_search_196 rfl ?_
                    refine WP_getr dX2_search_197 fX2_25 rfl (lyx_is hy 43 2 rfl) hn121 ?_
                    refine WP_putr dX2_search_200 fX2_29 rfl rfl rfl rfl (lyx_is hy 43 2 rfl) ?_
                    obtain ⟨R12190, eR12190⟩ : ∃ R9 : pR, R9 = pp RI12136 (ad g 43) 7 (some (ad g 47)) := ⟨_, rfl⟩
                    rw [← eR12190]
                    have hrR12190 : RfX g R12190 := by rw [eR12190]; exact rfx_pp hy hrI12136 (by decide)
                    have hSR12190 : R12190 (ad g 0) 10 = R (ad g 0) 10 := by rw [eR12190, pp_ne _ _ (Or.inl (lyx_ne hy (by decide) (by decide) (by decide)))]; exact hSI12136
                    have hTR12190 : R12190 (ad g 5) 0 = some (ad g 27) := by rw [eR12190, pp_ne _ _ (Or.inl (lyx_ne hy (by decide) (by decide) (by decide)))]; exact hTI12136
                    have hOR12190 : R12190 (ad g 43) 6 = some (ad g 47) := by rw [eR12190, pp_ne _ _ (Or.inr (by decide))]; exact hn121
                    have hQR12190 : R12190 (ad g 43) 7 = some (ad g 47) := by rw [eR12190, pp_self]
                    clear eR12190
                    refine WP_aload_n dX2_search_203 rfl ?_
                    refine WP_aload dX2_search_204 rfl ?_
                    refine WP_putr dX2_search_206 fX2_25 rfl rfl rfl rfl (lyx_is hy 43 2 rfl) ?_
                    obtain ⟨R12191, eR12191⟩ : ∃ R9 : pR, R9 = pp R12190 (ad g 43) 6 (some (ad g 48)) := ⟨_, rfl⟩
                    rw [← eR12191]
                    have hrR12191 : RfX g R12191 := by rw [eR12191]; exact rfx_pp hy hrR12190 (by decide)
                    have hSR12191 : R12191 (ad g 0) 10 = R (ad g 0) 10 := by rw [eR12191, pp_ne _ _ (Or.inl (lyx_ne hy (by decide) (by decide) (by decide)))]; exact hSR12190
                    have hTR12191 : R12191 (ad g 5) 0 = some (ad g 27) := by rw [eR12191, pp_ne _ _ (Or.inl (lyx_ne hy (by decide) (by decide) (by decide)))]; exact hTR12190
                    have hOR12191 : R12191 (ad g 43) 7 = some (ad g 47) := by rw [eR12191, pp_ne _ _ (Or.inr (by decide))]; exact hQR12190
                    have hQR12191 : R12191 (ad g 43) 6 = some (ad g 48) := by rw [eR12191, pp_self]
                    clear eR12191
                    refine WP_iinc (ls' := [(0, _), (1, _), (2, _), (3, _), (4, _), (5, _), (6, _), (7, _), (8, _)]) dX2_search_209 rfl (by decide) rfl ?_
                    have hv12192 : (i12135 + Int32.ofInt (-1)).toInt = i12135.toInt + (-1) := ia_n rfl (by omega) (by omega)
                    generalize i12135 + Int32.ofInt (-1) = v12192 at hv12192 ⊢
                    refine WP_goto 121 dX2_search_212 rfl ?_
                    exact WP_sub (fc rfl (fc rfl (fc rfl (fc rfl (fc rfl (fc rfl (fc rfl fn))))))) (ihlp121_12139 v12192 I12185 R12191 hrR12191 hTR12191 hSR12191 (Or.inr ⟨hQR12191, hOR12191⟩) hI12185 fr12189 w12184 e12187 v12180 e12188 (by omega) (by omega) (by omega) (by omega) (by omega) (fun q hq he => by have e := adx_inj hy hq (by decide) (Option.some.inj (he.symm.trans hOR12191)); subst e; exact WB_V VI12185 (by omega) (by omega)) (Or.inr ⟨_, by rw [show da.toInt = v12147.toInt by omega]; exact ldI12148, FU_end (by have z := fuI12178; rw [show i12135.toInt = (0 : Int) by omega] at z; exact z) PZ_I12114_12115 (by omega) (by omega) (by omega)⟩) (by omega))
              · have W12192 := PW_I12136_12136 47 (by decide) hl121
                refine WP_iload dX2_search_121 rfl ?_
                refine WQ_if_lt 215 dX2_search_123 rfl (fun c12193 => ?_) (fun c12193 => ?_)
                · refine WP_aload_n dX2_search_215 rfl ?_
                  refine WQ_getim dX2_search_216 fX2_75 rfl (lyx_is hy 43 2 rfl) ew12138 ?_
                  exact WP_iret dX2_search_219 rfl ⟨⟨hI12136, ⟨hrI12136, ⟨hTI12136.trans hT.symm, hSI12136⟩, (Or.inr ⟨hn121, hl121⟩)⟩, fiI12136, fjJ12115⟩, _, rfl, by omega, by omega, (PQ_I12136_12136.resolve_left (by omega))⟩
                · refine WP_iload_n dX2_search_126 rfl ?_
                  refine WP_iload dX2_search_127 rfl ?_
                  refine WQ_iadd dX2_search_129 (by omega) (by omega) (fun v12195 hv12195 => ?_)
                  refine WQ_bipush (7) (7) dX2_search_130 rfl rfl (fun v12196 hv12196 => ?_)
                  refine WQ_iremk (7) dX2_search_132 hv12196 (by decide) (by omega) (fun v12197 hv12197 => ?_)
                  refine WP_istore (ls' := [(0, _), (1, _), (2, _), (3, _), (4, _), (5, _), (6, _), (7, _)]) dX2_search_133 (by decide) rfl ?_
                  refine WP_aload_n dX2_search_135 rfl ?_
                  refine WP_getr dX2_search_136 fX2_12 rfl (lyx_is hy 43 2 rfl) (rfx hrI12136 43 3 44 (by decide)) ?_
                  refine WP_aload_n dX2_search_139 rfl ?_
                  refine WP_getr dX2_search_140 fX2_32 rfl (lyx_is hy 43 2 rfl) (rfx hrI12136 43 2 5 (by decide)) ?_
                  refine WP_iload_n dX2_search_143 rfl ?_
                  refine WP_iload dX2_search_144 rfl ?_
                  refine WP_callV3 (k := 6) dX2_search_146 ⟨⟨⟨by decide, by decide⟩, zX6_load⟩, lX2_42, by decide, rfl, vX6_load.1, vX6_load.2⟩ (lyx_is hy 44 6 rfl) (sx_loadx_44_27 hy hrI12136 hTI12136 hI12136 so v12197 (by omega) (by omega) (by omega) (by omega)) (Nat.le_of_ble_eq_true rfl) ?_
                  intro r I12198 J12199 Ra hq
                  obtain ⟨⟨hI12198, ec, fiI12198, ejI12198, pI12198⟩, rfl⟩ := hq
                  rw [ec]
                  clear ec Ra
                  have fr12200 : fz 74 g [43, 44, 47, 48] I I12198 := fz_tr fiI12136 (fz_mono fiI12198 (by decide))
                  rw [ejI12198]
                  clear ejI12198 J12199
                  have ldI12198 := LD_fr pI12198 (fz_at fiI12136 27 (by decide) (by decide)) (fz_at fiI12136 32 (by decide) (by decide)) (fz_at fiI12136 34 (by decide) (by decide)) (fz_at fiI12136 35 (by decide) (by decide)) (fz_at fiI12136 36 (by decide) (by decide)) (fz_at fiI12136 22 (by decide) (by decide))
                  have WI12198 := W12192
                  rw [← fz_at fiI12198 47 (by decide) (by decide)] at WI12198
                  have e12201 : I12198 (ad g 43) 1 = w12138 := by rw [fz_at fiI12198 43 (by decide) (by decide)]; exact ew12138
                  have e12202 : I12198 (ad g 43) 8 = w12139 := by rw [fz_at fiI12198 43 (by decide) (by decide)]; exact ew12139
                  have e12203 : I12198 (ad g 1) 1 = L := hI12198.2
                  have b12204 := BT_get hI12198.1 1 1 2 (0) (0) (900) (by decide) 1 (by decide) (by decide)
                  rw [e12203] at b12204
                  refine WP_aload_n dX2_search_149 rfl ?_
                  refine WP_aload_n dX2_search_150 rfl ?_
                  refine WP_iload dX2_search_151 rfl ?_
                  refine WQ_if_ne 160 dX2_search_153 rfl (fun c12204 => ?_) (fun c12204 => ?_)
                  · refine WP_aload_n dX2_search_160 rfl ?_
                    refine WP_getr dX2_search_161 fX2_32 rfl (lyx_is hy 43 2 rfl) (rfx hrI12136 43 2 5 (by decide)) ?_
                    refine WP_getr dX2_search_164 fX2_46 rfl (lyx_is hy 5 0 rfl) hTI12136 ?_
                    refine WP_getr dX2_search_167 fX2_52 rfl (lyx_is hy 27 7 rfl) (rfx hrI12136 27 10 33 (by decide)) ?_
                    refine WP_iload_n dX2_search_170 rfl ?_
                    refine WQ_bipush (7) (7) dX2_search_171 rfl rfl (fun v12206 hv12206 => ?_)
                    refine WQ_imulk (7) dX2_search_173 hv12206 (by omega) (by omega) (fun v12207 hv12207 => ?_)
                    refine WP_iload dX2_search_174 rfl ?_
                    refine WQ_iadd dX2_search_176 (by omega) (by omega) (fun v12208 hv12208 => ?_)
                    refine WQ_iald dX2_search_177 (lyx_is hy 33 13 rfl) (lyx_n hy 33 28 rfl) (by omega) (by omega) (fun q hq => BT_get hI12198.1 33 0 28 (0) (0) (20) (by decide) q (Nat.zero_le _) hq) (fun v12209 av12209 bv12209 ev12209 => ?_)
                    refine WP_iload_n dX2_search_178 rfl ?_
                    refine WP_iload dX2_search_179 rfl ?_
                    refine WP_iload dX2_search_181 rfl ?_
                    refine WP_callV4 (k := 2) dX2_search_183 ⟨⟨⟨by decide, by decide⟩, zX2_weighDay⟩, lX2_71, by decide, rfl, vX2_weighDay.1, vX2_weighDay.2⟩ (lyx_is hy 43 2 rfl) (sx_weighDayx_47_27 hy hrI12136 hTI12136 hI12198 v12209 so v12197 i12135 (by omega) (by omega) (by omega) (by omega) (by omega) (by omega) (by omega) (by omega) (K := 594 * ((nn.toInt - 1) - i12135.toInt)) (by omega) hl121 hn121 (by rw [fz_at fiI12198 43 (by decide) (by decide), ew12139]; omega) (by rw [fz_at fr12200 24 (by decide) (by decide), fz_at fr12200 25 (by decide) (by decide), fz_at fr12200 26 (by decide) (by decide)]; exact WD_of WI12198 FN12122 ldI12198 (by unfold EA; rw [if_neg (by omega), show I (ad g (27 + 6)) = I12198 (ad g 33) from (fz_at fr12200 33 (by decide) (by decide)).symm, ← cl (x := v12208) (n := (7 * so.toInt + v12197.toInt).toNat) (by omega), ev12209]) (by omega) (by omega) (by omega) (ldx_p hI (by decide) _ _ _ (by omega) (by omega) ldI12198 (by omega) (by omega)) (sbx_b hI) (cbx_b hI (by omega) (by omega)))) (Nat.le_of_ble_eq_true rfl) ?_
                    intro r I12210 J12211 Ra hq
                    obtain ⟨⟨hI12210, ec, fiI12210, ejI12210, pI12210⟩, v12212, rfl, av12212, bv12212, cv12212⟩ := hq
                    show WP _ _ _ _ (.int _ :: _) _ _ _ _
                    rw [ec]
                    clear ec Ra
                    have fr12213 : fz 74 g [43, 44, 47, 48] I I12210 := fz_tr fr12200 (fz_mono fiI12210 (by decide))
                    rw [ejI12210]
                    clear ejI12210 J12211
                    have e12214 : I12210 (ad g 33) v12208.toNatClampNeg = v12209 := by rw [fz_at fiI12210 33 (by decide) (by decide)]; exact ev12209
                    have e12215 : I12210 (ad g 1) 1 = L := hI12210.2
                    have b12216 := BT_get hI12210.1 1 1 2 (0) (0) (900) (by decide) 1 (by decide) (by decide)
                    rw [e12215] at b12216
                    obtain ⟨w12217, ew12217⟩ : ∃ w : Int32, I12210 (ad g 43) 1 = w := ⟨_, rfl⟩
                    have bw12217 := BT_get hI12210.1 43 1 2 (0) (0) (47) (by decide) 1 (by decide) (by decide)
                    rw [ew12217] at bw12217
                    have vsI12210 := pI12210.1
                    have fuI12210 := pI12210.2
                    rw [ew12217] at fuI12210
                    refine WQ_puti dX2_search_186 fX2_67 rfl rfl (lyx_is hy 43 2 rfl) (fun I12218 eI12218 => ?_)
                    have hI12218 : XI g n L I12218 := by rw [eI12218]; exact (xi_f0 hy hI12210 (c := 43) (by decide) (Or.inl (by decide)) (by decide))
                    have e12219 : I12218 (ad g 33) v12208.toNatClampNeg = v12209 := by rw [eI12218, pp_ne _ _ (Or.inl (lyx_ne hy (by decide) (by decide) (by decide)))]; exact e12214
                    have e12220 : I12218 (ad g 1) 1 = L := by rw [eI12218, pp_ne _ _ (Or.inl (lyx_ne hy (by decide) (by decide) (by decide)))]; exact e12215
                    have e12221 : I12218 (ad g 43) 1 = w12217 := by rw [eI12218, pp_ne _ _ (Or.inr (by decide))]; exact ew12217
                    have e12222 : I12218 (ad g 43) 8 = v12212 := by rw [eI12218, pp_self]
                    have fr12223 : fz 74 g [43, 44, 47, 48] I I12218 := by rw [eI12218]; exact fzx_pp hy fr12213 (by decide) (by decide)
                    have VI12218 := vsI12210
                    rw [show I12210 (ad g 48) = I12218 (ad g 48) by rw [eI12218, pp_off _ _ (lyx_ne hy (by decide) (by decide) (by decide))]] at VI12218
                    clear eI12218
                    refine WP_aload_n dX2_search_189 rfl ?_
                    refine WP_getr dX2_search_190 fX2_29 rfl (lyx_is hy 43 2 rfl) hl121 ?_
                    refine WP_astore (ls' := [(0, _), (1, _), (2, _), (3, _), (4, _), (5, _), (6, _), (7, _), (8, _)]) dX2_search_193 (by decide) rfl ?_
                    refine WP_aload_n dX2_search_195 rfl ?_
                    refine WP_aload_n dX2_search_196 rfl ?_
                    refine WP_getr dX2_search_197 fX2_25 rfl (lyx_is hy 43 2 rfl) hn121 ?_
                    refine WP_putr dX2_search_200 fX2_29 rfl rfl rfl rfl (lyx_is hy 43 2 rfl) ?_
                    obtain ⟨R12224, eR12224⟩ : ∃ R9 : pR, R9 = pp RI12136 (ad g 43) 7 (some (ad g 48)) := ⟨_, rfl⟩
                    rw [← eR12224]
                    have hrR12224 : RfX g R12224 := by rw [eR12224]; exact rfx_pp hy hrI12136 (by decide)
                    have hSR12224 : R12224 (ad g 0) 10 = R (ad g 0) 10 := by rw [eR12224, pp_ne _ _ (Or.inl (lyx_ne hy (by decide) (by decide) (by decide)))]; exact hSI12136
                    have hTR12224 : R12224 (ad g 5) 0 = some (ad g 27) := by rw [eR12224, pp_ne _ _ (Or.inl (lyx_ne hy (by decide) (by decide) (by decide)))]; exact hTI12136
                    have hOR12224 : R12224 (ad g 43) 6 = some (ad g 48) := by rw [eR12224, pp_ne _ _ (Or.inr (by decide))]; exact hn121
                    have hQR12224 : R12224 (ad g 43) 7 = some (ad g 48) := by rw [eR12224, pp_self]
                    clear eR12224
                    refine WP_aload_n dX2_search_203 rfl ?_
                    refine WP_aload dX2_search_204 rfl ?_
                    refine WP_putr dX2_search_206 fX2_25 rfl rfl rfl rfl (lyx_is hy 43 2 rfl) ?_
                    obtain ⟨R12225, eR12225⟩ : ∃ R9 : pR, R9 = pp R12224 (ad g 43) 6 (some (ad g 47)) := ⟨_, rfl⟩
                    rw [← eR12225]
                    have hrR12225 : RfX g R12225 := by rw [eR12225]; exact rfx_pp hy hrR12224 (by decide)
                    have hSR12225 : R12225 (ad g 0) 10 = R (ad g 0) 10 := by rw [eR12225, pp_ne _ _ (Or.inl (lyx_ne hy (by decide) (by decide) (by decide)))]; exact hSR12224
                    have hTR12225 : R12225 (ad g 5) 0 = some (ad g 27) := by rw [eR12225, pp_ne _ _ (Or.inl (lyx_ne hy (by decide) (by decide) (by decide)))]; exact hTR12224
                    have hOR12225 : R12225 (ad g 43) 7 = some (ad g 48) := by rw [eR12225, pp_ne _ _ (Or.inr (by decide))]; exact hQR12224
                    have hQR12225 : R12225 (ad g 43) 6 = some (ad g 47) := by rw [eR12225, pp_self]
                    clear eR12225
                    refine WP_iinc (ls' := [(0, _), (1, _), (2, _), (3, _), (4, _), (5, _), (6, _), (7, _), (8, _)]) dX2_search_209 rfl (by decide) rfl ?_
                    have hv12226 : (i12135 + Int32.ofInt (-1)).toInt = i12135.toInt + (-1) := ia_n rfl (by omega) (by omega)
                    generalize i12135 + Int32.ofInt (-1) = v12226 at hv12226 ⊢
                    refine WP_goto 121 dX2_search_212 rfl ?_
                    exact WP_sub (fc rfl (fc rfl (fc rfl (fc rfl (fc rfl (fc rfl (fc rfl fn))))))) (ihlp121_12139 v12226 I12218 R12225 hrR12225 hTR12225 hSR12225 (Or.inl ⟨hQR12225, hOR12225⟩) hI12218 fr12223 w12217 e12221 v12212 e12222 (by omega) (by omega) (by omega) (by omega) (by omega) (fun q hq he => by have e := adx_inj hy hq (by decide) (Option.some.inj (he.symm.trans hOR12225)); subst e; exact WB_V VI12218 (by omega) (by omega)) (Or.inl (by omega)) (by omega))
                  · refine WQ_iconst (0) (0) dX2_search_156 rfl rfl (fun v12227 hv12227 => ?_)
                    refine WP_goto 178 dX2_search_157 rfl ?_
                    refine WP_iload_n dX2_search_178 rfl ?_
                    refine WP_iload dX2_search_179 rfl ?_
                    refine WP_iload dX2_search_181 rfl ?_
                    refine WP_callV4 (k := 2) dX2_search_183 ⟨⟨⟨by decide, by decide⟩, zX2_weighDay⟩, lX2_71, by decide, rfl, vX2_weighDay.1, vX2_weighDay.2⟩ (lyx_is hy 43 2 rfl) (sx_weighDayx_47_27 hy hrI12136 hTI12136 hI12198 v12227 so v12197 i12135 (by omega) (by omega) (by omega) (by omega) (by omega) (by omega) (by omega) (by omega) (K := 594 * ((nn.toInt - 1) - i12135.toInt)) (by omega) hl121 hn121 (by rw [fz_at fiI12198 43 (by decide) (by decide), ew12139]; omega) (by rw [fz_at fr12200 24 (by decide) (by decide), fz_at fr12200 25 (by decide) (by decide), fz_at fr12200 26 (by decide) (by decide)]; exact WD_of WI12198 FN12122 ldI12198 (by unfold EA; rw [if_pos (by omega)]; omega) (by omega) (by omega) (by omega) (ldx_p hI (by decide) _ _ _ (by omega) (by omega) ldI12198 (by omega) (by omega)) (sbx_b hI) (cbx_b hI (by omega) (by omega)))) (Nat.le_of_ble_eq_true rfl) ?_
                    intro r I12228 J12229 Ra hq
                    obtain ⟨⟨hI12228, ec, fiI12228, ejI12228, pI12228⟩, v12230, rfl, av12230, bv12230, cv12230⟩ := hq
                    show WP _ _ _ _ (.int _ :: _) _ _ _ _
                    rw [ec]
                    clear ec Ra
                    have fr12231 : fz 74 g [43, 44, 47, 48] I I12228 := fz_tr fr12200 (fz_mono fiI12228 (by decide))
                    rw [ejI12228]
                    clear ejI12228 J12229
                    have e12232 : I12228 (ad g 1) 1 = L := hI12228.2
                    have b12233 := BT_get hI12228.1 1 1 2 (0) (0) (900) (by decide) 1 (by decide) (by decide)
                    rw [e12232] at b12233
                    obtain ⟨w12234, ew12234⟩ : ∃ w : Int32, I12228 (ad g 43) 1 = w := ⟨_, rfl⟩
                    have bw12234 := BT_get hI12228.1 43 1 2 (0) (0) (47) (by decide) 1 (by decide) (by decide)
                    rw [ew12234] at bw12234
                    have vsI12228 := pI12228.1
                    have fuI12228 := pI12228.2
                    rw [ew12234] at fuI12228
                    refine WQ_puti dX2_search_186 fX2_67 rfl rfl (lyx_is hy 43 2 rfl) (fun I12235 eI12235 => ?_)
                    have hI12235 : XI g n L I12235 := by rw [eI12235]; exact (xi_f0 hy hI12228 (c := 43) (by decide) (Or.inl (by decide)) (by decide))
                    have e12236 : I12235 (ad g 1) 1 = L := by rw [eI12235, pp_ne _ _ (Or.inl (lyx_ne hy (by decide) (by decide) (by decide)))]; exact e12232
                    have e12237 : I12235 (ad g 43) 1 = w12234 := by rw [eI12235, pp_ne _ _ (Or.inr (by decide))]; exact ew12234
                    have e12238 : I12235 (ad g 43) 8 = v12230 := by rw [eI12235, pp_self]
                    have fr12239 : fz 74 g [43, 44, 47, 48] I I12235 := by rw [eI12235]; exact fzx_pp hy fr12231 (by decide) (by decide)
                    have VI12235 := vsI12228
                    rw [show I12228 (ad g 48) = I12235 (ad g 48) by rw [eI12235, pp_off _ _ (lyx_ne hy (by decide) (by decide) (by decide))]] at VI12235
                    clear eI12235
                    refine WP_aload_n dX2_search_189 rfl ?_
                    refine WP_getr dX2_search_190 fX2_29 rfl (lyx_is hy 43 2 rfl) hl121 ?_
                    refine WP_astore (ls' := [(0, _), (1, _), (2, _), (3, _), (4, _), (5, _), (6, _), (7, _), (8, _)]) dX2_search_193 (by decide) rfl ?_
                    refine WP_aload_n dX2_search_195 rfl ?_
                    refine WP_aload_n dX2_search_196 rfl ?_
                    refine WP_getr dX2_search_197 fX2_25 rfl (lyx_is hy 43 2 rfl) hn121 ?_
                    refine WP_putr dX2_search_200 fX2_29 rfl rfl rfl rfl (lyx_is hy 43 2 rfl) ?_
                    obtain ⟨R12240, eR12240⟩ : ∃ R9 : pR, R9 = pp RI12136 (ad g 43) 7 (some (ad g 48)) := ⟨_, rfl⟩
                    rw [← eR12240]
                    have hrR12240 : RfX g R12240 := by rw [eR12240]; exact rfx_pp hy hrI12136 (by decide)
                    have hSR12240 : R12240 (ad g 0) 10 = R (ad g 0) 10 := by rw [eR12240, pp_ne _ _ (Or.inl (lyx_ne hy (by decide) (by decide) (by decide)))]; exact hSI12136
                    have hTR12240 : R12240 (ad g 5) 0 = some (ad g 27) := by rw [eR12240, pp_ne _ _ (Or.inl (lyx_ne hy (by decide) (by decide) (by decide)))]; exact hTI12136
                    have hOR12240 : R12240 (ad g 43) 6 = some (ad g 48) := by rw [eR12240, pp_ne _ _ (Or.inr (by decide))]; exact hn121
                    have hQR12240 : R12240 (ad g 43) 7 = some (ad g 48) := by rw [eR12240, pp_self]
                    clear eR12240
                    refine WP_aload_n dX2_search_203 rfl ?_
                    refine WP_aload dX2_search_204 rfl ?_
                    refine WP_putr dX2_search_206 fX2_25 rfl rfl rfl rfl (lyx_is hy 43 2 rfl) ?_
                    obtain ⟨R12241, eR12241⟩ : ∃ R9 : pR, R9 = pp R12240 (ad g 43) 6 (some (ad g 47)) := ⟨_, rfl⟩
                    rw [← eR12241]
                    have hrR12241 : RfX g R12241 := by rw [eR12241]; exact rfx_pp hy hrR12240 (by decide)
                    have hSR12241 : R12241 (ad g 0) 10 = R (ad g 0) 10 := by rw [eR12241, pp_ne _ _ (Or.inl (lyx_ne hy (by decide) (by decide) (by decide)))]; exact hSR12240
                    have hTR12241 : R12241 (ad g 5) 0 = some (ad g 27) := by rw [eR12241, pp_ne _ _ (Or.inl (lyx_ne hy (by decide) (by decide) (by decide)))]; exact hTR12240
                    have hOR12241 : R12241 (ad g 43) 7 = some (ad g 48) := by rw [eR12241, pp_ne _ _ (Or.inr (by decide))]; exact hQR12240
                    have hQR12241 : R12241 (ad g 43) 6 = some (ad g 47) := by rw [eR12241, pp_self]
                    clear eR12241
                    refine WP_iinc (ls' := [(0, _), (1, _), (2, _), (3, _), (4, _), (5, _), (6, _), (7, _), (8, _)]) dX2_search_209 rfl (by decide) rfl ?_
                    have hv12242 : (i12135 + Int32.ofInt (-1)).toInt = i12135.toInt + (-1) := ia_n rfl (by omega) (by omega)
                    generalize i12135 + Int32.ofInt (-1) = v12242 at hv12242 ⊢
                    refine WP_goto 121 dX2_search_212 rfl ?_
                    exact WP_sub (fc rfl (fc rfl (fc rfl (fc rfl (fc rfl (fc rfl (fc rfl fn))))))) (ihlp121_12139 v12242 I12235 R12241 hrR12241 hTR12241 hSR12241 (Or.inl ⟨hQR12241, hOR12241⟩) hI12235 fr12239 w12234 e12237 v12230 e12238 (by omega) (by omega) (by omega) (by omega) (by omega) (fun q hq he => by have e := adx_inj hy hq (by decide) (Option.some.inj (he.symm.trans hOR12241)); subst e; exact WB_V VI12235 (by omega) (by omega)) (Or.inr ⟨_, by rw [show da.toInt = v12197.toInt by omega]; exact ldI12198, FU_end (by have z := fuI12228; rw [show i12135.toInt = (0 : Int) by omega] at z; exact z) PZ_I12114_12115 (by omega) (by omega) (by omega)⟩) (by omega))
          obtain ⟨w12243, ew12243⟩ : ∃ w : Int32, I12129 (ad g 43) 1 = w := ⟨_, rfl⟩
          have bw12243 := BT_get hI12129.1 43 1 2 (0) (0) (47) (by decide) 1 (by decide) (by decide)
          rw [ew12243] at bw12243
          exact WP_sub (fc rfl (fc rfl (fc rfl (fc rfl (fc rfl (fc rfl (fc rfl fn))))))) (lp121_12139 _ v12134 I12129 RI12114 hrI12114 hTI12114 hSI12114 (Or.inl ⟨hn102, hl102⟩) hI12129 fr12132 w12243 ew12243 v12128 e12131 (by omega) (by omega) (by omega) (by omega) (by omega) (fun q hq he => by have e := adx_inj hy hq (by decide) (Option.some.inj (he.symm.trans hl102)); subst e; exact (by rw [show v12134.toInt = (nn.toInt - 1) by omega]; exact WI12129)) (Or.inl (by omega)) (Nat.lt_succ_self _))
        · have FN12243 : FWD g 27 I (J12115 (ad g 45)) so.toInt da.toInt (nn.toInt - 1) := by rw [show (nn.toInt - 1) = i12113.toInt by omega]; exact PF_I12114_12115
          refine WP_aload_n dX2_search_102 rfl ?_
          refine WP_getr dX2_search_103 fX2_29 rfl (lyx_is hy 43 2 rfl) hl102 ?_
          refine WQ_iconst (0) (0) dX2_search_106 rfl rfl (fun v12245 hv12245 => ?_)
          refine WP_callS2u dX2_search_107 ⟨⟨⟨by decide, by decide⟩, zJ7_fill_53178⟩, lX2_64, tJ7_fill_53178⟩ (s_fill hy hrI12114 47 366 rfl rfl (by decide) v12245) (Nat.le_of_ble_eq_true rfl) ?_
          obtain ⟨I12246, eI12246⟩ : ∃ I9 : pI, I9 = fi I12114 (ad g 47) 366 v12245 := ⟨_, rfl⟩
          rw [← eI12246]
          have hI12246 : XI g n L I12246 := by rw [eI12246]; exact (xi_fill0 hy hI12114 47 366 v12245 (by decide) (by decide))
          have e12247 : I12246 (ad g 1) 1 = L := by rw [eI12246, fi_off (lyx_ne hy (by decide) (by decide) (by decide))]; exact e12118
          have fr12248 : fz 74 g [43, 44, 47, 48] I I12246 := by rw [eI12246]; exact fzx_fi hy fiI12114 (by decide) (by decide)
          have WI12246 : WB (J12115 (ad g 45)) (I12246 (ad g 47)) (nn.toInt - 1) (nn.toInt - 1) := WB_0 eI12246 hv12245
          clear eI12246
          refine WP_aload_n dX2_search_110 rfl ?_
          refine WQ_iconst (0) (0) dX2_search_111 rfl rfl (fun v12249 hv12249 => ?_)
          refine WQ_puti dX2_search_112 fX2_67 rfl rfl (lyx_is hy 43 2 rfl) (fun I12250 eI12250 => ?_)
          have hI12250 : XI g n L I12250 := by rw [eI12250]; exact (xi_f0 hy hI12246 (c := 43) (by decide) (Or.inl (by decide)) (by decide))
          have e12251 : I12250 (ad g 1) 1 = L := by rw [eI12250, pp_ne _ _ (Or.inl (lyx_ne hy (by decide) (by decide) (by decide)))]; exact e12247
          have e12252 : I12250 (ad g 43) 8 = v12249 := by rw [eI12250, pp_self]
          have fr12253 : fz 74 g [43, 44, 47, 48] I I12250 := by rw [eI12250]; exact fzx_pp hy fr12248 (by decide) (by decide)
          have WI12250 : WB (J12115 (ad g 45)) (I12250 (ad g 47)) (nn.toInt - 1) (nn.toInt - 1) := by rw [eI12250, pp_off _ _ (lyx_ne hy (by decide) (by decide) (by decide))]; exact WI12246
          clear eI12250
          refine WP_iload dX2_search_115 rfl ?_
          refine WQ_iconst (1) (1) dX2_search_117 rfl rfl (fun v12254 hv12254 => ?_)
          refine WQ_isub dX2_search_118 (by omega) (by omega) (fun v12255 hv12255 => ?_)
          refine WP_istore (ls' := [(0, _), (1, _), (2, _), (3, _), (4, _), (5, _), (6, _)]) dX2_search_119 (by decide) rfl ?_
          have lp121_12260 : ∀ (mz : Nat) (i12256 : Int32) (I12257 : pI) (RI12257 : pR), RfX g RI12257 → RI12257 (ad g 5) 0 = some (ad g 27) → RI12257 (ad g 0) 10 = R (ad g 0) 10 → NL g RI12257 → XI g n L I12257 → fz 74 g [43, 44, 47, 48] I I12257 → ∀ (w12259 : Int32), I12257 (ad g 43) 1 = w12259 → ∀ (w12260 : Int32), I12257 (ad g 43) 8 = w12260 → -1 ≤ i12256.toInt → i12256.toInt ≤ 27 → i12256.toInt ≤ nn.toInt - 1 → 0 ≤ w12260.toInt → w12260.toInt ≤ 594 * (nn.toInt - 1 - i12256.toInt) → (∀ q : Nat, q < 74 → RI12257 (ad g 43) 7 = some (ad g q) → WB (J12115 (ad g 45)) (I12257 (ad g q)) (nn.toInt - 1) i12256.toInt) → (0 ≤ i12256.toInt ∨ ∃ T : Nat → Int32, LD g 27 I so.toInt da.toInt T ∧ AOKd T co.toInt st.toInt w12259.toInt) → (i12256.toInt + 1).toNat < mz → WP g mX2_search 121 [(0, .ref (ad g 43)), (1, .int so), (2, .int da), (3, .int co), (4, .int st), (5, .int nn), (6, .int i12256)] [] I12257 J12115 RI12257 (fun r I' J' R' => (XI g n L I' ∧ (RfX g R' ∧ (R' (ad g 5) 0 = R (ad g 5) 0 ∧ R' (ad g 0) 10 = R (ad g 0) 10) ∧ NL g R') ∧ fz 74 g [43, 44, 47, 48] I I' ∧ fz 74 g [45, 46] J J') ∧ ∃ v : Int32, r = some (.int v) ∧ 0 ≤ v.toInt ∧ v.toInt ≤ 47 ∧ (∃ T : Nat → Int32, LD g 27 I so.toInt da.toInt T ∧ AOKd T co.toInt st.toInt v.toInt)) := by
            intro mz
            induction mz with
            | zero =>
              intro i12256 I12257 RI12257 hrI12257 hTI12257 hSI12257 hPI12257 hI12257 fiI12257 w12259 ew12259 w12260 ew12260 ai12256 bi12256 j0_I12257_12257 j1_I12257_12257 j2_I12257_12257 PW_I12257_12257 PQ_I12257_12257 hmlp121_12260
              exact absurd hmlp121_12260 (Nat.not_lt_zero _)
            | succ mz ihlp121_12260 =>
              intro i12256 I12257 RI12257 hrI12257 hTI12257 hSI12257 hPI12257 hI12257 fiI12257 w12259 ew12259 w12260 ew12260 ai12256 bi12256 j0_I12257_12257 j1_I12257_12257 j2_I12257_12257 PW_I12257_12257 PQ_I12257_12257 hmlp121_12260
              have bw12259 := BT_get hI12257.1 43 1 2 (0) (0) (47) (by decide) 1 (by decide) (by decide)
              rw [ew12259] at bw12259
              have e12262 : I12257 (ad g 1) 1 = L := hI12257.2
              have b12263 := BT_get hI12257.1 1 1 2 (0) (0) (900) (by decide) 1 (by decide) (by decide)
              rw [e12262] at b12263
              rcases hPI12257 with ⟨hn121, hl121⟩ | ⟨hn121, hl121⟩
              · have W12263 := PW_I12257_12257 48 (by decide) hl121
                refine WP_iload dX2_search_121 rfl ?_
                refine WQ_if_lt 215 dX2_search_123 rfl (fun c12264 => ?_) (fun c12264 => ?_)
                · refine WP_aload_n dX2_search_215 rfl ?_
                  refine WQ_getim dX2_search_216 fX2_75 rfl (lyx_is hy 43 2 rfl) ew12259 ?_
                  exact WP_iret dX2_search_219 rfl ⟨⟨hI12257, ⟨hrI12257, ⟨hTI12257.trans hT.symm, hSI12257⟩, (Or.inl ⟨hn121, hl121⟩)⟩, fiI12257, fjJ12115⟩, _, rfl, by omega, by omega, (PQ_I12257_12257.resolve_left (by omega))⟩
                · refine WP_iload_n dX2_search_126 rfl ?_
                  refine WP_iload dX2_search_127 rfl ?_
                  refine WQ_iadd dX2_search_129 (by omega) (by omega) (fun v12266 hv12266 => ?_)
                  refine WQ_bipush (7) (7) dX2_search_130 rfl rfl (fun v12267 hv12267 => ?_)
                  refine WQ_iremk (7) dX2_search_132 hv12267 (by decide) (by omega) (fun v12268 hv12268 => ?_)
                  refine WP_istore (ls' := [(0, _), (1, _), (2, _), (3, _), (4, _), (5, _), (6, _), (7, _)]) dX2_search_133 (by decide) rfl ?_
                  refine WP_aload_n dX2_search_135 rfl ?_
                  refine WP_getr dX2_search_136 fX2_12 rfl (lyx_is hy 43 2 rfl) (rfx hrI12257 43 3 44 (by decide)) ?_
                  refine WP_aload_n dX2_search_139 rfl ?_
                  refine WP_getr dX2_search_140 fX2_32 rfl (lyx_is hy 43 2 rfl) (rfx hrI12257 43 2 5 (by decide)) ?_
                  refine WP_iload_n dX2_search_143 rfl ?_
                  refine WP_iload dX2_search_144 rfl ?_
                  refine WP_callV3 (k := 6) dX2_search_146 ⟨⟨⟨by decide, by decide⟩, zX6_load⟩, lX2_42, by decide, rfl, vX6_load.1, vX6_load.2⟩ (lyx_is hy 44 6 rfl) (sx_loadx_44_27 hy hrI12257 hTI12257 hI12257 so v12268 (by omega) (by omega) (by omega) (by omega)) (Nat.le_of_ble_eq_true rfl) ?_
                  intro r I12269 J12270 Ra hq
                  obtain ⟨⟨hI12269, ec, fiI12269, ejI12269, pI12269⟩, rfl⟩ := hq
                  rw [ec]
                  clear ec Ra
                  have fr12271 : fz 74 g [43, 44, 47, 48] I I12269 := fz_tr fiI12257 (fz_mono fiI12269 (by decide))
                  rw [ejI12269]
                  clear ejI12269 J12270
                  have ldI12269 := LD_fr pI12269 (fz_at fiI12257 27 (by decide) (by decide)) (fz_at fiI12257 32 (by decide) (by decide)) (fz_at fiI12257 34 (by decide) (by decide)) (fz_at fiI12257 35 (by decide) (by decide)) (fz_at fiI12257 36 (by decide) (by decide)) (fz_at fiI12257 22 (by decide) (by decide))
                  have WI12269 := W12263
                  rw [← fz_at fiI12269 48 (by decide) (by decide)] at WI12269
                  have e12272 : I12269 (ad g 43) 1 = w12259 := by rw [fz_at fiI12269 43 (by decide) (by decide)]; exact ew12259
                  have e12273 : I12269 (ad g 43) 8 = w12260 := by rw [fz_at fiI12269 43 (by decide) (by decide)]; exact ew12260
                  have e12274 : I12269 (ad g 1) 1 = L := hI12269.2
                  have b12275 := BT_get hI12269.1 1 1 2 (0) (0) (900) (by decide) 1 (by decide) (by decide)
                  rw [e12274] at b12275
                  refine WP_aload_n dX2_search_149 rfl ?_
                  refine WP_aload_n dX2_search_150 rfl ?_
                  refine WP_iload dX2_search_151 rfl ?_
                  refine WQ_if_ne 160 dX2_search_153 rfl (fun c12275 => ?_) (fun c12275 => ?_)
                  · refine WP_aload_n dX2_search_160 rfl ?_
                    refine WP_getr dX2_search_161 fX2_32 rfl (lyx_is hy 43 2 rfl) (rfx hrI12257 43 2 5 (by decide)) ?_
                    refine WP_getr dX2_search_164 fX2_46 rfl (lyx_is hy 5 0 rfl) hTI12257 ?_
                    refine WP_getr dX2_search_167 fX2_52 rfl (lyx_is hy 27 7 rfl) (rfx hrI12257 27 10 33 (by decide)) ?_
                    refine WP_iload_n dX2_search_170 rfl ?_
                    refine WQ_bipush (7) (7) dX2_search_171 rfl rfl (fun v12277 hv12277 => ?_)
                    refine WQ_imulk (7) dX2_search_173 hv12277 (by omega) (by omega) (fun v12278 hv12278 => ?_)
                    refine WP_iload dX2_search_174 rfl ?_
                    refine WQ_iadd dX2_search_176 (by omega) (by omega) (fun v12279 hv12279 => ?_)
                    refine WQ_iald dX2_search_177 (lyx_is hy 33 13 rfl) (lyx_n hy 33 28 rfl) (by omega) (by omega) (fun q hq => BT_get hI12269.1 33 0 28 (0) (0) (20) (by decide) q (Nat.zero_le _) hq) (fun v12280 av12280 bv12280 ev12280 => ?_)
                    refine WP_iload_n dX2_search_178 rfl ?_
                    refine WP_iload dX2_search_179 rfl ?_
                    refine WP_iload dX2_search_181 rfl ?_
                    refine WP_callV4 (k := 2) dX2_search_183 ⟨⟨⟨by decide, by decide⟩, zX2_weighDay⟩, lX2_71, by decide, rfl, vX2_weighDay.1, vX2_weighDay.2⟩ (lyx_is hy 43 2 rfl) (sx_weighDayx_48_27 hy hrI12257 hTI12257 hI12269 v12280 so v12268 i12256 (by omega) (by omega) (by omega) (by omega) (by omega) (by omega) (by omega) (by omega) (K := 594 * ((nn.toInt - 1) - i12256.toInt)) (by omega) hl121 hn121 (by rw [fz_at fiI12269 43 (by decide) (by decide), ew12260]; omega) (by rw [fz_at fr12271 24 (by decide) (by decide), fz_at fr12271 25 (by decide) (by decide), fz_at fr12271 26 (by decide) (by decide)]; exact WD_of WI12269 FN12243 ldI12269 (by unfold EA; rw [if_neg (by omega), show I (ad g (27 + 6)) = I12269 (ad g 33) from (fz_at fr12271 33 (by decide) (by decide)).symm, ← cl (x := v12279) (n := (7 * so.toInt + v12268.toInt).toNat) (by omega), ev12280]) (by omega) (by omega) (by omega) (ldx_p hI (by decide) _ _ _ (by omega) (by omega) ldI12269 (by omega) (by omega)) (sbx_b hI) (cbx_b hI (by omega) (by omega)))) (Nat.le_of_ble_eq_true rfl) ?_
                    intro r I12281 J12282 Ra hq
                    obtain ⟨⟨hI12281, ec, fiI12281, ejI12281, pI12281⟩, v12283, rfl, av12283, bv12283, cv12283⟩ := hq
                    show WP _ _ _ _ (.int _ :: _) _ _ _ _
                    rw [ec]
                    clear ec Ra
                    have fr12284 : fz 74 g [43, 44, 47, 48] I I12281 := fz_tr fr12271 (fz_mono fiI12281 (by decide))
                    rw [ejI12281]
                    clear ejI12281 J12282
                    have e12285 : I12281 (ad g 33) v12279.toNatClampNeg = v12280 := by rw [fz_at fiI12281 33 (by decide) (by decide)]; exact ev12280
                    have e12286 : I12281 (ad g 1) 1 = L := hI12281.2
                    have b12287 := BT_get hI12281.1 1 1 2 (0) (0) (900) (by decide) 1 (by decide) (by decide)
                    rw [e12286] at b12287
                    obtain ⟨w12288, ew12288⟩ : ∃ w : Int32, I12281 (ad g 43) 1 = w := ⟨_, rfl⟩
                    have bw12288 := BT_get hI12281.1 43 1 2 (0) (0) (47) (by decide) 1 (by decide) (by decide)
                    rw [ew12288] at bw12288
                    have vsI12281 := pI12281.1
                    have fuI12281 := pI12281.2
                    rw [ew12288] at fuI12281
                    refine WQ_puti dX2_search_186 fX2_67 rfl rfl (lyx_is hy 43 2 rfl) (fun I12289 eI12289 => ?_)
                    have hI12289 : XI g n L I12289 := by rw [eI12289]; exact (xi_f0 hy hI12281 (c := 43) (by decide) (Or.inl (by decide)) (by decide))
                    have e12290 : I12289 (ad g 33) v12279.toNatClampNeg = v12280 := by rw [eI12289, pp_ne _ _ (Or.inl (lyx_ne hy (by decide) (by decide) (by decide)))]; exact e12285
                    have e12291 : I12289 (ad g 1) 1 = L := by rw [eI12289, pp_ne _ _ (Or.inl (lyx_ne hy (by decide) (by decide) (by decide)))]; exact e12286
                    have e12292 : I12289 (ad g 43) 1 = w12288 := by rw [eI12289, pp_ne _ _ (Or.inr (by decide))]; exact ew12288
                    have e12293 : I12289 (ad g 43) 8 = v12283 := by rw [eI12289, pp_self]
                    have fr12294 : fz 74 g [43, 44, 47, 48] I I12289 := by rw [eI12289]; exact fzx_pp hy fr12284 (by decide) (by decide)
                    have VI12289 := vsI12281
                    rw [show I12281 (ad g 47) = I12289 (ad g 47) by rw [eI12289, pp_off _ _ (lyx_ne hy (by decide) (by decide) (by decide))]] at VI12289
                    clear eI12289
                    refine WP_aload_n dX2_search_189 rfl ?_
                    refine WP_getr dX2_search_190 fX2_29 rfl (lyx_is hy 43 2 rfl) hl121 ?_
                    refine WP_astore (ls' := [(0, _), (1, _), (2, _), (3, _), (4, _), (5, _), (6, _), (7, _), (8, _)]) dX2_search_193 (by decide) rfl ?_
                    refine WP_aload_n dX2_search_195 rfl ?_
                    refine WP_aload_n dX2_search_196 rfl ?_
                    refine WP_getr dX2_search_197 fX2_25 rfl (lyx_is hy 43 2 rfl) hn121 ?_
                    refine WP_putr dX2_search_200 fX2_29 rfl rfl rfl rfl (lyx_is hy 43 2 rfl) ?_
                    obtain ⟨R12295, eR12295⟩ : ∃ R9 : pR, R9 = pp RI12257 (ad g 43) 7 (some (ad g 47)) := ⟨_, rfl⟩
                    rw [← eR12295]
                    have hrR12295 : RfX g R12295 := by rw [eR12295]; exact rfx_pp hy hrI12257 (by decide)
                    have hSR12295 : R12295 (ad g 0) 10 = R (ad g 0) 10 := by rw [eR12295, pp_ne _ _ (Or.inl (lyx_ne hy (by decide) (by decide) (by decide)))]; exact hSI12257
                    have hTR12295 : R12295 (ad g 5) 0 = some (ad g 27) := by rw [eR12295, pp_ne _ _ (Or.inl (lyx_ne hy (by decide) (by decide) (by decide)))]; exact hTI12257
                    have hOR12295 : R12295 (ad g 43) 6 = some (ad g 47) := by rw [eR12295, pp_ne _ _ (Or.inr (by decide))]; exact hn121
                    have hQR12295 : R12295 (ad g 43) 7 = some (ad g 47) := by rw [eR12295, pp_self]
                    clear eR12295
                    refine WP_aload_n dX2_search_203 rfl ?_
                    refine WP_aload dX2_search_204 rfl ?_
                    refine WP_putr dX2_search_206 fX2_25 rfl rfl rfl rfl (lyx_is hy 43 2 rfl) ?_
                    obtain ⟨R12296, eR12296⟩ : ∃ R9 : pR, R9 = pp R12295 (ad g 43) 6 (some (ad g 48)) := ⟨_, rfl⟩
                    rw [← eR12296]
                    have hrR12296 : RfX g R12296 := by rw [eR12296]; exact rfx_pp hy hrR12295 (by decide)
                    have hSR12296 : R12296 (ad g 0) 10 = R (ad g 0) 10 := by rw [eR12296, pp_ne _ _ (Or.inl (lyx_ne hy (by decide) (by decide) (by decide)))]; exact hSR12295
                    have hTR12296 : R12296 (ad g 5) 0 = some (ad g 27) := by rw [eR12296, pp_ne _ _ (Or.inl (lyx_ne hy (by decide) (by decide) (by decide)))]; exact hTR12295
                    have hOR12296 : R12296 (ad g 43) 7 = some (ad g 47) := by rw [eR12296, pp_ne _ _ (Or.inr (by decide))]; exact hQR12295
                    have hQR12296 : R12296 (ad g 43) 6 = some (ad g 48) := by rw [eR12296, pp_self]
                    clear eR12296
                    refine WP_iinc (ls' := [(0, _), (1, _), (2, _), (3, _), (4, _), (5, _), (6, _), (7, _), (8, _)]) dX2_search_209 rfl (by decide) rfl ?_
                    have hv12297 : (i12256 + Int32.ofInt (-1)).toInt = i12256.toInt + (-1) := ia_n rfl (by omega) (by omega)
                    generalize i12256 + Int32.ofInt (-1) = v12297 at hv12297 ⊢
                    refine WP_goto 121 dX2_search_212 rfl ?_
                    exact WP_sub (fc rfl (fc rfl (fc rfl (fc rfl (fc rfl (fc rfl (fc rfl fn))))))) (ihlp121_12260 v12297 I12289 R12296 hrR12296 hTR12296 hSR12296 (Or.inr ⟨hQR12296, hOR12296⟩) hI12289 fr12294 w12288 e12292 v12283 e12293 (by omega) (by omega) (by omega) (by omega) (by omega) (fun q hq he => by have e := adx_inj hy hq (by decide) (Option.some.inj (he.symm.trans hOR12296)); subst e; exact WB_V VI12289 (by omega) (by omega)) (Or.inl (by omega)) (by omega))
                  · refine WQ_iconst (0) (0) dX2_search_156 rfl rfl (fun v12298 hv12298 => ?_)
                    refine WP_goto 178 dX2_search_157 rfl ?_
                    refine WP_iload_n dX2_search_178 rfl ?_
                    refine WP_iload dX2_search_179 rfl ?_
                    refine WP_iload dX2_search_181 rfl ?_
                    refine WP_callV4 (k := 2) dX2_search_183 ⟨⟨⟨by decide, by decide⟩, zX2_weighDay⟩, lX2_71, by decide, rfl, vX2_weighDay.1, vX2_weighDay.2⟩ (lyx_is hy 43 2 rfl) (sx_weighDayx_48_27 hy hrI12257 hTI12257 hI12269 v12298 so v12268 i12256 (by omega) (by omega) (by omega) (by omega) (by omega) (by omega) (by omega) (by omega) (K := 594 * ((nn.toInt - 1) - i12256.toInt)) (by omega) hl121 hn121 (by rw [fz_at fiI12269 43 (by decide) (by decide), ew12260]; omega) (by rw [fz_at fr12271 24 (by decide) (by decide), fz_at fr12271 25 (by decide) (by decide), fz_at fr12271 26 (by decide) (by decide)]; exact WD_of WI12269 FN12243 ldI12269 (by unfold EA; rw [if_pos (by omega)]; omega) (by omega) (by omega) (by omega) (ldx_p hI (by decide) _ _ _ (by omega) (by omega) ldI12269 (by omega) (by omega)) (sbx_b hI) (cbx_b hI (by omega) (by omega)))) (Nat.le_of_ble_eq_true rfl) ?_
                    intro r I12299 J12300 Ra hq
                    obtain ⟨⟨hI12299, ec, fiI12299, ejI12299, pI12299⟩, v12301, rfl, av12301, bv12301, cv12301⟩ := hq
                    show WP _ _ _ _ (.int _ :: _) _ _ _ _
                    rw [ec]
                    clear ec Ra
                    have fr12302 : fz 74 g [43, 44, 47, 48] I I12299 := fz_tr fr12271 (fz_mono fiI12299 (by decide))
                    rw [ejI12299]
                    clear ejI12299 J12300
                    have e12303 : I12299 (ad g 1) 1 = L := hI12299.2
                    have b12304 := BT_get hI12299.1 1 1 2 (0) (0) (900) (by decide) 1 (by decide) (by decide)
                    rw [e12303] at b12304
                    obtain ⟨w12305, ew12305⟩ : ∃ w : Int32, I12299 (ad g 43) 1 = w := ⟨_, rfl⟩
                    have bw12305 := BT_get hI12299.1 43 1 2 (0) (0) (47) (by decide) 1 (by decide) (by decide)
                    rw [ew12305] at bw12305
                    have vsI12299 := pI12299.1
                    have fuI12299 := pI12299.2
                    rw [ew12305] at fuI12299
                    refine WQ_puti dX2_search_186 fX2_67 rfl rfl (lyx_is hy 43 2 rfl) (fun I12306 eI12306 => ?_)
                    have hI12306 : XI g n L I12306 := by rw [eI12306]; exact (xi_f0 hy hI12299 (c := 43) (by decide) (Or.inl (by decide)) (by decide))
                    have e12307 : I12306 (ad g 1) 1 = L := by rw [eI12306, pp_ne _ _ (Or.inl (lyx_ne hy (by decide) (by decide) (by decide)))]; exact e12303
                    have e12308 : I12306 (ad g 43) 1 = w12305 := by rw [eI12306, pp_ne _ _ (Or.inr (by decide))]; exact ew12305
                    have e12309 : I12306 (ad g 43) 8 = v12301 := by rw [eI12306, pp_self]
                    have fr12310 : fz 74 g [43, 44, 47, 48] I I12306 := by rw [eI12306]; exact fzx_pp hy fr12302 (by decide) (by decide)
                    have VI12306 := vsI12299
                    rw [show I12299 (ad g 47) = I12306 (ad g 47) by rw [eI12306, pp_off _ _ (lyx_ne hy (by decide) (by decide) (by decide))]] at VI12306
                    clear eI12306
                    refine WP_aload_n dX2_search_189 rfl ?_
                    refine WP_getr dX2_search_190 fX2_29 rfl (lyx_is hy 43 2 rfl) hl121 ?_
                    refine WP_astore (ls' := [(0, _), (1, _), (2, _), (3, _), (4, _), (5, _), (6, _), (7, _), (8, _)]) dX2_search_193 (by decide) rfl ?_
                    refine WP_aload_n dX2_search_195 rfl ?_
                    refine WP_aload_n dX2_search_196 rfl ?_
                    refine WP_getr dX2_search_197 fX2_25 rfl (lyx_is hy 43 2 rfl) hn121 ?_
                    refine WP_putr dX2_search_200 fX2_29 rfl rfl rfl rfl (lyx_is hy 43 2 rfl) ?_
                    obtain ⟨R12311, eR12311⟩ : ∃ R9 : pR, R9 = pp RI12257 (ad g 43) 7 (some (ad g 47)) := ⟨_, rfl⟩
                    rw [← eR12311]
                    have hrR12311 : RfX g R12311 := by rw [eR12311]; exact rfx_pp hy hrI12257 (by decide)
                    have hSR12311 : R12311 (ad g 0) 10 = R (ad g 0) 10 := by rw [eR12311, pp_ne _ _ (Or.inl (lyx_ne hy (by decide) (by decide) (by decide)))]; exact hSI12257
                    have hTR12311 : R12311 (ad g 5) 0 = some (ad g 27) := by rw [eR12311, pp_ne _ _ (Or.inl (lyx_ne hy (by decide) (by decide) (by decide)))]; exact hTI12257
                    have hOR12311 : R12311 (ad g 43) 6 = some (ad g 47) := by rw [eR12311, pp_ne _ _ (Or.inr (by decide))]; exact hn121
                    have hQR12311 : R12311 (ad g 43) 7 = some (ad g 47) := by rw [eR12311, pp_self]
                    clear eR12311
                    refine WP_aload_n dX2_search_203 rfl ?_
                    refine WP_aload dX2_search_204 rfl ?_
                    refine WP_putr dX2_search_206 fX2_25 rfl rfl rfl rfl (lyx_is hy 43 2 rfl) ?_
                    obtain ⟨R12312, eR12312⟩ : ∃ R9 : pR, R9 = pp R12311 (ad g 43) 6 (some (ad g 48)) := ⟨_, rfl⟩
                    rw [← eR12312]
                    have hrR12312 : RfX g R12312 := by rw [eR12312]; exact rfx_pp hy hrR12311 (by decide)
                    have hSR12312 : R12312 (ad g 0) 10 = R (ad g 0) 10 := by rw [eR12312, pp_ne _ _ (Or.inl (lyx_ne hy (by decide) (by decide) (by decide)))]; exact hSR12311
                    have hTR12312 : R12312 (ad g 5) 0 = some (ad g 27) := by rw [eR12312, pp_ne _ _ (Or.inl (lyx_ne hy (by decide) (by decide) (by decide)))]; exact hTR12311
                    have hOR12312 : R12312 (ad g 43) 7 = some (ad g 47) := by rw [eR12312, pp_ne _ _ (Or.inr (by decide))]; exact hQR12311
                    have hQR12312 : R12312 (ad g 43) 6 = some (ad g 48) := by rw [eR12312, pp_self]
                    clear eR12312
                    refine WP_iinc (ls' := [(0, _), (1, _), (2, _), (3, _), (4, _), (5, _), (6, _), (7, _), (8, _)]) dX2_search_209 rfl (by decide) rfl ?_
                    have hv12313 : (i12256 + Int32.ofInt (-1)).toInt = i12256.toInt + (-1) := ia_n rfl (by omega) (by omega)
                    generalize i12256 + Int32.ofInt (-1) = v12313 at hv12313 ⊢
                    refine WP_goto 121 dX2_search_212 rfl ?_
                    exact WP_sub (fc rfl (fc rfl (fc rfl (fc rfl (fc rfl (fc rfl (fc rfl fn))))))) (ihlp121_12260 v12313 I12306 R12312 hrR12312 hTR12312 hSR12312 (Or.inr ⟨hQR12312, hOR12312⟩) hI12306 fr12310 w12305 e12308 v12301 e12309 (by omega) (by omega) (by omega) (by omega) (by omega) (fun q hq he => by have e := adx_inj hy hq (by decide) (Option.some.inj (he.symm.trans hOR12312)); subst e; exact WB_V VI12306 (by omega) (by omega)) (Or.inr ⟨_, by rw [show da.toInt = v12268.toInt by omega]; exact ldI12269, FU_end (by have z := fuI12299; rw [show i12256.toInt = (0 : Int) by omega] at z; exact z) PZ_I12114_12115 (by omega) (by omega) (by omega)⟩) (by omega))
              · have W12313 := PW_I12257_12257 47 (by decide) hl121
                refine WP_iload dX2_search_121 rfl ?_
                refine WQ_if_lt 215 dX2_search_123 rfl (fun c12314 => ?_) (fun c12314 => ?_)
                · refine WP_aload_n dX2_search_215 rfl ?_
                  refine WQ_getim dX2_search_216 fX2_75 rfl (lyx_is hy 43 2 rfl) ew12259 ?_
                  exact WP_iret dX2_search_219 rfl ⟨⟨hI12257, ⟨hrI12257, ⟨hTI12257.trans hT.symm, hSI12257⟩, (Or.inr ⟨hn121, hl121⟩)⟩, fiI12257, fjJ12115⟩, _, rfl, by omega, by omega, (PQ_I12257_12257.resolve_left (by omega))⟩
                · refine WP_iload_n dX2_search_126 rfl ?_
                  refine WP_iload dX2_search_127 rfl ?_
                  refine WQ_iadd dX2_search_129 (by omega) (by omega) (fun v12316 hv12316 => ?_)
                  refine WQ_bipush (7) (7) dX2_search_130 rfl rfl (fun v12317 hv12317 => ?_)
                  refine WQ_iremk (7) dX2_search_132 hv12317 (by decide) (by omega) (fun v12318 hv12318 => ?_)
                  refine WP_istore (ls' := [(0, _), (1, _), (2, _), (3, _), (4, _), (5, _), (6, _), (7, _)]) dX2_search_133 (by decide) rfl ?_
                  refine WP_aload_n dX2_search_135 rfl ?_
                  refine WP_getr dX2_search_136 fX2_12 rfl (lyx_is hy 43 2 rfl) (rfx hrI12257 43 3 44 (by decide)) ?_
                  refine WP_aload_n dX2_search_139 rfl ?_
                  refine WP_getr dX2_search_140 fX2_32 rfl (lyx_is hy 43 2 rfl) (rfx hrI12257 43 2 5 (by decide)) ?_
                  refine WP_iload_n dX2_search_143 rfl ?_
                  refine WP_iload dX2_search_144 rfl ?_
                  refine WP_callV3 (k := 6) dX2_search_146 ⟨⟨⟨by decide, by decide⟩, zX6_load⟩, lX2_42, by decide, rfl, vX6_load.1, vX6_load.2⟩ (lyx_is hy 44 6 rfl) (sx_loadx_44_27 hy hrI12257 hTI12257 hI12257 so v12318 (by omega) (by omega) (by omega) (by omega)) (Nat.le_of_ble_eq_true rfl) ?_
                  intro r I12319 J12320 Ra hq
                  obtain ⟨⟨hI12319, ec, fiI12319, ejI12319, pI12319⟩, rfl⟩ := hq
                  rw [ec]
                  clear ec Ra
                  have fr12321 : fz 74 g [43, 44, 47, 48] I I12319 := fz_tr fiI12257 (fz_mono fiI12319 (by decide))
                  rw [ejI12319]
                  clear ejI12319 J12320
                  have ldI12319 := LD_fr pI12319 (fz_at fiI12257 27 (by decide) (by decide)) (fz_at fiI12257 32 (by decide) (by decide)) (fz_at fiI12257 34 (by decide) (by decide)) (fz_at fiI12257 35 (by decide) (by decide)) (fz_at fiI12257 36 (by decide) (by decide)) (fz_at fiI12257 22 (by decide) (by decide))
                  have WI12319 := W12313
                  rw [← fz_at fiI12319 47 (by decide) (by decide)] at WI12319
                  have e12322 : I12319 (ad g 43) 1 = w12259 := by rw [fz_at fiI12319 43 (by decide) (by decide)]; exact ew12259
                  have e12323 : I12319 (ad g 43) 8 = w12260 := by rw [fz_at fiI12319 43 (by decide) (by decide)]; exact ew12260
                  have e12324 : I12319 (ad g 1) 1 = L := hI12319.2
                  have b12325 := BT_get hI12319.1 1 1 2 (0) (0) (900) (by decide) 1 (by decide) (by decide)
                  rw [e12324] at b12325
                  refine WP_aload_n dX2_search_149 rfl ?_
                  refine WP_aload_n dX2_search_150 rfl ?_
                  refine WP_iload dX2_search_151 rfl ?_
                  refine WQ_if_ne 160 dX2_search_153 rfl (fun c12325 => ?_) (fun c12325 => ?_)
                  · refine WP_aload_n dX2_search_160 rfl ?_
                    refine WP_getr dX2_search_161 fX2_32 rfl (lyx_is hy 43 2 rfl) (rfx hrI12257 43 2 5 (by decide)) ?_
                    refine WP_getr dX2_search_164 fX2_46 rfl (lyx_is hy 5 0 rfl) hTI12257 ?_
                    refine WP_getr dX2_search_167 fX2_52 rfl (lyx_is hy 27 7 rfl) (rfx hrI12257 27 10 33 (by decide)) ?_
                    refine WP_iload_n dX2_search_170 rfl ?_
                    refine WQ_bipush (7) (7) dX2_search_171 rfl rfl (fun v12327 hv12327 => ?_)
                    refine WQ_imulk (7) dX2_search_173 hv12327 (by omega) (by omega) (fun v12328 hv12328 => ?_)
                    refine WP_iload dX2_search_174 rfl ?_
                    refine WQ_iadd dX2_search_176 (by omega) (by omega) (fun v12329 hv12329 => ?_)
                    refine WQ_iald dX2_search_177 (lyx_is hy 33 13 rfl) (lyx_n hy 33 28 rfl) (by omega) (by omega) (fun q hq => BT_get hI12319.1 33 0 28 (0) (0) (20) (by decide) q (Nat.zero_le _) hq) (fun v12330 av12330 bv12330 ev12330 => ?_)
                    refine WP_iload_n dX2_search_178 rfl ?_
                    refine WP_iload dX2_search_179 rfl ?_
                    refine WP_iload dX2_search_181 rfl ?_
                    refine WP_callV4 (k := 2) dX2_search_183 ⟨⟨⟨by decide, by decide⟩, zX2_weighDay⟩, lX2_71, by decide, rfl, vX2_weighDay.1, vX2_weighDay.2⟩ (lyx_is hy 43 2 rfl) (sx_weighDayx_47_27 hy hrI12257 hTI12257 hI12319 v12330 so v12318 i12256 (by omega) (by omega) (by omega) (by omega) (by omega) (by omega) (by omega) (by omega) (K := 594 * ((nn.toInt - 1) - i12256.toInt)) (by omega) hl121 hn121 (by rw [fz_at fiI12319 43 (by decide) (by decide), ew12260]; omega) (by rw [fz_at fr12321 24 (by decide) (by decide), fz_at fr12321 25 (by decide) (by decide), fz_at fr12321 26 (by decide) (by decide)]; exact WD_of WI12319 FN12243 ldI12319 (by unfold EA; rw [if_neg (by omega), show I (ad g (27 + 6)) = I12319 (ad g 33) from (fz_at fr12321 33 (by decide) (by decide)).symm, ← cl (x := v12329) (n := (7 * so.toInt + v12318.toInt).toNat) (by omega), ev12330]) (by omega) (by omega) (by omega) (ldx_p hI (by decide) _ _ _ (by omega) (by omega) ldI12319 (by omega) (by omega)) (sbx_b hI) (cbx_b hI (by omega) (by omega)))) (Nat.le_of_ble_eq_true rfl) ?_
                    intro r I12331 J12332 Ra hq
                    obtain ⟨⟨hI12331, ec, fiI12331, ejI12331, pI12331⟩, v12333, rfl, av12333, bv12333, cv12333⟩ := hq
                    show WP _ _ _ _ (.int _ :: _) _ _ _ _
                    rw [ec]
                    clear ec Ra
                    have fr12334 : fz 74 g [43, 44, 47, 48] I I12331 := fz_tr fr12321 (fz_mono fiI12331 (by decide))
                    rw [ejI12331]
                    clear ejI12331 J12332
                    have e12335 : I12331 (ad g 33) v12329.toNatClampNeg = v12330 := by rw [fz_at fiI12331 33 (by decide) (by decide)]; exact ev12330
                    have e12336 : I12331 (ad g 1) 1 = L := hI12331.2
                    have b12337 := BT_get hI12331.1 1 1 2 (0) (0) (900) (by decide) 1 (by decide) (by decide)
                    rw [e12336] at b12337
                    obtain ⟨w12338, ew12338⟩ : ∃ w : Int32, I12331 (ad g 43) 1 = w := ⟨_, rfl⟩
                    have bw12338 := BT_get hI12331.1 43 1 2 (0) (0) (47) (by decide) 1 (by decide) (by decide)
                    rw [ew12338] at bw12338
                    have vsI12331 := pI12331.1
                    have fuI12331 := pI12331.2
                    rw [ew12338] at fuI12331
                    refine WQ_puti dX2_search_186 fX2_67 rfl rfl (lyx_is hy 43 2 rfl) (fun I12339 eI12339 => ?_)
                    have hI12339 : XI g n L I12339 := by rw [eI12339]; exact (xi_f0 hy hI12331 (c := 43) (by decide) (Or.inl (by decide)) (by decide))
                    have e12340 : I12339 (ad g 33) v12329.toNatClampNeg = v12330 := by rw [eI12339, pp_ne _ _ (Or.inl (lyx_ne hy (by decide) (by decide) (by decide)))]; exact e12335
                    have e12341 : I12339 (ad g 1) 1 = L := by rw [eI12339, pp_ne _ _ (Or.inl (lyx_ne hy (by decide) (by decide) (by decide)))]; exact e12336
                    have e12342 : I12339 (ad g 43) 1 = w12338 := by rw [eI12339, pp_ne _ _ (Or.inr (by decide))]; exact ew12338
                    have e12343 : I12339 (ad g 43) 8 = v12333 := by rw [eI12339, pp_self]
                    have fr12344 : fz 74 g [43, 44, 47, 48] I I12339 := by rw [eI12339]; exact fzx_pp hy fr12334 (by decide) (by decide)
                    have VI12339 := vsI12331
                    rw [show I12331 (ad g 48) = I12339 (ad g 48) by rw [eI12339, pp_off _ _ (lyx_ne hy (by decide) (by decide) (by decide))]] at VI12339
                    clear eI12339
                    refine WP_aload_n dX2_search_189 rfl ?_
                    refine WP_getr dX2_search_190 fX2_29 rfl (lyx_is hy 43 2 rfl) hl121 ?_
                    refine WP_astore (ls' := [(0, _), (1, _), (2, _), (3, _), (4, _), (5, _), (6, _), (7, _), (8, _)]) dX2_search_193 (by decide) rfl ?_
                    refine WP_aload_n dX2_search_195 rfl ?_
                    refine WP_aload_n dX2_search_196 rfl ?_
                    refine WP_getr dX2_search_197 fX2_25 rfl (lyx_is hy 43 2 rfl) hn121 ?_
                    refine WP_putr dX2_search_200 fX2_29 rfl rfl rfl rfl (lyx_is hy 43 2 rfl) ?_
                    obtain ⟨R12345, eR12345⟩ : ∃ R9 : pR, R9 = pp RI12257 (ad g 43) 7 (some (ad g 48)) := ⟨_, rfl⟩
                    rw [← eR12345]
                    have hrR12345 : RfX g R12345 := by rw [eR12345]; exact rfx_pp hy hrI12257 (by decide)
                    have hSR12345 : R12345 (ad g 0) 10 = R (ad g 0) 10 := by rw [eR12345, pp_ne _ _ (Or.inl (lyx_ne hy (by decide) (by decide) (by decide)))]; exact hSI12257
                    have hTR12345 : R12345 (ad g 5) 0 = some (ad g 27) := by rw [eR12345, pp_ne _ _ (Or.inl (lyx_ne hy (by decide) (by decide) (by decide)))]; exact hTI12257
                    have hOR12345 : R12345 (ad g 43) 6 = some (ad g 48) := by rw [eR12345, pp_ne _ _ (Or.inr (by decide))]; exact hn121
                    have hQR12345 : R12345 (ad g 43) 7 = some (ad g 48) := by rw [eR12345, pp_self]
                    clear eR12345
                    refine WP_aload_n dX2_search_203 rfl ?_
                    refine WP_aload dX2_search_204 rfl ?_
                    refine WP_putr dX2_search_206 fX2_25 rfl rfl rfl rfl (lyx_is hy 43 2 rfl) ?_
                    obtain ⟨R12346, eR12346⟩ : ∃ R9 : pR, R9 = pp R12345 (ad g 43) 6 (some (ad g 47)) := ⟨_, rfl⟩
                    rw [← eR12346]
                    have hrR12346 : RfX g R12346 := by rw [eR12346]; exact rfx_pp hy hrR12345 (by decide)
                    have hSR12346 : R12346 (ad g 0) 10 = R (ad g 0) 10 := by rw [eR12346, pp_ne _ _ (Or.inl (lyx_ne hy (by decide) (by decide) (by decide)))]; exact hSR12345
                    have hTR12346 : R12346 (ad g 5) 0 = some (ad g 27) := by rw [eR12346, pp_ne _ _ (Or.inl (lyx_ne hy (by decide) (by decide) (by decide)))]; exact hTR12345
                    have hOR12346 : R12346 (ad g 43) 7 = some (ad g 48) := by rw [eR12346, pp_ne _ _ (Or.inr (by decide))]; exact hQR12345
                    have hQR12346 : R12346 (ad g 43) 6 = some (ad g 47) := by rw [eR12346, pp_self]
                    clear eR12346
                    refine WP_iinc (ls' := [(0, _), (1, _), (2, _), (3, _), (4, _), (5, _), (6, _), (7, _), (8, _)]) dX2_search_209 rfl (by decide) rfl ?_
                    have hv12347 : (i12256 + Int32.ofInt (-1)).toInt = i12256.toInt + (-1) := ia_n rfl (by omega) (by omega)
                    generalize i12256 + Int32.ofInt (-1) = v12347 at hv12347 ⊢
                    refine WP_goto 121 dX2_search_212 rfl ?_
                    exact WP_sub (fc rfl (fc rfl (fc rfl (fc rfl (fc rfl (fc rfl (fc rfl fn))))))) (ihlp121_12260 v12347 I12339 R12346 hrR12346 hTR12346 hSR12346 (Or.inl ⟨hQR12346, hOR12346⟩) hI12339 fr12344 w12338 e12342 v12333 e12343 (by omega) (by omega) (by omega) (by omega) (by omega) (fun q hq he => by have e := adx_inj hy hq (by decide) (Option.some.inj (he.symm.trans hOR12346)); subst e; exact WB_V VI12339 (by omega) (by omega)) (Or.inl (by omega)) (by omega))
                  · refine WQ_iconst (0) (0) dX2_search_156 rfl rfl (fun v12348 hv12348 => ?_)
                    refine WP_goto 178 dX2_search_157 rfl ?_
                    refine WP_iload_n dX2_search_178 rfl ?_
                    refine WP_iload dX2_search_179 rfl ?_
                    refine WP_iload dX2_search_181 rfl ?_
                    refine WP_callV4 (k := 2) dX2_search_183 ⟨⟨⟨by decide, by decide⟩, zX2_weighDay⟩, lX2_71, by decide, rfl, vX2_weighDay.1, vX2_weighDay.2⟩ (lyx_is hy 43 2 rfl) (sx_weighDayx_47_27 hy hrI12257 hTI12257 hI12319 v12348 so v12318 i12256 (by omega) (by omega) (by omega) (by omega) (by omega) (by omega) (by omega) (by omega) (K := 594 * ((nn.toInt - 1) - i12256.toInt)) (by omega) hl121 hn121 (by rw [fz_at fiI12319 43 (by decide) (by decide), ew12260]; omega) (by rw [fz_at fr12321 24 (by decide) (by decide), fz_at fr12321 25 (by decide) (by decide), fz_at fr12321 26 (by decide) (by decide)]; exact WD_of WI12319 FN12243 ldI12319 (by unfold EA; rw [if_pos (by omega)]; omega) (by omega) (by omega) (by omega) (ldx_p hI (by decide) _ _ _ (by omega) (by omega) ldI12319 (by omega) (by omega)) (sbx_b hI) (cbx_b hI (by omega) (by omega)))) (Nat.le_of_ble_eq_true rfl) ?_
                    intro r I12349 J12350 Ra hq
                    obtain ⟨⟨hI12349, ec, fiI12349, ejI12349, pI12349⟩, v12351, rfl, av12351, bv12351, cv12351⟩ := hq
                    show WP _ _ _ _ (.int _ :: _) _ _ _ _
                    rw [ec]
                    clear ec Ra
                    have fr12352 : fz 74 g [43, 44, 47, 48] I I12349 := fz_tr fr12321 (fz_mono fiI12349 (by decide))
                    rw [ejI12349]
                    clear ejI12349 J12350
                    have e12353 : I12349 (ad g 1) 1 = L := hI12349.2
                    have b12354 := BT_get hI12349.1 1 1 2 (0) (0) (900) (by decide) 1 (by decide) (by decide)
                    rw [e12353] at b12354
                    obtain ⟨w12355, ew12355⟩ : ∃ w : Int32, I12349 (ad g 43) 1 = w := ⟨_, rfl⟩
                    have bw12355 := BT_get hI12349.1 43 1 2 (0) (0) (47) (by decide) 1 (by decide) (by decide)
                    rw [ew12355] at bw12355
                    have vsI12349 := pI12349.1
                    have fuI12349 := pI12349.2
                    rw [ew12355] at fuI12349
                    refine WQ_puti dX2_search_186 fX2_67 rfl rfl (lyx_is hy 43 2 rfl) (fun I12356 eI12356 => ?_)
                    have hI12356 : XI g n L I12356 := by rw [eI12356]; exact (xi_f0 hy hI12349 (c := 43) (by decide) (Or.inl (by decide)) (by decide))
                    have e12357 : I12356 (ad g 1) 1 = L := by rw [eI12356, pp_ne _ _ (Or.inl (lyx_ne hy (by decide) (by decide) (by decide)))]; exact e12353
                    have e12358 : I12356 (ad g 43) 1 = w12355 := by rw [eI12356, pp_ne _ _ (Or.inr (by decide))]; exact ew12355
                    have e12359 : I12356 (ad g 43) 8 = v12351 := by rw [eI12356, pp_self]
                    have fr12360 : fz 74 g [43, 44, 47, 48] I I12356 := by rw [eI12356]; exact fzx_pp hy fr12352 (by decide) (by decide)
                    have VI12356 := vsI12349
                    rw [show I12349 (ad g 48) = I12356 (ad g 48) by rw [eI12356, pp_off _ _ (lyx_ne hy (by decide) (by decide) (by decide))]] at VI12356
                    clear eI12356
                    refine WP_aload_n dX2_search_189 rfl ?_
                    refine WP_getr dX2_search_190 fX2_29 rfl (lyx_is hy 43 2 rfl) hl121 ?_
                    refine WP_astore (ls' := [(0, _), (1, _), (2, _), (3, _), (4, _), (5, _), (6, _), (7, _), (8, _)]) dX2_search_193 (by decide) rfl ?_
                    refine WP_aload_n dX2_search_195 rfl ?_
                    refine WP_aload_n dX2_search_196 rfl ?_
                    refine WP_getr dX2_search_197 fX2_25 rfl (lyx_is hy 43 2 rfl) hn121 ?_
                    refine WP_putr dX2_search_200 fX2_29 rfl rfl rfl rfl (lyx_is hy 43 2 rfl) ?_
                    obtain ⟨R12361, eR12361⟩ : ∃ R9 : pR, R9 = pp RI12257 (ad g 43) 7 (some (ad g 48)) := ⟨_, rfl⟩
                    rw [← eR12361]
                    have hrR12361 : RfX g R12361 := by rw [eR12361]; exact rfx_pp hy hrI12257 (by decide)
                    have hSR12361 : R12361 (ad g 0) 10 = R (ad g 0) 10 := by rw [eR12361, pp_ne _ _ (Or.inl (lyx_ne hy (by decide) (by decide) (by decide)))]; exact hSI12257
                    have hTR12361 : R12361 (ad g 5) 0 = some (ad g 27) := by rw [eR12361, pp_ne _ _ (Or.inl (lyx_ne hy (by decide) (by decide) (by decide)))]; exact hTI12257
                    have hOR12361 : R12361 (ad g 43) 6 = some (ad g 48) := by rw [eR12361, pp_ne _ _ (Or.inr (by decide))]; exact hn121
                    have hQR12361 : R12361 (ad g 43) 7 = some (ad g 48) := by rw [eR12361, pp_self]
                    clear eR12361
                    refine WP_aload_n dX2_search_203 rfl ?_
                    refine WP_aload dX2_search_204 rfl ?_
                    refine WP_putr dX2_search_206 fX2_25 rfl rfl rfl rfl (lyx_is hy 43 2 rfl) ?_
                    obtain ⟨R12362, eR12362⟩ : ∃ R9 : pR, R9 = pp R12361 (ad g 43) 6 (some (ad g 47)) := ⟨_, rfl⟩
                    rw [← eR12362]
                    have hrR12362 : RfX g R12362 := by rw [eR12362]; exact rfx_pp hy hrR12361 (by decide)
                    have hSR12362 : R12362 (ad g 0) 10 = R (ad g 0) 10 := by rw [eR12362, pp_ne _ _ (Or.inl (lyx_ne hy (by decide) (by decide) (by decide)))]; exact hSR12361
                    have hTR12362 : R12362 (ad g 5) 0 = some (ad g 27) := by rw [eR12362, pp_ne _ _ (Or.inl (lyx_ne hy (by decide) (by decide) (by decide)))]; exact hTR12361
                    have hOR12362 : R12362 (ad g 43) 7 = some (ad g 48) := by rw [eR12362, pp_ne _ _ (Or.inr (by decide))]; exact hQR12361
                    have hQR12362 : R12362 (ad g 43) 6 = some (ad g 47) := by rw [eR12362, pp_self]
                    clear eR12362
                    refine WP_iinc (ls' := [(0, _), (1, _), (2, _), (3, _), (4, _), (5, _), (6, _), (7, _), (8, _)]) dX2_search_209 rfl (by decide) rfl ?_
                    have hv12363 : (i12256 + Int32.ofInt (-1)).toInt = i12256.toInt + (-1) := ia_n rfl (by omega) (by omega)
                    generalize i12256 + Int32.ofInt (-1) = v12363 at hv12363 ⊢
                    refine WP_goto 121 dX2_search_212 rfl ?_
                    exact WP_sub (fc rfl (fc rfl (fc rfl (fc rfl (fc rfl (fc rfl (fc rfl fn))))))) (ihlp121_12260 v12363 I12356 R12362 hrR12362 hTR12362 hSR12362 (Or.inl ⟨hQR12362, hOR12362⟩) hI12356 fr12360 w12355 e12358 v12351 e12359 (by omega) (by omega) (by omega) (by omega) (by omega) (fun q hq he => by have e := adx_inj hy hq (by decide) (Option.some.inj (he.symm.trans hOR12362)); subst e; exact WB_V VI12356 (by omega) (by omega)) (Or.inr ⟨_, by rw [show da.toInt = v12318.toInt by omega]; exact ldI12319, FU_end (by have z := fuI12349; rw [show i12256.toInt = (0 : Int) by omega] at z; exact z) PZ_I12114_12115 (by omega) (by omega) (by omega)⟩) (by omega))
          obtain ⟨w12364, ew12364⟩ : ∃ w : Int32, I12250 (ad g 43) 1 = w := ⟨_, rfl⟩
          have bw12364 := BT_get hI12250.1 43 1 2 (0) (0) (47) (by decide) 1 (by decide) (by decide)
          rw [ew12364] at bw12364
          exact WP_sub (fc rfl (fc rfl (fc rfl (fc rfl (fc rfl (fc rfl (fc rfl fn))))))) (lp121_12260 _ v12255 I12250 RI12114 hrI12114 hTI12114 hSI12114 (Or.inr ⟨hn102, hl102⟩) hI12250 fr12253 w12364 ew12364 v12249 e12252 (by omega) (by omega) (by omega) (by omega) (by omega) (fun q hq he => by have e := adx_inj hy hq (by decide) (Option.some.inj (he.symm.trans hl102)); subst e; exact (by rw [show v12255.toInt = (nn.toInt - 1) by omega]; exact WI12250)) (Or.inl (by omega)) (Nat.lt_succ_self _))
      · refine WP_iload_n dX2_search_30 rfl ?_
        refine WP_iload dX2_search_31 rfl ?_
        refine WQ_iadd dX2_search_33 (by omega) (by omega) (fun v12365 hv12365 => ?_)
        refine WQ_bipush (7) (7) dX2_search_34 rfl rfl (fun v12366 hv12366 => ?_)
        refine WQ_iremk (7) dX2_search_36 hv12366 (by decide) (by omega) (fun v12367 hv12367 => ?_)
        refine WP_istore (ls' := [(0, _), (1, _), (2, _), (3, _), (4, _), (5, _), (6, _), (7, _)]) dX2_search_37 (by decide) rfl ?_
        refine WP_aload_n dX2_search_39 rfl ?_
        refine WP_getr dX2_search_40 fX2_12 rfl (lyx_is hy 43 2 rfl) (rfx hrI12114 43 3 44 (by decide)) ?_
        refine WP_aload_n dX2_search_43 rfl ?_
        refine WP_getr dX2_search_44 fX2_32 rfl (lyx_is hy 43 2 rfl) (rfx hrI12114 43 2 5 (by decide)) ?_
        refine WP_iload_n dX2_search_47 rfl ?_
        refine WP_iload dX2_search_48 rfl ?_
        refine WP_callV3 (k := 6) dX2_search_50 ⟨⟨⟨by decide, by decide⟩, zX6_load⟩, lX2_42, by decide, rfl, vX6_load.1, vX6_load.2⟩ (lyx_is hy 44 6 rfl) (sx_loadx_44_27 hy hrI12114 hTI12114 hI12114 so v12367 (by omega) (by omega) (by omega) (by omega)) (Nat.le_of_ble_eq_true rfl) ?_
        intro r I12368 J12369 Ra hq
        obtain ⟨⟨hI12368, ec, fiI12368, ejI12368, pI12368⟩, rfl⟩ := hq
        rw [ec]
        clear ec Ra
        have fr12370 : fz 74 g [43, 44, 47, 48] I I12368 := fz_tr fiI12114 (fz_mono fiI12368 (by decide))
        rw [ejI12368]
        clear ejI12368 J12369
        have ldI12368 := LD_fr pI12368 (fz_at fiI12114 27 (by decide) (by decide)) (fz_at fiI12114 32 (by decide) (by decide)) (fz_at fiI12114 34 (by decide) (by decide)) (fz_at fiI12114 35 (by decide) (by decide)) (fz_at fiI12114 36 (by decide) (by decide)) (fz_at fiI12114 22 (by decide) (by decide))
        have e12371 : I12368 (ad g 1) 1 = L := hI12368.2
        have b12372 := BT_get hI12368.1 1 1 2 (0) (0) (900) (by decide) 1 (by decide) (by decide)
        rw [e12371] at b12372
        refine WP_aload_n dX2_search_53 rfl ?_
        refine WP_iload dX2_search_54 rfl ?_
        refine WQ_if_ne 63 dX2_search_56 rfl (fun c12372 => ?_) (fun c12372 => ?_)
        · refine WP_aload_n dX2_search_63 rfl ?_
          refine WP_getr dX2_search_64 fX2_32 rfl (lyx_is hy 43 2 rfl) (rfx hrI12114 43 2 5 (by decide)) ?_
          refine WP_getr dX2_search_67 fX2_46 rfl (lyx_is hy 5 0 rfl) hTI12114 ?_
          refine WP_getr dX2_search_70 fX2_52 rfl (lyx_is hy 27 7 rfl) (rfx hrI12114 27 10 33 (by decide)) ?_
          refine WP_iload_n dX2_search_73 rfl ?_
          refine WQ_bipush (7) (7) dX2_search_74 rfl rfl (fun v12374 hv12374 => ?_)
          refine WQ_imulk (7) dX2_search_76 hv12374 (by omega) (by omega) (fun v12375 hv12375 => ?_)
          refine WP_iload dX2_search_77 rfl ?_
          refine WQ_iadd dX2_search_79 (by omega) (by omega) (fun v12376 hv12376 => ?_)
          refine WQ_iald dX2_search_80 (lyx_is hy 33 13 rfl) (lyx_n hy 33 28 rfl) (by omega) (by omega) (fun q hq => BT_get hI12368.1 33 0 28 (0) (0) (20) (by decide) q (Nat.zero_le _) hq) (fun v12377 av12377 bv12377 ev12377 => ?_)
          refine WP_iload dX2_search_81 rfl ?_
          refine WP_callV2 (k := 2) dX2_search_83 ⟨⟨⟨by decide, by decide⟩, zX2_spread⟩, lX2_57, by decide, rfl, vX2_spread.1, vX2_spread.2⟩ (lyx_is hy 43 2 rfl) (sx_spreadx hy hrI12114 hI12368 v12377 i12113 (by omega) (by omega) (by omega) (by omega)) (Nat.le_of_ble_eq_true rfl) ?_
          intro r Ia J12378 Ra hq
          obtain ⟨⟨ea, ec, fjJ12378, pJ12378⟩, rfl⟩ := hq
          rw [ea, ec]
          clear ea ec Ia Ra
          have fr12379 : fz 74 g [45, 46] J J12378 := fz_tr fjJ12115 (fz_mono fjJ12378 (by decide))
          have FJ12378 := FWD_P (P2 := J12378 (ad g 45)) PF_I12114_12115 (fz_at fjJ12378 45 (by decide) (by decide))
          have srJ12378 := pJ12378
          rw [← fz_at fjJ12378 45 (by decide) (by decide)] at srJ12378
          have ZJ12378 := ZB_P (P2 := J12378 (ad g 45)) PZ_I12114_12115 (fz_at fjJ12378 45 (by decide) (by decide))
          refine WP_aload_n dX2_search_86 rfl ?_
          refine WP_iload dX2_search_87 rfl ?_
          refine WP_iload dX2_search_89 rfl ?_
          refine WQ_iconst (1) (1) dX2_search_91 rfl rfl (fun v12380 hv12380 => ?_)
          refine WQ_iadd dX2_search_92 (by omega) (by omega) (fun v12381 hv12381 => ?_)
          refine WP_callV2 (k := 2) dX2_search_93 ⟨⟨⟨by decide, by decide⟩, zX2_sleep⟩, lX2_61, by decide, rfl, vX2_sleep.1, vX2_sleep.2⟩ (lyx_is hy 43 2 rfl) (sx_psleepx hy hrI12114 hI12368 v12367 v12381 (by omega) (by omega) (by omega) (by omega)) (Nat.le_of_ble_eq_true rfl) ?_
          intro r Ia J12382 Ra hq
          obtain ⟨⟨ea, ec, fjJ12382, pJ12382⟩, rfl⟩ := hq
          rw [ea, ec]
          clear ea ec Ia Ra
          have fr12383 : fz 74 g [45, 46] J J12382 := fz_tr fr12379 (fz_mono fjJ12382 (by decide))
          have slJ12382 := pJ12382.1
          rw [fz_at fr12370 24 (by decide) (by decide), fz_at fr12370 25 (by decide) (by decide), fz_at fr12370 26 (by decide) (by decide)] at slJ12382
          have FJ12382 := FWD_step FJ12378 ldI12368 srJ12378 slJ12382 pJ12382.2 (by unfold EA; rw [if_neg (by omega), show I (ad g (27 + 6)) = I12368 (ad g 33) from (fz_at fr12370 33 (by decide) (by decide)).symm, ← cl (x := v12376) (n := (7 * so.toInt + v12367.toInt).toNat) (by omega), ev12377]) (by omega) (by omega) (by omega) (sbx_b hI) (ldx_p hI (by decide) _ _ _ (by omega) (by omega) ldI12368 (by omega) (by omega)) (ldx_p hI (by decide)) (by omega)
          have ZJ12382 := ZB_out ZJ12378 pJ12382.2 (by omega)
          refine WP_iinc (ls' := [(0, _), (1, _), (2, _), (3, _), (4, _), (5, _), (6, _), (7, _)]) dX2_search_96 rfl (by decide) rfl ?_
          have hv12384 : (i12113 + Int32.ofInt (1)).toInt = i12113.toInt + (1) := ia_n rfl (by omega) (by omega)
          generalize i12113 + Int32.ofInt (1) = v12384 at hv12384 ⊢
          refine WP_goto 21 dX2_search_99 rfl ?_
          exact WP_sub (fc rfl (fc rfl (fc rfl (fc rfl (fc rfl (fc rfl (fc rfl fn))))))) (ihlp21_12116 v12384 I12368 J12382 RI12114 hrI12114 hTI12114 hSI12114 hPI12114 hI12368 fr12370 fr12383 (by omega) (by omega) (by omega) (by rw [show v12384.toInt = v12381.toInt by omega]; exact FJ12382) ZJ12382 (by omega))
        · refine WQ_iconst (0) (0) dX2_search_59 rfl rfl (fun v12385 hv12385 => ?_)
          refine WP_goto 81 dX2_search_60 rfl ?_
          refine WP_iload dX2_search_81 rfl ?_
          refine WP_callV2 (k := 2) dX2_search_83 ⟨⟨⟨by decide, by decide⟩, zX2_spread⟩, lX2_57, by decide, rfl, vX2_spread.1, vX2_spread.2⟩ (lyx_is hy 43 2 rfl) (sx_spreadx hy hrI12114 hI12368 v12385 i12113 (by omega) (by omega) (by omega) (by omega)) (Nat.le_of_ble_eq_true rfl) ?_
          intro r Ia J12386 Ra hq
          obtain ⟨⟨ea, ec, fjJ12386, pJ12386⟩, rfl⟩ := hq
          rw [ea, ec]
          clear ea ec Ia Ra
          have fr12387 : fz 74 g [45, 46] J J12386 := fz_tr fjJ12115 (fz_mono fjJ12386 (by decide))
          have FJ12386 := FWD_P (P2 := J12386 (ad g 45)) PF_I12114_12115 (fz_at fjJ12386 45 (by decide) (by decide))
          have srJ12386 := pJ12386
          rw [← fz_at fjJ12386 45 (by decide) (by decide)] at srJ12386
          have ZJ12386 := ZB_P (P2 := J12386 (ad g 45)) PZ_I12114_12115 (fz_at fjJ12386 45 (by decide) (by decide))
          refine WP_aload_n dX2_search_86 rfl ?_
          refine WP_iload dX2_search_87 rfl ?_
          refine WP_iload dX2_search_89 rfl ?_
          refine WQ_iconst (1) (1) dX2_search_91 rfl rfl (fun v12388 hv12388 => ?_)
          refine WQ_iadd dX2_search_92 (by omega) (by omega) (fun v12389 hv12389 => ?_)
          refine WP_callV2 (k := 2) dX2_search_93 ⟨⟨⟨by decide, by decide⟩, zX2_sleep⟩, lX2_61, by decide, rfl, vX2_sleep.1, vX2_sleep.2⟩ (lyx_is hy 43 2 rfl) (sx_psleepx hy hrI12114 hI12368 v12367 v12389 (by omega) (by omega) (by omega) (by omega)) (Nat.le_of_ble_eq_true rfl) ?_
          intro r Ia J12390 Ra hq
          obtain ⟨⟨ea, ec, fjJ12390, pJ12390⟩, rfl⟩ := hq
          rw [ea, ec]
          clear ea ec Ia Ra
          have fr12391 : fz 74 g [45, 46] J J12390 := fz_tr fr12387 (fz_mono fjJ12390 (by decide))
          have slJ12390 := pJ12390.1
          rw [fz_at fr12370 24 (by decide) (by decide), fz_at fr12370 25 (by decide) (by decide), fz_at fr12370 26 (by decide) (by decide)] at slJ12390
          have FJ12390 := FWD_step FJ12386 ldI12368 srJ12386 slJ12390 pJ12390.2 (by unfold EA; rw [if_pos (by omega)]; omega) (by omega) (by omega) (by omega) (sbx_b hI) (ldx_p hI (by decide) _ _ _ (by omega) (by omega) ldI12368 (by omega) (by omega)) (ldx_p hI (by decide)) (by omega)
          have ZJ12390 := ZB_out ZJ12386 pJ12390.2 (by omega)
          refine WP_iinc (ls' := [(0, _), (1, _), (2, _), (3, _), (4, _), (5, _), (6, _), (7, _)]) dX2_search_96 rfl (by decide) rfl ?_
          have hv12392 : (i12113 + Int32.ofInt (1)).toInt = i12113.toInt + (1) := ia_n rfl (by omega) (by omega)
          generalize i12113 + Int32.ofInt (1) = v12392 at hv12392 ⊢
          refine WP_goto 21 dX2_search_99 rfl ?_
          exact WP_sub (fc rfl (fc rfl (fc rfl (fc rfl (fc rfl (fc rfl (fc rfl fn))))))) (ihlp21_12116 v12392 I12368 J12390 RI12114 hrI12114 hTI12114 hSI12114 hPI12114 hI12368 fr12370 fr12391 (by omega) (by omega) (by omega) (by rw [show v12392.toInt = v12389.toInt by omega]; exact FJ12390) ZJ12390 (by omega))
  exact WP_sub (fc rfl (fc rfl (fc rfl (fc rfl (fc rfl (fc rfl (fc rfl fn))))))) (lp21_12116 _ v12112 I J12110 R hr hT rfl hP hI fr0 fr12111 (by omega) (by omega) (by omega) (FWD_0 hv12112) ZJ12110 (Nat.lt_succ_self _))
