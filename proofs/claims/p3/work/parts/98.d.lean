set_option maxHeartbeats 4000000 in
set_option maxRecDepth 100000 in
theorem sx_searchx_6 {g : GG} {n : Int} {L : Int32} (hy : LyX g)  {I : pI} {J : pJ} {R : pR} (hr : RfX g R) (hP : NL g R) (hT : R (ad g 5) 0 = some (ad g 6)) (hI : XI g n L I) (so : Int32) (da : Int32) (co : Int32) (st : Int32) (nn : Int32) (so_lo : 0 ≤ so.toInt) (so_hi : so.toInt ≤ 3) (da_lo : 0 ≤ da.toInt) (da_hi : da.toInt ≤ 6) (co_lo : 0 ≤ co.toInt) (co_hi : co.toInt ≤ 60) (st_lo : 0 ≤ st.toInt) (st_hi : st.toInt ≤ 5) (nn_lo : 1 ≤ nn.toInt) (nn_hi : nn.toInt ≤ 28) : SP g mX2_search [.ref (ad g 43), .int so, .int da, .int co, .int st, .int nn] I J R (fun r I' J' R' => (XI g n L I' ∧ (RfX g R' ∧ R' (ad g 5) 0 = R (ad g 5) 0 ∧ NL g R') ∧ fz 74 g [43, 44, 47, 48] I I' ∧ fz 74 g [45, 46] J J') ∧ ∃ v : Int32, r = some (.int v) ∧ 0 ≤ v.toInt ∧ v.toInt ≤ 47 ∧ (∃ T : Nat → Int32, LD g 6 I so.toInt da.toInt T ∧ AOKd T co.toInt st.toInt v.toInt)) := by
  refine SP_of ⟨by decide, rfl⟩ (Nat.le_of_ble_eq_true rfl) ?_
  have e11813 : I (ad g 1) 1 = L := hI.2
  have b11814 := BT_get hI.1 1 1 2 (0) (0) (900) (by decide) 1 (by decide) (by decide)
  rw [e11813] at b11814
  have fr0 : fz 74 g [43, 44, 47, 48] I I := fz_rf
  have frj0 : fz 74 g [45, 46] J J := fz_rf
  refine WP_aload_n dX2_search_0 rfl ?_
  refine WP_getr dX2_search_1 fX2_18 rfl (lyx_is hy 43 2 rfl) (rfx hr 43 4 45 (by decide)) ?_
  refine WP_lconst (0) dX2_search_4 rfl ?_
  obtain ⟨l11815, hl11815, el11815⟩ : ∃ v : Int64, v.toInt = 0 ∧ (0 : Int64) = v := ⟨_, rfl, rfl⟩
  rw [el11815]; clear el11815
  refine WP_callS2 dX2_search_5 ⟨⟨⟨by decide, by decide⟩, zJ7_fill_d0a16⟩, lX2_36, tJ7_fill_d0a16⟩ (sx_fillJx_45 hy hr hI l11815 ) (Nat.le_of_ble_eq_true rfl) ?_
  intro r Ia J11816 Ra hq
  obtain ⟨⟨ea, ec, fjJ11816, pJ11816⟩, rfl⟩ := hq
  rw [ea, ec]
  clear ea ec Ia Ra
  have fr11817 : fz 74 g [45, 46] J J11816 := fz_tr frj0 (fz_mono fjJ11816 (by decide))
  refine WP_aload_n dX2_search_8 rfl ?_
  refine WP_getr dX2_search_9 fX2_18 rfl (lyx_is hy 43 2 rfl) (rfx hr 43 4 45 (by decide)) ?_
  refine WP_iload dX2_search_12 rfl ?_
  refine WP_lconst (1) dX2_search_14 rfl ?_
  obtain ⟨l11818, hl11818, el11818⟩ : ∃ v : Int64, v.toInt = 1 ∧ (1 : Int64) = v := ⟨_, rfl, rfl⟩
  rw [el11818]; clear el11818
  refine WP_iload_n dX2_search_15 rfl ?_
  refine WQ_lshl1 dX2_search_16 hl11818 (by omega) (by omega) (fun l11819 ql11819 => ?_)
  refine WQ_last dX2_search_17 (lyx_is hy 45 14 rfl) (lyx_n hy 45 168 rfl) (by omega) (by omega) (fun J11820 eJ11820 => ?_)
  have fr11821 : fz 74 g [45, 46] J J11820 := by rw [eJ11820]; exact fzx_pp hy fr11817 (by decide) (by decide)
  have xJ11820 := eJ11820
  rw [cl (x := st) (n := st.toInt.toNat) (by omega)] at xJ11820
  have ZJ11820 := ZB_0 (co := co) (st := st) pJ11816 hl11815 xJ11820 ql11819 (by omega)
  clear eJ11820
  refine WQ_iconst (0) (0) dX2_search_18 rfl rfl (fun v11822 hv11822 => ?_)
  refine WP_istore (ls' := [(0, _), (1, _), (2, _), (3, _), (4, _), (5, _), (6, _)]) dX2_search_19 (by decide) rfl ?_
  have lp21_11826 : ∀ (mz : Nat) (i11823 : Int32) (I11824 : pI) (J11825 : pJ) (RI11824 : pR), RfX g RI11824 → RI11824 (ad g 5) 0 = some (ad g 6) → NL g RI11824 → XI g n L I11824 → fz 74 g [43, 44, 47, 48] I I11824 → fz 74 g [45, 46] J J11825 → 0 ≤ i11823.toInt → i11823.toInt ≤ 27 → i11823.toInt ≤ nn.toInt - 1 → (FWD g 6 I (J11825 (ad g 45)) so.toInt da.toInt i11823.toInt) → (ZB (J11825 (ad g 45)) co.toInt st.toInt) → (28 - i11823.toInt).toNat < mz → WP g mX2_search 21 [(0, .ref (ad g 43)), (1, .int so), (2, .int da), (3, .int co), (4, .int st), (5, .int nn), (6, .int i11823)] [] I11824 J11825 RI11824 (fun r I' J' R' => (XI g n L I' ∧ (RfX g R' ∧ R' (ad g 5) 0 = R (ad g 5) 0 ∧ NL g R') ∧ fz 74 g [43, 44, 47, 48] I I' ∧ fz 74 g [45, 46] J J') ∧ ∃ v : Int32, r = some (.int v) ∧ 0 ≤ v.toInt ∧ v.toInt ≤ 47 ∧ (∃ T : Nat → Int32, LD g 6 I so.toInt da.toInt T ∧ AOKd T co.toInt st.toInt v.toInt)) := by
    intro mz
    induction mz with
    | zero =>
      intro i11823 I11824 J11825 RI11824 hrI11824 hTI11824 hPI11824 hI11824 fiI11824 fjJ11825 ai11823 bi11823 j0_I11824 PF_I11824_11825 PZ_I11824_11825 hmlp21_11826
      exact absurd hmlp21_11826 (Nat.not_lt_zero _)
    | succ mz ihlp21_11826 =>
      intro i11823 I11824 J11825 RI11824 hrI11824 hTI11824 hPI11824 hI11824 fiI11824 fjJ11825 ai11823 bi11823 j0_I11824 PF_I11824_11825 PZ_I11824_11825 hmlp21_11826
      have e11828 : I11824 (ad g 1) 1 = L := hI11824.2
      have b11829 := BT_get hI11824.1 1 1 2 (0) (0) (900) (by decide) 1 (by decide) (by decide)
      rw [e11828] at b11829
      refine WP_iload dX2_search_21 rfl ?_
      refine WP_iload dX2_search_23 rfl ?_
      refine WQ_iconst (1) (1) dX2_search_25 rfl rfl (fun v11830 hv11830 => ?_)
      refine WQ_isub dX2_search_26 (by omega) (by omega) (fun v11831 hv11831 => ?_)
      refine WQ_icmp_ge 102 dX2_search_27 rfl (fun c11831 => ?_) (fun c11831 => ?_)
      · rcases hPI11824 with ⟨hn102, hl102⟩ | ⟨hn102, hl102⟩
        · have FN11832 : FWD g 6 I (J11825 (ad g 45)) so.toInt da.toInt (nn.toInt - 1) := by rw [show (nn.toInt - 1) = i11823.toInt by omega]; exact PF_I11824_11825
          refine WP_aload_n dX2_search_102 rfl ?_
          refine WP_getr dX2_search_103 fX2_29 rfl (lyx_is hy 43 2 rfl) hl102 ?_
          refine WQ_iconst (0) (0) dX2_search_106 rfl rfl (fun v11834 hv11834 => ?_)
          refine WP_callS2u dX2_search_107 ⟨⟨⟨by decide, by decide⟩, zJ7_fill_53178⟩, lX2_64, tJ7_fill_53178⟩ (s_fill hy hrI11824 48 366 rfl rfl (by decide) v11834) (Nat.le_of_ble_eq_true rfl) ?_
          obtain ⟨I11835, eI11835⟩ : ∃ I9 : pI, I9 = fi I11824 (ad g 48) 366 v11834 := ⟨_, rfl⟩
          rw [← eI11835]
          have hI11835 : XI g n L I11835 := by rw [eI11835]; exact (xi_fill0 hy hI11824 48 366 v11834 (by decide) (by decide))
          have e11836 : I11835 (ad g 1) 1 = L := by rw [eI11835, fi_off (lyx_ne hy (by decide) (by decide) (by decide))]; exact e11828
          have fr11837 : fz 74 g [43, 44, 47, 48] I I11835 := by rw [eI11835]; exact fzx_fi hy fiI11824 (by decide) (by decide)
          have WI11835 : WB (J11825 (ad g 45)) (I11835 (ad g 48)) (nn.toInt - 1) (nn.toInt - 1) := WB_0 eI11835 hv11834
          clear eI11835
          refine WP_aload_n dX2_search_110 rfl ?_
          refine WQ_iconst (0) (0) dX2_search_111 rfl rfl (fun v11838 hv11838 => ?_)
          refine WQ_puti dX2_search_112 fX2_67 rfl rfl (lyx_is hy 43 2 rfl) (fun I11839 eI11839 => ?_)
          have hI11839 : XI g n L I11839 := by rw [eI11839]; exact (xi_f0 hy hI11835 (c := 43) (by decide) (Or.inl (by decide)) (by decide))
          have e11840 : I11839 (ad g 1) 1 = L := by rw [eI11839, pp_ne _ _ (Or.inl (lyx_ne hy (by decide) (by decide) (by decide)))]; exact e11836
          have e11841 : I11839 (ad g 43) 8 = v11838 := by rw [eI11839, pp_self]
          have fr11842 : fz 74 g [43, 44, 47, 48] I I11839 := by rw [eI11839]; exact fzx_pp hy fr11837 (by decide) (by decide)
          have WI11839 : WB (J11825 (ad g 45)) (I11839 (ad g 48)) (nn.toInt - 1) (nn.toInt - 1) := by rw [eI11839, pp_off _ _ (lyx_ne hy (by decide) (by decide) (by decide))]; exact WI11835
          clear eI11839
          refine WP_iload dX2_search_115 rfl ?_
          refine WQ_iconst (1) (1) dX2_search_117 rfl rfl (fun v11843 hv11843 => ?_)
          refine WQ_isub dX2_search_118 (by omega) (by omega) (fun v11844 hv11844 => ?_)
          refine WP_istore (ls' := [(0, _), (1, _), (2, _), (3, _), (4, _), (5, _), (6, _)]) dX2_search_119 (by decide) rfl ?_
          have lp121_11849 : ∀ (mz : Nat) (i11845 : Int32) (I11846 : pI) (RI11846 : pR), RfX g RI11846 → RI11846 (ad g 5) 0 = some (ad g 6) → NL g RI11846 → XI g n L I11846 → fz 74 g [43, 44, 47, 48] I I11846 → ∀ (w11848 : Int32), I11846 (ad g 43) 1 = w11848 → ∀ (w11849 : Int32), I11846 (ad g 43) 8 = w11849 → -1 ≤ i11845.toInt → i11845.toInt ≤ 27 → i11845.toInt ≤ nn.toInt - 1 → 0 ≤ w11849.toInt → w11849.toInt ≤ 594 * (nn.toInt - 1 - i11845.toInt) → (∀ q : Nat, q < 74 → RI11846 (ad g 43) 7 = some (ad g q) → WB (J11825 (ad g 45)) (I11846 (ad g q)) (nn.toInt - 1) i11845.toInt) → (0 ≤ i11845.toInt ∨ ∃ T : Nat → Int32, LD g 6 I so.toInt da.toInt T ∧ AOKd T co.toInt st.toInt w11848.toInt) → (i11845.toInt + 1).toNat < mz → WP g mX2_search 121 [(0, .ref (ad g 43)), (1, .int so), (2, .int da), (3, .int co), (4, .int st), (5, .int nn), (6, .int i11845)] [] I11846 J11825 RI11846 (fun r I' J' R' => (XI g n L I' ∧ (RfX g R' ∧ R' (ad g 5) 0 = R (ad g 5) 0 ∧ NL g R') ∧ fz 74 g [43, 44, 47, 48] I I' ∧ fz 74 g [45, 46] J J') ∧ ∃ v : Int32, r = some (.int v) ∧ 0 ≤ v.toInt ∧ v.toInt ≤ 47 ∧ (∃ T : Nat → Int32, LD g 6 I so.toInt da.toInt T ∧ AOKd T co.toInt st.toInt v.toInt)) := by
            intro mz
            induction mz with
            | zero =>
              intro i11845 I11846 RI11846 hrI11846 hTI11846 hPI11846 hI11846 fiI11846 w11848 ew11848 w11849 ew11849 ai11845 bi11845 j0_I11846_11846 j1_I11846_11846 j2_I11846_11846 PW_I11846_11846 PQ_I11846_11846 hmlp121_11849
              exact absurd hmlp121_11849 (Nat.not_lt_zero _)
            | succ mz ihlp121_11849 =>
              intro i11845 I11846 RI11846 hrI11846 hTI11846 hPI11846 hI11846 fiI11846 w11848 ew11848 w11849 ew11849 ai11845 bi11845 j0_I11846_11846 j1_I11846_11846 j2_I11846_11846 PW_I11846_11846 PQ_I11846_11846 hmlp121_11849
              have bw11848 := BT_get hI11846.1 43 1 2 (0) (0) (47) (by decide) 1 (by decide) (by decide)
              rw [ew11848] at bw11848
              have e11851 : I11846 (ad g 1) 1 = L := hI11846.2
              have b11852 := BT_get hI11846.1 1 1 2 (0) (0) (900) (by decide) 1 (by decide) (by decide)
              rw [e11851] at b11852
              rcases hPI11846 with ⟨hn121, hl121⟩ | ⟨hn121, hl121⟩
              · have W11852 := PW_I11846_11846 48 (by decide) hl121
                refine WP_iload dX2_search_121 rfl ?_
                refine WQ_if_lt 215 dX2_search_123 rfl (fun c11853 => ?_) (fun c11853 => ?_)
                · refine WP_aload_n dX2_search_215 rfl ?_
                  refine WQ_getim dX2_search_216 fX2_75 rfl (lyx_is hy 43 2 rfl) ew11848 ?_
                  exact WP_iret dX2_search_219 rfl ⟨⟨hI11846, ⟨hrI11846, hTI11846.trans hT.symm, (Or.inl ⟨hn121, hl121⟩)⟩, fiI11846, fjJ11825⟩, _, rfl, by omega, by omega, (PQ_I11846_11846.resolve_left (by omega))⟩
                · refine WP_iload_n dX2_search_126 rfl ?_
                  refine WP_iload dX2_search_127 rfl ?_
                  refine WQ_iadd dX2_search_129 (by omega) (by omega) (fun v11855 hv11855 => ?_)
                  refine WQ_bipush (7) (7) dX2_search_130 rfl rfl (fun v11856 hv11856 => ?_)
                  refine WQ_iremk (7) dX2_search_132 hv11856 (by decide) (by omega) (fun v11857 hv11857 => ?_)
                  refine WP_istore (ls' := [(0, _), (1, _), (2, _), (3, _), (4, _), (5, _), (6, _), (7, _)]) dX2_search_133 (by decide) rfl ?_
                  refine WP_aload_n dX2_search_135 rfl ?_
                  refine WP_getr dX2_search_136 fX2_12 rfl (lyx_is hy 43 2 rfl) (rfx hrI11846 43 3 44 (by decide)) ?_
                  refine WP_aload_n dX2_search_139 rfl ?_
                  refine WP_getr dX2_search_140 fX2_32 rfl (lyx_is hy 43 2 rfl) (rfx hrI11846 43 2 5 (by decide)) ?_
                  refine WP_iload_n dX2_search_143 rfl ?_
                  refine WP_iload dX2_search_144 rfl ?_
                  refine WP_callV3 (k := 6) dX2_search_146 ⟨⟨⟨by decide, by decide⟩, zX6_load⟩, lX2_42, by decide, rfl, vX6_load.1, vX6_load.2⟩ (lyx_is hy 44 6 rfl) (sx_loadx_44_6 hy hrI11846 hTI11846 hI11846 so v11857 (by omega) (by omega) (by omega) (by omega)) (Nat.le_of_ble_eq_true rfl) ?_
                  intro r I11858 J11859 Ra hq
                  obtain ⟨⟨hI11858, ec, fiI11858, ejI11858, pI11858⟩, rfl⟩ := hq
                  rw [ec]
                  clear ec Ra
                  have fr11860 : fz 74 g [43, 44, 47, 48] I I11858 := fz_tr fiI11846 (fz_mono fiI11858 (by decide))
                  rw [ejI11858]
                  clear ejI11858 J11859
                  have ldI11858 := LD_fr pI11858 (fz_at fiI11846 6 (by decide) (by decide)) (fz_at fiI11846 11 (by decide) (by decide)) (fz_at fiI11846 13 (by decide) (by decide)) (fz_at fiI11846 14 (by decide) (by decide)) (fz_at fiI11846 15 (by decide) (by decide)) (fz_at fiI11846 22 (by decide) (by decide))
                  have WI11858 := W11852
                  rw [← fz_at fiI11858 48 (by decide) (by decide)] at WI11858
                  have e11861 : I11858 (ad g 1) 1 = L := hI11858.2
                  have b11862 := BT_get hI11858.1 1 1 2 (0) (0) (900) (by decide) 1 (by decide) (by decide)
                  rw [e11861] at b11862
                  refine WP_aload_n dX2_search_149 rfl ?_
                  refine WP_aload_n dX2_search_150 rfl ?_
                  refine WP_iload dX2_search_151 rfl ?_
                  refine WQ_if_ne 160 dX2_search_153 rfl (fun c11862 => ?_) (fun c11862 => ?_)
                  · refine WP_aload_n dX2_search_160 rfl ?_
                    refine WP_getr dX2_search_161 fX2_32 rfl (lyx_is hy 43 2 rfl) (rfx hrI11846 43 2 5 (by decide)) ?_
                    refine WP_getr dX2_search_164 fX2_46 rfl (lyx_is hy 5 0 rfl) hTI11846 ?_
                    refine WP_getr dX2_search_167 fX2_52 rfl (lyx_is hy 6 7 rfl) (rfx hrI11846 6 10 12 (by decide)) ?_
                    refine WP_iload_n dX2_search_170 rfl ?_
                    refine WQ_bipush (7) (7) dX2_search_171 rfl rfl (fun v11864 hv11864 => ?_)
                    refine WQ_imulk (7) dX2_search_173 hv11864 (by omega) (by omega) (fun v11865 hv11865 => ?_)
                    refine WP_iload dX2_search_174 rfl ?_
                    refine WQ_iadd dX2_search_176 (by omega) (by omega) (fun v11866 hv11866 => ?_)
                    refine WQ_iald dX2_search_177 (lyx_is hy 12 13 rfl) (lyx_n hy 12 28 rfl) (by omega) (by omega) (fun q hq => BT_get hI11858.1 12 0 28 (0) (0) (20) (by decide) q (Nat.zero_le _) hq) (fun v11867 av11867 bv11867 ev11867 => ?_)
                    refine WP_iload_n dX2_search_178 rfl ?_
                    refine WP_iload dX2_search_179 rfl ?_
                    refine WP_iload dX2_search_181 rfl ?_
                    refine WP_callV4 (k := 2) dX2_search_183 ⟨⟨⟨by decide, by decide⟩, zX2_weighDay⟩, lX2_71, by decide, rfl, vX2_weighDay.1, vX2_weighDay.2⟩ (lyx_is hy 43 2 rfl) (sx_weighDayx_48_6 hy hrI11846 hTI11846 hI11858 v11867 so v11857 i11845 (by omega) (by omega) (by omega) (by omega) (by omega) (by omega) (by omega) (by omega) (K := 594 * ((nn.toInt - 1) - i11845.toInt)) (by omega) hl121 hn121 (by rw [fz_at fiI11858 43 (by decide) (by decide), ew11849]; omega) (by rw [fz_at fr11860 24 (by decide) (by decide), fz_at fr11860 25 (by decide) (by decide), fz_at fr11860 26 (by decide) (by decide)]; exact WD_of WI11858 FN11832 ldI11858 (by unfold EA; rw [if_neg (by omega), show I (ad g (6 + 6)) = I11858 (ad g 12) from (fz_at fr11860 12 (by decide) (by decide)).symm, ← cl (x := v11866) (n := (7 * so.toInt + v11857.toInt).toNat) (by omega), ev11867]) (by omega) (by omega) (by omega) (ldx_p hI (by decide) _ _ _ (by omega) (by omega) ldI11858 (by omega) (by omega)) (sbx_b hI) (cbx_b hI (by omega) (by omega)))) (Nat.le_of_ble_eq_true rfl) ?_
                    intro r I11868 J11869 Ra hq
                    obtain ⟨⟨hI11868, ec, fiI11868, ejI11868, pI11868⟩, v11870, rfl, av11870, bv11870, cv11870⟩ := hq
                    show WP _ _ _ _ (.int _ :: _) _ _ _ _
                    rw [ec]
                    clear ec Ra
                    have fr11871 : fz 74 g [43, 44, 47, 48] I I11868 := fz_tr fr11860 (fz_mono fiI11868 (by decide))
                    rw [ejI11868]
                    clear ejI11868 J11869
                    have e11872 : I11868 (ad g 1) 1 = L := hI11868.2
                    have b11873 := BT_get hI11868.1 1 1 2 (0) (0) (900) (by decide) 1 (by decide) (by decide)
                    rw [e11872] at b11873
                    obtain ⟨w11874, ew11874⟩ : ∃ w : Int32, I11868 (ad g 43) 1 = w := ⟨_, rfl⟩
                    have bw11874 := BT_get hI11868.1 43 1 2 (0) (0) (47) (by decide) 1 (by decide) (by decide)
                    rw [ew11874] at bw11874
                    have vsI11868 := pI11868.1
                    have fuI11868 := pI11868.2
                    rw [ew11874] at fuI11868
                    refine WQ_puti dX2_search_186 fX2_67 rfl rfl (lyx_is hy 43 2 rfl) (fun I11875 eI11875 => ?_)
                    have hI11875 : XI g n L I11875 := by rw [eI11875]; exact (xi_f0 hy hI11868 (c := 43) (by decide) (Or.inl (by decide)) (by decide))
                    have e11876 : I11875 (ad g 1) 1 = L := by rw [eI11875, pp_ne _ _ (Or.inl (lyx_ne hy (by decide) (by decide) (by decide)))]; exact e11872
                    have e11877 : I11875 (ad g 43) 1 = w11874 := by rw [eI11875, pp_ne _ _ (Or.inr (by decide))]; exact ew11874
                    have e11878 : I11875 (ad g 43) 8 = v11870 := by rw [eI11875, pp_self]
                    have fr11879 : fz 74 g [43, 44, 47, 48] I I11875 := by rw [eI11875]; exact fzx_pp hy fr11871 (by decide) (by decide)
                    have VI11875 := vsI11868
                    rw [show I11868 (ad g 47) = I11875 (ad g 47) by rw [eI11875, pp_off _ _ (lyx_ne hy (by decide) (by decide) (by decide))]] at VI11875
                    clear eI11875
                    refine WP_aload_n dX2_search_189 rfl ?_
                    refine WP_getr dX2_search_190 fX2_29 rfl (lyx_is hy 43 2 rfl) hl121 ?_
                    refine WP_astore (ls' := [(0, _), (1, _), (2, _), (3, _), (4, _), (5, _), (6, _), (7, _), (8, _)]) dX2_search_193 (by decide) rfl ?_
                    refine WP_aload_n dX2_search_195 rfl ?_
                    refine WP_aload_n dX2_search_196 rfl ?_
                    refine WP_getr dX2_search_197 fX2_25 rfl (lyx_is hy 43 2 rfl) hn121 ?_
                    refine WP_putr dX2_search_200 fX2_29 rfl rfl rfl rfl (lyx_is hy 43 2 rfl) ?_
                    obtain ⟨R11880, eR11880⟩ : ∃ R9 : pR, R9 = pp RI11846 (ad g 43) 7 (some (ad g 47)) := ⟨_, rfl⟩
                    rw [← eR11880]
                    have hrR11880 : RfX g R11880 := by rw [eR11880]; exact rfx_pp hy hrI11846 (by decide)
                    have hTR11880 : R11880 (ad g 5) 0 = some (ad g 6) := by rw [eR11880, pp_ne _ _ (Or.inl (lyx_ne hy (by decide) (by decide) (by decide)))]; exact hTI11846
                    have hOR11880 : R11880 (ad g 43) 6 = some (ad g 47) := by rw [eR11880, pp_ne _ _ (Or.inr (by decide))]; exact hn121
                    have hQR11880 : R11880 (ad g 43) 7 = some (ad g 47) := by rw [eR11880, pp_self]
                    clear eR11880
                    refine WP_aload_n dX2_search_203 rfl ?_
                    refine WP_aload dX2_search_204 rfl ?_
                    refine WP_putr dX2_search_206 fX2_25 rfl rfl rfl rfl (lyx_is hy 43 2 rfl) ?_
                    obtain ⟨R11881, eR11881⟩ : ∃ R9 : pR, R9 = pp R11880 (ad g 43) 6 (some (ad g 48)) := ⟨_, rfl⟩
                    rw [← eR11881]
                    have hrR11881 : RfX g R11881 := by rw [eR11881]; exact rfx_pp hy hrR11880 (by decide)
                    have hTR11881 : R11881 (ad g 5) 0 = some (ad g 6) := by rw [eR11881, pp_ne _ _ (Or.inl (lyx_ne hy (by decide) (by decide) (by decide)))]; exact hTR11880
                    have hOR11881 : R11881 (ad g 43) 7 = some (ad g 47) := by rw [eR11881, pp_ne _ _ (Or.inr (by decide))]; exact hQR11880
                    have hQR11881 : R11881 (ad g 43) 6 = some (ad g 48) := by rw [eR11881, pp_self]
                    clear eR11881
                    refine WP_iinc (ls' := [(0, _), (1, _), (2, _), (3, _), (4, _), (5, _), (6, _), (7, _), (8, _)]) dX2_search_209 rfl (by decide) rfl ?_
                    have hv11882 : (i11845 + Int32.ofInt (-1)).toInt = i11845.toInt + (-1) := ia_n rfl (by omega) (by omega)
                    generalize i11845 + Int32.ofInt (-1) = v11882 at hv11882 ⊢
                    refine WP_goto 121 dX2_search_212 rfl ?_
                    exact WP_sub (fc rfl (fc rfl (fc rfl (fc rfl (fc rfl (fc rfl (fc rfl fn))))))) (ihlp121_11849 v11882 I11875 R11881 hrR11881 hTR11881 (Or.inr ⟨hQR11881, hOR11881⟩) hI11875 fr11879 w11874 e11877 v11870 e11878 (by omega) (by omega) (by omega) (by omega) (by omega) (fun q hq he => by have e := adx_inj hy hq (by decide) (Option.some.inj (he.symm.trans hOR11881)); subst e; exact WB_V VI11875 (by omega) (by omega)) (Or.inl (by omega)) (by omega))
                  · refine WQ_iconst (0) (0) dX2_search_156 rfl rfl (fun v11883 hv11883 => ?_)
                    refine WP_goto 178 dX2_search_157 rfl ?_
                    refine WP_iload_n dX2_search_178 rfl ?_
                    refine WP_iload dX2_search_179 rfl ?_
                    refine WP_iload dX2_search_181 rfl ?_
                    refine WP_callV4 (k := 2) dX2_search_183 ⟨⟨⟨by decide, by decide⟩, zX2_weighDay⟩, lX2_71, by decide, rfl, vX2_weighDay.1, vX2_weighDay.2⟩ (lyx_is hy 43 2 rfl) (sx_weighDayx_48_6 hy hrI11846 hTI11846 hI11858 v11883 so v11857 i11845 (by omega) (by omega) (by omega) (by omega) (by omega) (by omega) (by omega) (by omega) (K := 594 * ((nn.toInt - 1) - i11845.toInt)) (by omega) hl121 hn121 (by rw [fz_at fiI11858 43 (by decide) (by decide), ew11849]; omega) (by rw [fz_at fr11860 24 (by decide) (by decide), fz_at fr11860 25 (by decide) (by decide), fz_at fr11860 26 (by decide) (by decide)]; exact WD_of WI11858 FN11832 ldI11858 (by unfold EA; rw [if_pos (by omega)]; omega) (by omega) (by omega) (by omega) (ldx_p hI (by decide) _ _ _ (by omega) (by omega) ldI11858 (by omega) (by omega)) (sbx_b hI) (cbx_b hI (by omega) (by omega)))) (Nat.le_of_ble_eq_true rfl) ?_
                    intro r I11884 J11885 Ra hq
                    obtain ⟨⟨hI11884, ec, fiI11884, ejI11884, pI11884⟩, v11886, rfl, av11886, bv11886, cv11886⟩ := hq
                    show WP _ _ _ _ (.int _ :: _) _ _ _ _
                    rw [ec]
                    clear ec Ra
                    have fr11887 : fz 74 g [43, 44, 47, 48] I I11884 := fz_tr fr11860 (fz_mono fiI11884 (by decide))
                    rw [ejI11884]
                    clear ejI11884 J11885
                    have e11888 : I11884 (ad g 1) 1 = L := hI11884.2
                    have b11889 := BT_get hI11884.1 1 1 2 (0) (0) (900) (by decide) 1 (by decide) (by decide)
                    rw [e11888] at b11889
                    obtain ⟨w11890, ew11890⟩ : ∃ w : Int32, I11884 (ad g 43) 1 = w := ⟨_, rfl⟩
                    have bw11890 := BT_get hI11884.1 43 1 2 (0) (0) (47) (by decide) 1 (by decide) (by decide)
                    rw [ew11890] at bw11890
                    have vsI11884 := pI11884.1
                    have fuI11884 := pI11884.2
                    rw [ew11890] at fuI11884
                    refine WQ_puti dX2_search_186 fX2_67 rfl rfl (lyx_is hy 43 2 rfl) (fun I11891 eI11891 => ?_)
                    have hI11891 : XI g n L I11891 := by rw [eI11891]; exact (xi_f0 hy hI11884 (c := 43) (by decide) (Or.inl (by decide)) (by decide))
                    have e11892 : I11891 (ad g 1) 1 = L := by rw [eI11891, pp_ne _ _ (Or.inl (lyx_ne hy (by decide) (by decide) (by decide)))]; exact e11888
                    have e11893 : I11891 (ad g 43) 1 = w11890 := by rw [eI11891, pp_ne _ _ (Or.inr (by decide))]; exact ew11890
                    have e11894 : I11891 (ad g 43) 8 = v11886 := by rw [eI11891, pp_self]
                    have fr11895 : fz 74 g [43, 44, 47, 48] I I11891 := by rw [eI11891]; exact fzx_pp hy fr11887 (by decide) (by decide)
                    have VI11891 := vsI11884
                    rw [show I11884 (ad g 47) = I11891 (ad g 47) by rw [eI11891, pp_off _ _ (lyx_ne hy (by decide) (by decide) (by decide))]] at VI11891
                    clear eI11891
                    refine WP_aload_n dX2_search_189 rfl ?_
                    refine WP_getr dX2_search_190 fX2_29 rfl (lyx_is hy 43 2 rfl) hl121 ?_
                    refine WP_astore (ls' := [(0, _), (1, _), (2, _), (3, _), (4, _), (5, _), (6, _), (7, _), (8, _)]) dX2_search_193 (by decide) rfl ?_
                    refine WP_aload_n dX2_search_195 rfl ?_
                    refine WP_aload_n dX2_search_196 rfl ?_
                    refine WP_getr dX2_search_197 fX2_25 rfl (lyx_is hy 43 2 rfl) hn121 ?_
                    refine WP_putr dX2_search_200 fX2_29 rfl rfl rfl rfl (lyx_is hy 43 2 rfl) ?_
                    obtain ⟨R11896, eR11896⟩ : ∃ R9 : pR, R9 = pp RI11846 (ad g 43) 7 (some (ad g 47)) := ⟨_, rfl⟩
                    rw [← eR11896]
                    have hrR11896 : RfX g R11896 := by rw [eR11896]; exact rfx_pp hy hrI11846 (by decide)
                    have hTR11896 : R11896 (ad g 5) 0 = some (ad g 6) := by rw [eR11896, pp_ne _ _ (Or.inl (lyx_ne hy (by decide) (by decide) (by decide)))]; exact hTI11846
                    have hOR11896 : R11896 (ad g 43) 6 = some (ad g 47) := by rw [eR11896, pp_ne _ _ (Or.inr (by decide))]; exact hn121
                    have hQR11896 : R11896 (ad g 43) 7 = some (ad g 47) := by rw [eR11896, pp_self]
                    clear eR11896
                    refine WP_aload_n dX2_search_203 rfl ?_
                    refine WP_aload dX2_search_204 rfl ?_
                    refine WP_putr dX2_search_206 fX2_25 rfl rfl rfl rfl (lyx_is hy 43 2 rfl) ?_
                    obtain ⟨R11897, eR11897⟩ : ∃ R9 : pR, R9 = pp R11896 (ad g 43) 6 (some (ad g 48)) := ⟨_, rfl⟩
                    rw [← eR11897]
                    have hrR11897 : RfX g R11897 := by rw [eR11897]; exact rfx_pp hy hrR11896 (by decide)
                    have hTR11897 : R11897 (ad g 5) 0 = some (ad g 6) := by rw [eR11897, pp_ne _ _ (Or.inl (lyx_ne hy (by decide) (by decide) (by decide)))]; exact hTR11896
                    have hOR11897 : R11897 (ad g 43) 7 = some (ad g 47) := by rw [eR11897, pp_ne _ _ (Or.inr (by decide))]; exact hQR11896
                    have hQR11897 : R11897 (ad g 43) 6 = some (ad g 48) := by rw [eR11897, pp_self]
                    clear eR11897
                    refine WP_iinc (ls' := [(0, _), (1, _), (2, _), (3, _), (4, _), (5, _), (6, _), (7, _), (8, _)]) dX2_search_209 rfl (by decide) rfl ?_
                    have hv11898 : (i11845 + Int32.ofInt (-1)).toInt = i11845.toInt + (-1) := ia_n rfl (by omega) (by omega)
                    generalize i11845 + Int32.ofInt (-1) = v11898 at hv11898 ⊢
                    refine WP_goto 121 dX2_search_212 rfl ?_
                    exact WP_sub (fc rfl (fc rfl (fc rfl (fc rfl (fc rfl (fc rfl (fc rfl fn))))))) (ihlp121_11849 v11898 I11891 R11897 hrR11897 hTR11897 (Or.inr ⟨hQR11897, hOR11897⟩) hI11891 fr11895 w11890 e11893 v11886 e11894 (by omega) (by omega) (by omega) (by omega) (by omega) (fun q hq he => by have e := adx_inj hy hq (by decide) (Option.some.inj (he.symm.trans hOR11897)); subst e; exact WB_V VI11891 (by omega) (by omega)) (Or.inr ⟨_, by rw [show da.toInt = v11857.toInt by omega]; exact ldI11858, FU_end (by have z := fuI11884; rw [show i11845.toInt = (0 : Int) by omega] at z; exact z) PZ_I11824_11825 (by omega) (by omega) (by omega)⟩) (by omega))
              · have W11898 := PW_I11846_11846 47 (by decide) hl121
                refine WP_iload dX2_search_121 rfl ?_
                refine WQ_if_lt 215 dX2_search_123 rfl (fun c11899 => ?_) (fun c11899 => ?_)
                · refine WP_aload_n dX2_search_215 rfl ?_
                  refine WQ_getim dX2_search_216 fX2_75 rfl (lyx_is hy 43 2 rfl) ew11848 ?_
                  exact WP_iret dX2_search_219 rfl ⟨⟨hI11846, ⟨hrI11846, hTI11846.trans hT.symm, (Or.inr ⟨hn121, hl121⟩)⟩, fiI11846, fjJ11825⟩, _, rfl, by omega, by omega, (PQ_I11846_11846.resolve_left (by omega))⟩
                · refine WP_iload_n dX2_search_126 rfl ?_
                  refine WP_iload dX2_search_127 rfl ?_
                  refine WQ_iadd dX2_search_129 (by omega) (by omega) (fun v11901 hv11901 => ?_)
                  refine WQ_bipush (7) (7) dX2_search_130 rfl rfl (fun v11902 hv11902 => ?_)
                  refine WQ_iremk (7) dX2_search_132 hv11902 (by decide) (by omega) (fun v11903 hv11903 => ?_)
                  refine WP_istore (ls' := [(0, _), (1, _), (2, _), (3, _), (4, _), (5, _), (6, _), (7, _)]) dX2_search_133 (by decide) rfl ?_
                  refine WP_aload_n dX2_search_135 rfl ?_
                  refine WP_getr dX2_search_136 fX2_12 rfl (lyx_is hy 43 2 rfl) (rfx hrI11846 43 3 44 (by decide)) ?_
                  refine WP_aload_n dX2_search_139 rfl ?_
                  refine WP_getr dX2_search_140 fX2_32 rfl (lyx_is hy 43 2 rfl) (rfx hrI11846 43 2 5 (by decide)) ?_
                  refine WP_iload_n dX2_search_143 rfl ?_
                  refine WP_iload dX2_search_144 rfl ?_
                  refine WP_callV3 (k := 6) dX2_search_146 ⟨⟨⟨by decide, by decide⟩, zX6_load⟩, lX2_42, by decide, rfl, vX6_load.1, vX6_load.2⟩ (lyx_is hy 44 6 rfl) (sx_loadx_44_6 hy hrI11846 hTI11846 hI11846 so v11903 (by omega) (by omega) (by omega) (by omega)) (Nat.le_of_ble_eq_true rfl) ?_
                  intro r I11904 J11905 Ra hq
                  obtain ⟨⟨hI11904, ec, fiI11904, ejI11904, pI11904⟩, rfl⟩ := hq
                  rw [ec]
                  clear ec Ra
                  have fr11906 : fz 74 g [43, 44, 47, 48] I I11904 := fz_tr fiI11846 (fz_mono fiI11904 (by decide))
                  rw [ejI11904]
                  clear ejI11904 J11905
                  have ldI11904 := LD_fr pI11904 (fz_at fiI11846 6 (by decide) (by decide)) (fz_at fiI11846 11 (by decide) (by decide)) (fz_at fiI11846 13 (by decide) (by decide)) (fz_at fiI11846 14 (by decide) (by decide)) (fz_at fiI11846 15 (by decide) (by decide)) (fz_at fiI11846 22 (by decide) (by decide))
                  have WI11904 := W11898
                  rw [← fz_at fiI11904 47 (by decide) (by decide)] at WI11904
                  have e11907 : I11904 (ad g 1) 1 = L := hI11904.2
                  have b11908 := BT_get hI11904.1 1 1 2 (0) (0) (900) (by decide) 1 (by decide) (by decide)
                  rw [e11907] at b11908
                  refine WP_aload_n dX2_search_149 rfl ?_
                  refine WP_aload_n dX2_search_150 rfl ?_
                  refine WP_iload dX2_search_151 rfl ?_
                  refine WQ_if_ne 160 dX2_search_153 rfl (fun c11908 => ?_) (fun c11908 => ?_)
                  · refine WP_aload_n dX2_search_160 rfl ?_
                    refine WP_getr dX2_search_161 fX2_32 rfl (lyx_is hy 43 2 rfl) (rfx hrI11846 43 2 5 (by decide)) ?_
                    refine WP_getr dX2_search_164 fX2_46 rfl (lyx_is hy 5 0 rfl) hTI11846 ?_
                    refine WP_getr dX2_search_167 fX2_52 rfl (lyx_is hy 6 7 rfl) (rfx hrI11846 6 10 12 (by decide)) ?_
                    refine WP_iload_n dX2_search_170 rfl ?_
                    refine WQ_bipush (7) (7) dX2_search_171 rfl rfl (fun v11910 hv11910 => ?_)
                    refine WQ_imulk (7) dX2_search_173 hv11910 (by omega) (by omega) (fun v11911 hv11911 => ?_)
                    refine WP_iload dX2_search_174 rfl ?_
                    refine WQ_iadd dX2_search_176 (by omega) (by omega) (fun v11912 hv11912 => ?_)
                    refine WQ_iald dX2_search_177 (lyx_is hy 12 13 rfl) (lyx_n hy 12 28 rfl) (by omega) (by omega) (fun q hq => BT_get hI11904.1 12 0 28 (0) (0) (20) (by decide) q (Nat.zero_le _) hq) (fun v11913 av11913 bv11913 ev11913 => ?_)
                    refine WP_iload_n dX2_search_178 rfl ?_
                    refine WP_iload dX2_search_179 rfl ?_
                    refine WP_iload dX2_search_181 rfl ?_
                    refine WP_callV4 (k := 2) dX2_search_183 ⟨⟨⟨by decide, by decide⟩, zX2_weighDay⟩, lX2_71, by decide, rfl, vX2_weighDay.1, vX2_weighDay.2⟩ (lyx_is hy 43 2 rfl) (sx_weighDayx_47_6 hy hrI11846 hTI11846 hI11904 v11913 so v11903 i11845 (by omega) (by omega) (by omega) (by omega) (by omega) (by omega) (by omega) (by omega) (K := 594 * ((nn.toInt - 1) - i11845.toInt)) (by omega) hl121 hn121 (by rw [fz_at fiI11904 43 (by decide) (by decide), ew11849]; omega) (by rw [fz_at fr11906 24 (by decide) (by decide), fz_at fr11906 25 (by decide) (by decide), fz_at fr11906 26 (by decide) (by decide)]; exact WD_of WI11904 FN11832 ldI11904 (by unfold EA; rw [if_neg (by omega), show I (ad g (6 + 6)) = I11904 (ad g 12) from (fz_at fr11906 12 (by decide) (by decide)).symm, ← cl (x := v11912) (n := (7 * so.toInt + v11903.toInt).toNat) (by omega), ev11913]) (by omega) (by omega) (by omega) (ldx_p hI (by decide) _ _ _ (by omega) (by omega) ldI11904 (by omega) (by omega)) (sbx_b hI) (cbx_b hI (by omega) (by omega)))) (Nat.le_of_ble_eq_true rfl) ?_
                    intro r I11914 J11915 Ra hq
                    obtain ⟨⟨hI11914, ec, fiI11914, ejI11914, pI11914⟩, v11916, rfl, av11916, bv11916, cv11916⟩ := hq
                    show WP _ _ _ _ (.int _ :: _) _ _ _ _
                    rw [ec]
                    clear ec Ra
                    have fr11917 : fz 74 g [43, 44, 47, 48] I I11914 := fz_tr fr11906 (fz_mono fiI11914 (by decide))
                    rw [ejI11914]
                    clear ejI11914 J11915
                    have e11918 : I11914 (ad g 1) 1 = L := hI11914.2
                    have b11919 := BT_get hI11914.1 1 1 2 (0) (0) (900) (by decide) 1 (by decide) (by decide)
                    rw [e11918] at b11919
                    obtain ⟨w11920, ew11920⟩ : ∃ w : Int32, I11914 (ad g 43) 1 = w := ⟨_, rfl⟩
                    have bw11920 := BT_get hI11914.1 43 1 2 (0) (0) (47) (by decide) 1 (by decide) (by decide)
                    rw [ew11920] at bw11920
                    have vsI11914 := pI11914.1
                    have fuI11914 := pI11914.2
                    rw [ew11920] at fuI11914
                    refine WQ_puti dX2_search_186 fX2_67 rfl rfl (lyx_is hy 43 2 rfl) (fun I11921 eI11921 => ?_)
                    have hI11921 : XI g n L I11921 := by rw [eI11921]; exact (xi_f0 hy hI11914 (c := 43) (by decide) (Or.inl (by decide)) (by decide))
                    have e11922 : I11921 (ad g 1) 1 = L := by rw [eI11921, pp_ne _ _ (Or.inl (lyx_ne hy (by decide) (by decide) (by decide)))]; exact e11918
                    have e11923 : I11921 (ad g 43) 1 = w11920 := by rw [eI11921, pp_ne _ _ (Or.inr (by decide))]; exact ew11920
                    have e11924 : I11921 (ad g 43) 8 = v11916 := by rw [eI11921, pp_self]
                    have fr11925 : fz 74 g [43, 44, 47, 48] I I11921 := by rw [eI11921]; exact fzx_pp hy fr11917 (by decide) (by decide)
                    have VI11921 := vsI11914
                    rw [show I11914 (ad g 48) = I11921 (ad g 48) by rw [eI11921, pp_off _ _ (lyx_ne hy (by decide) (by decide) (by decide))]] at VI11921
                    clear eI11921
                    refine WP_aload_n dX2_search_189 rfl ?_
                    refine WP_getr dX2_search_190 fX2_29 rfl (lyx_is hy 43 2 rfl) hl121 ?_
                    refine WP_astore (ls' := [(0, _), (1, _), (2, _), (3, _), (4, _), (5, _), (6, _), (7, _), (8, _)]) dX2_search_193 (by decide) rfl ?_
                    refine WP_aload_n dX2_search_195 rfl ?_
                    refine WP_aload_n dX2_search_196 rfl ?_
                    refine WP_getr dX2_search_197 fX2_25 rfl (lyx_is hy 43 2 rfl) hn121 ?_
                    refine WP_putr dX2_search_200 fX2_29 rfl rfl rfl rfl (lyx_is hy 43 2 rfl) ?_
                    obtain ⟨R11926, eR11926⟩ : ∃ R9 : pR, R9 = pp RI11846 (ad g 43) 7 (some (ad g 48)) := ⟨_, rfl⟩
                    rw [← eR11926]
                    have hrR11926 : RfX g R11926 := by rw [eR11926]; exact rfx_pp hy hrI11846 (by decide)
                    have hTR11926 : R11926 (ad g 5) 0 = some (ad g 6) := by rw [eR11926, pp_ne _ _ (Or.inl (lyx_ne hy (by decide) (by decide) (by decide)))]; exact hTI11846
                    have hOR11926 : R11926 (ad g 43) 6 = some (ad g 48) := by rw [eR11926, pp_ne _ _ (Or.inr (by decide))]; exact hn121
                    have hQR11926 : R11926 (ad g 43) 7 = some (ad g 48) := by rw [eR11926, pp_self]
                    clear eR11926
                    refine WP_aload_n dX2_search_203 rfl ?_
                    refine WP_aload dX2_search_204 rfl ?_
                    refine WP_putr dX2_search_206 fX2_25 rfl rfl rfl rfl (lyx_is hy 43 2 rfl) ?_
                    obtain ⟨R11927, eR11927⟩ : ∃ R9 : pR, R9 = pp R11926 (ad g 43) 6 (some (ad g 47)) := ⟨_, rfl⟩
                    rw [← eR11927]
                    have hrR11927 : RfX g R11927 := by rw [eR11927]; exact rfx_pp hy hrR11926 (by decide)
                    have hTR11927 : R11927 (ad g 5) 0 = some (ad g 6) := by rw [eR11927, pp_ne _ _ (Or.inl (lyx_ne hy (by decide) (by decide) (by decide)))]; exact hTR11926
                    have hOR11927 : R11927 (ad g 43) 7 = some (ad g 48) := by rw [eR11927, pp_ne _ _ (Or.inr (by decide))]; exact hQR11926
                    have hQR11927 : R11927 (ad g 43) 6 = some (ad g 47) := by rw [eR11927, pp_self]
                    clear eR11927
                    refine WP_iinc (ls' := [(0, _), (1, _), (2, _), (3, _), (4, _), (5, _), (6, _), (7, _), (8, _)]) dX2_search_209 rfl (by decide) rfl ?_
                    have hv11928 : (i11845 + Int32.ofInt (-1)).toInt = i11845.toInt + (-1) := ia_n rfl (by omega) (by omega)
                    generalize i11845 + Int32.ofInt (-1) = v11928 at hv11928 ⊢
                    refine WP_goto 121 dX2_search_212 rfl ?_
                    exact WP_sub (fc rfl (fc rfl (fc rfl (fc rfl (fc rfl (fc rfl (fc rfl fn))))))) (ihlp121_11849 v11928 I11921 R11927 hrR11927 hTR11927 (Or.inl ⟨hQR11927, hOR11927⟩) hI11921 fr11925 w11920 e11923 v11916 e11924 (by omega) (by omega) (by omega) (by omega) (by omega) (fun q hq he => by have e := adx_inj hy hq (by decide) (Option.some.inj (he.symm.trans hOR11927)); subst e; exact WB_V VI11921 (by omega) (by omega)) (Or.inl (by omega)) (by omega))
                  · refine WQ_iconst (0) (0) dX2_search_156 rfl rfl (fun v11929 hv11929 => ?_)
                    refine WP_goto 178 dX2_search_157 rfl ?_
                    refine WP_iload_n dX2_search_178 rfl ?_
                    refine WP_iload dX2_search_179 rfl ?_
                    refine WP_iload dX2_search_181 rfl ?_
                    refine WP_callV4 (k := 2) dX2_search_183 ⟨⟨⟨by decide, by decide⟩, zX2_weighDay⟩, lX2_71, by decide, rfl, vX2_weighDay.1, vX2_weighDay.2⟩ (lyx_is hy 43 2 rfl) (sx_weighDayx_47_6 hy hrI11846 hTI11846 hI11904 v11929 so v11903 i11845 (by omega) (by omega) (by omega) (by omega) (by omega) (by omega) (by omega) (by omega) (K := 594 * ((nn.toInt - 1) - i11845.toInt)) (by omega) hl121 hn121 (by rw [fz_at fiI11904 43 (by decide) (by decide), ew11849]; omega) (by rw [fz_at fr11906 24 (by decide) (by decide), fz_at fr11906 25 (by decide) (by decide), fz_at fr11906 26 (by decide) (by decide)]; exact WD_of WI11904 FN11832 ldI11904 (by unfold EA; rw [if_pos (by omega)]; omega) (by omega) (by omega) (by omega) (ldx_p hI (by decide) _ _ _ (by omega) (by omega) ldI11904 (by omega) (by omega)) (sbx_b hI) (cbx_b hI (by omega) (by omega)))) (Nat.le_of_ble_eq_true rfl) ?_
                    intro r I11930 J11931 Ra hq
                    obtain ⟨⟨hI11930, ec, fiI11930, ejI11930, pI11930⟩, v11932, rfl, av11932, bv11932, cv11932⟩ := hq
                    show WP _ _ _ _ (.int _ :: _) _ _ _ _
                    rw [ec]
                    clear ec Ra
                    have fr11933 : fz 74 g [43, 44, 47, 48] I I11930 := fz_tr fr11906 (fz_mono fiI11930 (by decide))
                    rw [ejI11930]
                    clear ejI11930 J11931
                    have e11934 : I11930 (ad g 1) 1 = L := hI11930.2
                    have b11935 := BT_get hI11930.1 1 1 2 (0) (0) (900) (by decide) 1 (by decide) (by decide)
                    rw [e11934] at b11935
                    obtain ⟨w11936, ew11936⟩ : ∃ w : Int32, I11930 (ad g 43) 1 = w := ⟨_, rfl⟩
                    have bw11936 := BT_get hI11930.1 43 1 2 (0) (0) (47) (by decide) 1 (by decide) (by decide)
                    rw [ew11936] at bw11936
                    have vsI11930 := pI11930.1
                    have fuI11930 := pI11930.2
                    rw [ew11936] at fuI11930
                    refine WQ_puti dX2_search_186 fX2_67 rfl rfl (lyx_is hy 43 2 rfl) (fun I11937 eI11937 => ?_)
                    have hI11937 : XI g n L I11937 := by rw [eI11937]; exact (xi_f0 hy hI11930 (c := 43) (by decide) (Or.inl (by decide)) (by decide))
                    have e11938 : I11937 (ad g 1) 1 = L := by rw [eI11937, pp_ne _ _ (Or.inl (lyx_ne hy (by decide) (by decide) (by decide)))]; exact e11934
                    have e11939 : I11937 (ad g 43) 1 = w11936 := by rw [eI11937, pp_ne _ _ (Or.inr (by decide))]; exact ew11936
                    have e11940 : I11937 (ad g 43) 8 = v11932 := by rw [eI11937, pp_self]
                    have fr11941 : fz 74 g [43, 44, 47, 48] I I11937 := by rw [eI11937]; exact fzx_pp hy fr11933 (by decide) (by decide)
                    have VI11937 := vsI11930
                    rw [show I11930 (ad g 48) = I11937 (ad g 48) by rw [eI11937, pp_off _ _ (lyx_ne hy (by decide) (by decide) (by decide))]] at VI11937
                    clear eI11937
                    refine WP_aload_n dX2_search_189 rfl ?_
                    refine WP_getr dX2_search_190 fX2_29 rfl (lyx_is hy 43 2 rfl) hl121 ?_
                    refine WP_astore (ls' := [(0, _), (1, _), (2, _), (3, _), (4, _), (5, _), (6, _), (7, _), (8, _)]) dX2_search_193 (by decide) rfl ?_
                    refine WP_aload_n dX2_search_195 rfl ?_
                    refine WP_aload_n dX2_search_196 rfl ?_
                    refine WP_getr dX2_search_197 fX2_25 rfl (lyx_is hy 43 2 rfl) hn121 ?_
                    refine WP_putr dX2_search_200 fX2_29 rfl rfl rfl rfl (lyx_is hy 43 2 rfl) ?_
                    obtain ⟨R11942, eR11942⟩ : ∃ R9 : pR, R9 = pp RI11846 (ad g 43) 7 (some (ad g 48)) := ⟨_, rfl⟩
                    rw [← eR11942]
                    have hrR11942 : RfX g R11942 := by rw [eR11942]; exact rfx_pp hy hrI11846 (by decide)
                    have hTR11942 : R11942 (ad g 5) 0 = some (ad g 6) := by rw [eR11942, pp_ne _ _ (Or.inl (lyx_ne hy (by decide) (by decide) (by decide)))]; exact hTI11846
                    have hOR11942 : R11942 (ad g 43) 6 = some (ad g 48) := by rw [eR11942, pp_ne _ _ (Or.inr (by decide))]; exact hn121
                    have hQR11942 : R11942 (ad g 43) 7 = some (ad g 48) := by rw [eR11942, pp_self]
                    clear eR11942
                    refine WP_aload_n dX2_search_203 rfl ?_
                    refine WP_aload dX2_search_204 rfl ?_
                    refine WP_putr dX2_search_206 fX2_25 rfl rfl rfl rfl (lyx_is hy 43 2 rfl) ?_
                    obtain ⟨R11943, eR11943⟩ : ∃ R9 : pR, R9 = pp R11942 (ad g 43) 6 (some (ad g 47)) := ⟨_, rfl⟩
                    rw [← eR11943]
                    have hrR11943 : RfX g R11943 := by rw [eR11943]; exact rfx_pp hy hrR11942 (by decide)
                    have hTR11943 : R11943 (ad g 5) 0 = some (ad g 6) := by rw [eR11943, pp_ne _ _ (Or.inl (lyx_ne hy (by decide) (by decide) (by decide)))]; exact hTR11942
                    have hOR11943 : R11943 (ad g 43) 7 = some (ad g 48) := by rw [eR11943, pp_ne _ _ (Or.inr (by decide))]; exact hQR11942
                    have hQR11943 : R11943 (ad g 43) 6 = some (ad g 47) := by rw [eR11943, pp_self]
                    clear eR11943
                    refine WP_iinc (ls' := [(0, _), (1, _), (2, _), (3, _), (4, _), (5, _), (6, _), (7, _), (8, _)]) dX2_search_209 rfl (by decide) rfl ?_
                    have hv11944 : (i11845 + Int32.ofInt (-1)).toInt = i11845.toInt + (-1) := ia_n rfl (by omega) (by omega)
                    generalize i11845 + Int32.ofInt (-1) = v11944 at hv11944 ⊢
                    refine WP_goto 121 dX2_search_212 rfl ?_
                    exact WP_sub (fc rfl (fc rfl (fc rfl (fc rfl (fc rfl (fc rfl (fc rfl fn))))))) (ihlp121_11849 v11944 I11937 R11943 hrR11943 hTR11943 (Or.inl ⟨hQR11943, hOR11943⟩) hI11937 fr11941 w11936 e11939 v11932 e11940 (by omega) (by omega) (by omega) (by omega) (by omega) (fun q hq he => by have e := adx_inj hy hq (by decide) (Option.some.inj (he.symm.trans hOR11943)); subst e; exact WB_V VI11937 (by omega) (by omega)) (Or.inr ⟨_, by rw [show da.toInt = v11903.toInt by omega]; exact ldI11904, FU_end (by have z := fuI11930; rw [show i11845.toInt = (0 : Int) by omega] at z; exact z) PZ_I11824_11825 (by omega) (by omega) (by omega)⟩) (by omega))
          obtain ⟨w11945, ew11945⟩ : ∃ w : Int32, I11839 (ad g 43) 1 = w := ⟨_, rfl⟩
          have bw11945 := BT_get hI11839.1 43 1 2 (0) (0) (47) (by decide) 1 (by decide) (by decide)
          rw [ew11945] at bw11945
          exact WP_sub (fc rfl (fc rfl (fc rfl (fc rfl (fc rfl (fc rfl (fc rfl fn))))))) (lp121_11849 _ v11844 I11839 RI11824 hrI11824 hTI11824 (Or.inl ⟨hn102, hl102⟩) hI11839 fr11842 w11945 ew11945 v11838 e11841 (by omega) (by omega) (by omega) (by omega) (by omega) (fun q hq he => by have e := adx_inj hy hq (by decide) (Option.some.inj (he.symm.trans hl102)); subst e; exact (by rw [show v11844.toInt = (nn.toInt - 1) by omega]; exact WI11839)) (Or.inl (by omega)) (Nat.lt_succ_self _))
        · have FN11945 : FWD g 6 I (J11825 (ad g 45)) so.toInt da.toInt (nn.toInt - 1) := by rw [show (nn.toInt - 1) = i11823.toInt by omega]; exact PF_I11824_11825
          refine WP_aload_n dX2_search_102 rfl ?_
          refine WP_getr dX2_search_103 fX2_29 rfl (lyx_is hy 43 2 rfl) hl102 ?_
          refine WQ_iconst (0) (0) dX2_search_106 rfl rfl (fun v11947 hv11947 => ?_)
          refine WP_callS2u dX2_search_107 ⟨⟨⟨by decide, by decide⟩, zJ7_fill_53178⟩, lX2_64, tJ7_fill_53178⟩ (s_fill hy hrI11824 47 366 rfl rfl (by decide) v11947) (Nat.le_of_ble_eq_true rfl) ?_
          obtain ⟨I11948, eI11948⟩ : ∃ I9 : pI, I9 = fi I11824 (ad g 47) 366 v11947 := ⟨_, rfl⟩
          rw [← eI11948]
          have hI11948 : XI g n L I11948 := by rw [eI11948]; exact (xi_fill0 hy hI11824 47 366 v11947 (by decide) (by decide))
          have e11949 : I11948 (ad g 1) 1 = L := by rw [eI11948, fi_off (lyx_ne hy (by decide) (by decide) (by decide))]; exact e11828
          have fr11950 : fz 74 g [43, 44, 47, 48] I I11948 := by rw [eI11948]; exact fzx_fi hy fiI11824 (by decide) (by decide)
          have WI11948 : WB (J11825 (ad g 45)) (I11948 (ad g 47)) (nn.toInt - 1) (nn.toInt - 1) := WB_0 eI11948 hv11947
          clear eI11948
          refine WP_aload_n dX2_search_110 rfl ?_
          refine WQ_iconst (0) (0) dX2_search_111 rfl rfl (fun v11951 hv11951 => ?_)
          refine WQ_puti dX2_search_112 fX2_67 rfl rfl (lyx_is hy 43 2 rfl) (fun I11952 eI11952 => ?_)
          have hI11952 : XI g n L I11952 := by rw [eI11952]; exact (xi_f0 hy hI11948 (c := 43) (by decide) (Or.inl (by decide)) (by decide))
          have e11953 : I11952 (ad g 1) 1 = L := by rw [eI11952, pp_ne _ _ (Or.inl (lyx_ne hy (by decide) (by decide) (by decide)))]; exact e11949
          have e11954 : I11952 (ad g 43) 8 = v11951 := by rw [eI11952, pp_self]
          have fr11955 : fz 74 g [43, 44, 47, 48] I I11952 := by rw [eI11952]; exact fzx_pp hy fr11950 (by decide) (by decide)
          have WI11952 : WB (J11825 (ad g 45)) (I11952 (ad g 47)) (nn.toInt - 1) (nn.toInt - 1) := by rw [eI11952, pp_off _ _ (lyx_ne hy (by decide) (by decide) (by decide))]; exact WI11948
          clear eI11952
          refine WP_iload dX2_search_115 rfl ?_
          refine WQ_iconst (1) (1) dX2_search_117 rfl rfl (fun v11956 hv11956 => ?_)
          refine WQ_isub dX2_search_118 (by omega) (by omega) (fun v11957 hv11957 => ?_)
          refine WP_istore (ls' := [(0, _), (1, _), (2, _), (3, _), (4, _), (5, _), (6, _)]) dX2_search_119 (by decide) rfl ?_
          have lp121_11962 : ∀ (mz : Nat) (i11958 : Int32) (I11959 : pI) (RI11959 : pR), RfX g RI11959 → RI11959 (ad g 5) 0 = some (ad g 6) → NL g RI11959 → XI g n L I11959 → fz 74 g [43, 44, 47, 48] I I11959 → ∀ (w11961 : Int32), I11959 (ad g 43) 1 = w11961 → ∀ (w11962 : Int32), I11959 (ad g 43) 8 = w11962 → -1 ≤ i11958.toInt → i11958.toInt ≤ 27 → i11958.toInt ≤ nn.toInt - 1 → 0 ≤ w11962.toInt → w11962.toInt ≤ 594 * (nn.toInt - 1 - i11958.toInt) → (∀ q : Nat, q < 74 → RI11959 (ad g 43) 7 = some (ad g q) → WB (J11825 (ad g 45)) (I11959 (ad g q)) (nn.toInt - 1) i11958.toInt) → (0 ≤ i11958.toInt ∨ ∃ T : Nat → Int32, LD g 6 I so.toInt da.toInt T ∧ AOKd T co.toInt st.toInt w11961.toInt) → (i11958.toInt + 1).toNat < mz → WP g mX2_search 121 [(0, .ref (ad g 43)), (1, .int so), (2, .int da), (3, .int co), (4, .int st), (5, .int nn), (6, .int i11958)] [] I11959 J11825 RI11959 (fun r I' J' R' => (XI g n L I' ∧ (RfX g R' ∧ R' (ad g 5) 0 = R (ad g 5) 0 ∧ NL g R') ∧ fz 74 g [43, 44, 47, 48] I I' ∧ fz 74 g [45, 46] J J') ∧ ∃ v : Int32, r = some (.int v) ∧ 0 ≤ v.toInt ∧ v.toInt ≤ 47 ∧ (∃ T : Nat → Int32, LD g 6 I so.toInt da.toInt T ∧ AOKd T co.toInt st.toInt v.toInt)) := by
            intro mz
            induction mz with
            | zero =>
              intro i11958 I11959 RI11959 hrI11959 hTI11959 hPI11959 hI11959 fiI11959 w11961 ew11961 w11962 ew11962 ai11958 bi11958 j0_I11959_11959 j1_I11959_11959 j2_I11959_11959 PW_I11959_11959 PQ_I11959_11959 hmlp121_11962
              exact absurd hmlp121_11962 (Nat.not_lt_zero _)
            | succ mz ihlp121_11962 =>
              intro i11958 I11959 RI11959 hrI11959 hTI11959 hPI11959 hI11959 fiI11959 w11961 ew11961 w11962 ew11962 ai11958 bi11958 j0_I11959_11959 j1_I11959_11959 j2_I11959_11959 PW_I11959_11959 PQ_I11959_11959 hmlp121_11962
              have bw11961 := BT_get hI11959.1 43 1 2 (0) (0) (47) (by decide) 1 (by decide) (by decide)
              rw [ew11961] at bw11961
              have e11964 : I11959 (ad g 1) 1 = L := hI11959.2
              have b11965 := BT_get hI11959.1 1 1 2 (0) (0) (900) (by decide) 1 (by decide) (by decide)
              rw [e11964] at b11965
              rcases hPI11959 with ⟨hn121, hl121⟩ | ⟨hn121, hl121⟩
              · have W11965 := PW_I11959_11959 48 (by decide) hl121
                refine WP_iload dX2_search_121 rfl ?_
                refine WQ_if_lt 215 dX2_search_123 rfl (fun c11966 => ?_) (fun c11966 => ?_)
                · refine WP_aload_n dX2_search_215 rfl ?_
                  refine WQ_getim dX2_search_216 fX2_75 rfl (lyx_is hy 43 2 rfl) ew11961 ?_
                  exact WP_iret dX2_search_219 rfl ⟨⟨hI11959, ⟨hrI11959, hTI11959.trans hT.symm, (Or.inl ⟨hn121, hl121⟩)⟩, fiI11959, fjJ11825⟩, _, rfl, by omega, by omega, (PQ_I11959_11959.resolve_left (by omega))⟩
                · refine WP_iload_n dX2_search_126 rfl ?_
                  refine WP_iload dX2_search_127 rfl ?_
                  refine WQ_iadd dX2_search_129 (by omega) (by omega) (fun v11968 hv11968 => ?_)
                  refine WQ_bipush (7) (7) dX2_search_130 rfl rfl (fun v11969 hv11969 => ?_)
                  refine WQ_iremk (7) dX2_search_132 hv11969 (by decide) (by omega) (fun v11970 hv11970 => ?_)
                  refine WP_istore (ls' := [(0, _), (1, _), (2, _), (3, _), (4, _), (5, _), (6, _), (7, _)]) dX2_search_133 (by decide) rfl ?_
                  refine WP_aload_n dX2_search_135 rfl ?_
                  refine WP_getr dX2_search_136 fX2_12 rfl (lyx_is hy 43 2 rfl) (rfx hrI11959 43 3 44 (by decide)) ?_
                  refine WP_aload_n dX2_search_139 rfl ?_
                  refine WP_getr dX2_search_140 fX2_32 rfl (lyx_is hy 43 2 rfl) (rfx hrI11959 43 2 5 (by decide)) ?_
                  refine WP_iload_n dX2_search_143 rfl ?_
                  refine WP_iload dX2_search_144 rfl ?_
                  refine WP_callV3 (k := 6) dX2_search_146 ⟨⟨⟨by decide, by decide⟩, zX6_load⟩, lX2_42, by decide, rfl, vX6_load.1, vX6_load.2⟩ (lyx_is hy 44 6 rfl) (sx_loadx_44_6 hy hrI11959 hTI11959 hI11959 so v11970 (by omega) (by omega) (by omega) (by omega)) (Nat.le_of_ble_eq_true rfl) ?_
                  intro r I11971 J11972 Ra hq
                  obtain ⟨⟨hI11971, ec, fiI11971, ejI11971, pI11971⟩, rfl⟩ := hq
                  rw [ec]
                  clear ec Ra
                  have fr11973 : fz 74 g [43, 44, 47, 48] I I11971 := fz_tr fiI11959 (fz_mono fiI11971 (by decide))
                  rw [ejI11971]
                  clear ejI11971 J11972
                  have ldI11971 := LD_fr pI11971 (fz_at fiI11959 6 (by decide) (by decide)) (fz_at fiI11959 11 (by decide) (by decide)) (fz_at fiI11959 13 (by decide) (by decide)) (fz_at fiI11959 14 (by decide) (by decide)) (fz_at fiI11959 15 (by decide) (by decide)) (fz_at fiI11959 22 (by decide) (by decide))
                  have WI11971 := W11965
                  rw [← fz_at fiI11971 48 (by decide) (by decide)] at WI11971
                  have e11974 : I11971 (ad g 1) 1 = L := hI11971.2
                  have b11975 := BT_get hI11971.1 1 1 2 (0) (0) (900) (by decide) 1 (by decide) (by decide)
                  rw [e11974] at b11975
                  refine WP_aload_n dX2_search_149 rfl ?_
                  refine WP_aload_n dX2_search_150 rfl ?_
                  refine WP_iload dX2_search_151 rfl ?_
                  refine WQ_if_ne 160 dX2_search_153 rfl (fun c11975 => ?_) (fun c11975 => ?_)
                  · refine WP_aload_n dX2_search_160 rfl ?_
                    refine WP_getr dX2_search_161 fX2_32 rfl (lyx_is hy 43 2 rfl) (rfx hrI11959 43 2 5 (by decide)) ?_
                    refine WP_getr dX2_search_164 fX2_46 rfl (lyx_is hy 5 0 rfl) hTI11959 ?_
                    refine WP_getr dX2_search_167 fX2_52 rfl (lyx_is hy 6 7 rfl) (rfx hrI11959 6 10 12 (by decide)) ?_
                    refine WP_iload_n dX2_search_170 rfl ?_
                    refine WQ_bipush (7) (7) dX2_search_171 rfl rfl (fun v11977 hv11977 => ?_)
                    refine WQ_imulk (7) dX2_search_173 hv11977 (by omega) (by omega) (fun v11978 hv11978 => ?_)
                    refine WP_iload dX2_search_174 rfl ?_
                    refine WQ_iadd dX2_search_176 (by omega) (by omega) (fun v11979 hv11979 => ?_)
                    refine WQ_iald dX2_search_177 (lyx_is hy 12 13 rfl) (lyx_n hy 12 28 rfl) (by omega) (by omega) (fun q hq => BT_get hI11971.1 12 0 28 (0) (0) (20) (by decide) q (Nat.zero_le _) hq) (fun v11980 av11980 bv11980 ev11980 => ?_)
                    refine WP_iload_n dX2_search_178 rfl ?_
                    refine WP_iload dX2_search_179 rfl ?_
                    refine WP_iload dX2_search_181 rfl ?_
                    refine WP_callV4 (k := 2) dX2_search_183 ⟨⟨⟨by decide, by decide⟩, zX2_weighDay⟩, lX2_71, by decide, rfl, vX2_weighDay.1, vX2_weighDay.2⟩ (lyx_is hy 43 2 rfl) (sx_weighDayx_48_6 hy hrI11959 hTI11959 hI11971 v11980 so v11970 i11958 (by omega) (by omega) (by omega) (by omega) (by omega) (by omega) (by omega) (by omega) (K := 594 * ((nn.toInt - 1) - i11958.toInt)) (by omega) hl121 hn121 (by rw [fz_at fiI11971 43 (by decide) (by decide), ew11962]; omega) (by rw [fz_at fr11973 24 (by decide) (by decide), fz_at fr11973 25 (by decide) (by decide), fz_at fr11973 26 (by decide) (by decide)]; exact WD_of WI11971 FN11945 ldI11971 (by unfold EA; rw [if_neg (by omega), show I (ad g (6 + 6)) = I11971 (ad g 12) from (fz_at fr11973 12 (by decide) (by decide)).symm, ← cl (x := v11979) (n := (7 * so.toInt + v11970.toInt).toNat) (by omega), ev11980]) (by omega) (by omega) (by omega) (ldx_p hI (by decide) _ _ _ (by omega) (by omega) ldI11971 (by omega) (by omega)) (sbx_b hI) (cbx_b hI (by omega) (by omega)))) (Nat.le_of_ble_eq_true rfl) ?_
                    intro r I11981 J11982 Ra hq
                    obtain ⟨⟨hI11981, ec, fiI11981, ejI11981, pI11981⟩, v11983, rfl, av11983, bv11983, cv11983⟩ := hq
                    show WP _ _ _ _ (.int _ :: _) _ _ _ _
                    rw [ec]
                    clear ec Ra
                    have fr11984 : fz 74 g [43, 44, 47, 48] I I11981 := fz_tr fr11973 (fz_mono fiI11981 (by decide))
                    rw [ejI11981]
                    clear ejI11981 J11982
                    have e11985 : I11981 (ad g 1) 1 = L := hI11981.2
                    have b11986 := BT_get hI11981.1 1 1 2 (0) (0) (900) (by decide) 1 (by decide) (by decide)
                    rw [e11985] at b11986
                    obtain ⟨w11987, ew11987⟩ : ∃ w : Int32, I11981 (ad g 43) 1 = w := ⟨_, rfl⟩
                    have bw11987 := BT_get hI11981.1 43 1 2 (0) (0) (47) (by decide) 1 (by decide) (by decide)
                    rw [ew11987] at bw11987
                    have vsI11981 := pI11981.1
                    have fuI11981 := pI11981.2
                    rw [ew11987] at fuI11981
                    refine WQ_puti dX2_search_186 fX2_67 rfl rfl (lyx_is hy 43 2 rfl) (fun I11988 eI11988 => ?_)
                    have hI11988 : XI g n L I11988 := by rw [eI11988]; exact (xi_f0 hy hI11981 (c := 43) (by decide) (Or.inl (by decide)) (by decide))
                    have e11989 : I11988 (ad g 1) 1 = L := by rw [eI11988, pp_ne _ _ (Or.inl (lyx_ne hy (by decide) (by decide) (by decide)))]; exact e11985
                    have e11990 : I11988 (ad g 43) 1 = w11987 := by rw [eI11988, pp_ne _ _ (Or.inr (by decide))]; exact ew11987
                    have e11991 : I11988 (ad g 43) 8 = v11983 := by rw [eI11988, pp_self]
                    have fr11992 : fz 74 g [43, 44, 47, 48] I I11988 := by rw [eI11988]; exact fzx_pp hy fr11984 (by decide) (by decide)
                    have VI11988 := vsI11981
                    rw [show I11981 (ad g 47) = I11988 (ad g 47) by rw [eI11988, pp_off _ _ (lyx_ne hy (by decide) (by decide) (by decide))]] at VI11988
                    clear eI11988
                    refine WP_aload_n dX2_search_189 rfl ?_
                    refine WP_getr dX2_search_190 fX2_29 rfl (lyx_is hy 43 2 rfl) hl121 ?_
                    refine WP_astore (ls' := [(0, _), (1, _), (2, _), (3, _), (4, _), (5, _), (6, _), (7, _), (8, _)]) dX2_search_193 (by decide) rfl ?_
                    refine WP_aload_n dX2_search_195 rfl ?_
                    refine WP_aload_n dX2_search_196 rfl ?_
                    refine WP_getr dX2_search_197 fX2_25 rfl (lyx_is hy 43 2 rfl) hn121 ?_
                    refine WP_putr dX2_search_200 fX2_29 rfl rfl rfl rfl (lyx_is hy 43 2 rfl) ?_
                    obtain ⟨R11993, eR11993⟩ : ∃ R9 : pR, R9 = pp RI11959 (ad g 43) 7 (some (ad g 47)) := ⟨_, rfl⟩
                    rw [← eR11993]
                    have hrR11993 : RfX g R11993 := by rw [eR11993]; exact rfx_pp hy hrI11959 (by decide)
                    have hTR11993 : R11993 (ad g 5) 0 = some (ad g 6) := by rw [eR11993, pp_ne _ _ (Or.inl (lyx_ne hy (by decide) (by decide) (by decide)))]; exact hTI11959
                    have hOR11993 : R11993 (ad g 43) 6 = some (ad g 47) := by rw [eR11993, pp_ne _ _ (Or.inr (by decide))]; exact hn121
                    have hQR11993 : R11993 (ad g 43) 7 = some (ad g 47) := by rw [eR11993, pp_self]
                    clear eR11993
                    refine WP_aload_n dX2_search_203 rfl ?_
                    refine WP_aload dX2_search_204 rfl ?_
                    refine WP_putr dX2_search_206 fX2_25 rfl rfl rfl rfl (lyx_is hy 43 2 rfl) ?_
                    obtain ⟨R11994, eR11994⟩ : ∃ R9 : pR, R9 = pp R11993 (ad g 43) 6 (some (ad g 48)) := ⟨_, rfl⟩
                    rw [← eR11994]
                    have hrR11994 : RfX g R11994 := by rw [eR11994]; exact rfx_pp hy hrR11993 (by decide)
                    have hTR11994 : R11994 (ad g 5) 0 = some (ad g 6) := by rw [eR11994, pp_ne _ _ (Or.inl (lyx_ne hy (by decide) (by decide) (by decide)))]; exact hTR11993
                    have hOR11994 : R11994 (ad g 43) 7 = some (ad g 47) := by rw [eR11994, pp_ne _ _ (Or.inr (by decide))]; exact hQR11993
                    have hQR11994 : R11994 (ad g 43) 6 = some (ad g 48) := by rw [eR11994, pp_self]
                    clear eR11994
                    refine WP_iinc (ls' := [(0, _), (1, _), (2, _), (3, _), (4, _), (5, _), (6, _), (7, _), (8, _)]) dX2_search_209 rfl (by decide) rfl ?_
                    have hv11995 : (i11958 + Int32.ofInt (-1)).toInt = i11958.toInt + (-1) := ia_n rfl (by omega) (by omega)
                    generalize i11958 + Int32.ofInt (-1) = v11995 at hv11995 ⊢
                    refine WP_goto 121 dX2_search_212 rfl ?_
                    exact WP_sub (fc rfl (fc rfl (fc rfl (fc rfl (fc rfl (fc rfl (fc rfl fn))))))) (ihlp121_11962 v11995 I11988 R11994 hrR11994 hTR11994 (Or.inr ⟨hQR11994, hOR11994⟩) hI11988 fr11992 w11987 e11990 v11983 e11991 (by omega) (by omega) (by omega) (by omega) (by omega) (fun q hq he => by have e := adx_inj hy hq (by decide) (Option.some.inj (he.symm.trans hOR11994)); subst e; exact WB_V VI11988 (by omega) (by omega)) (Or.inl (by omega)) (by omega))
                  · refine WQ_iconst (0) (0) dX2_search_156 rfl rfl (fun v11996 hv11996 => ?_)
                    refine WP_goto 178 dX2_search_157 rfl ?_
                    refine WP_iload_n dX2_search_178 rfl ?_
                    refine WP_iload dX2_search_179 rfl ?_
                    refine WP_iload dX2_search_181 rfl ?_
                    refine WP_callV4 (k := 2) dX2_search_183 ⟨⟨⟨by decide, by decide⟩, zX2_weighDay⟩, lX2_71, by decide, rfl, vX2_weighDay.1, vX2_weighDay.2⟩ (lyx_is hy 43 2 rfl) (sx_weighDayx_48_6 hy hrI11959 hTI11959 hI11971 v11996 so v11970 i11958 (by omega) (by omega) (by omega) (by omega) (by omega) (by omega) (by omega) (by omega) (K := 594 * ((nn.toInt - 1) - i11958.toInt)) (by omega) hl121 hn121 (by rw [fz_at fiI11971 43 (by decide) (by decide), ew11962]; omega) (by rw [fz_at fr11973 24 (by decide) (by decide), fz_at fr11973 25 (by decide) (by decide), fz_at fr11973 26 (by decide) (by decide)]; exact WD_of WI11971 FN11945 ldI11971 (by unfold EA; rw [if_pos (by omega)]; omega) (by omega) (by omega) (by omega) (ldx_p hI (by decide) _ _ _ (by omega) (by omega) ldI11971 (by omega) (by omega)) (sbx_b hI) (cbx_b hI (by omega) (by omega)))) (Nat.le_of_ble_eq_true rfl) ?_
                    intro r I11997 J11998 Ra hq
                    obtain ⟨⟨hI11997, ec, fiI11997, ejI11997, pI11997⟩, v11999, rfl, av11999, bv11999, cv11999⟩ := hq
                    show WP _ _ _ _ (.int _ :: _) _ _ _ _
                    rw [ec]
                    clear ec Ra
                    have fr12000 : fz 74 g [43, 44, 47, 48] I I11997 := fz_tr fr11973 (fz_mono fiI11997 (by decide))
                    rw [ejI11997]
                    clear ejI11997 J11998
                    have e12001 : I11997 (ad g 1) 1 = L := hI11997.2
                    have b12002 := BT_get hI11997.1 1 1 2 (0) (0) (900) (by decide) 1 (by decide) (by decide)
                    rw [e12001] at b12002
                    obtain ⟨w12003, ew12003⟩ : ∃ w : Int32, I11997 (ad g 43) 1 = w := ⟨_, rfl⟩
                    have bw12003 := BT_get hI11997.1 43 1 2 (0) (0) (47) (by decide) 1 (by decide) (by decide)
                    rw [ew12003] at bw12003
                    have vsI11997 := pI11997.1
                    have fuI11997 := pI11997.2
                    rw [ew12003] at fuI11997
                    refine WQ_puti dX2_search_186 fX2_67 rfl rfl (lyx_is hy 43 2 rfl) (fun I12004 eI12004 => ?_)
                    have hI12004 : XI g n L I12004 := by rw [eI12004]; exact (xi_f0 hy hI11997 (c := 43) (by decide) (Or.inl (by decide)) (by decide))
                    have e12005 : I12004 (ad g 1) 1 = L := by rw [eI12004, pp_ne _ _ (Or.inl (lyx_ne hy (by decide) (by decide) (by decide)))]; exact e12001
                    have e12006 : I12004 (ad g 43) 1 = w12003 := by rw [eI12004, pp_ne _ _ (Or.inr (by decide))]; exact ew12003
                    have e12007 : I12004 (ad g 43) 8 = v11999 := by rw [eI12004, pp_self]
                    have fr12008 : fz 74 g [43, 44, 47, 48] I I12004 := by rw [eI12004]; exact fzx_pp hy fr12000 (by decide) (by decide)
                    have VI12004 := vsI11997
                    rw [show I11997 (ad g 47) = I12004 (ad g 47) by rw [eI12004, pp_off _ _ (lyx_ne hy (by decide) (by decide) (by decide))]] at VI12004
                    clear eI12004
                    refine WP_aload_n dX2_search_189 rfl ?_
                    refine WP_getr dX2_search_190 fX2_29 rfl (lyx_is hy 43 2 rfl) hl121 ?_
                    refine WP_astore (ls' := [(0, _), (1, _), (2, _), (3, _), (4, _), (5, _), (6, _), (7, _), (8, _)]) dX2_search_193 (by decide) rfl ?_
                    refine WP_aload_n dX2_search_195 rfl ?_
                    refine WP_aload_n dX2_search_196 rfl ?_
                    refine WP_getr dX2_search_197 fX2_25 rfl (lyx_is hy 43 2 rfl) hn121 ?_
                    refine WP_putr dX2_search_200 fX2_29 rfl rfl rfl rfl (lyx_is hy 43 2 rfl) ?_
                    obtain ⟨R12009, eR12009⟩ : ∃ R9 : pR, R9 = pp RI11959 (ad g 43) 7 (some (ad g 47)) := ⟨_, rfl⟩
                    rw [← eR12009]
                    have hrR12009 : RfX g R12009 := by rw [eR12009]; exact rfx_pp hy hrI11959 (by decide)
                    have hTR12009 : R12009 (ad g 5) 0 = some (ad g 6) := by rw [eR12009, pp_ne _ _ (Or.inl (lyx_ne hy (by decide) (by decide) (by decide)))]; exact hTI11959
                    have hOR12009 : R12009 (ad g 43) 6 = some (ad g 47) := by rw [eR12009, pp_ne _ _ (Or.inr (by decide))]; exact hn121
                    have hQR12009 : R12009 (ad g 43) 7 = some (ad g 47) := by rw [eR12009, pp_self]
                    clear eR12009
                    refine WP_aload_n dX2_search_203 rfl ?_
                    refine WP_aload dX2_search_204 rfl ?_
                    refine WP_putr dX2_search_206 fX2_25 rfl rfl rfl rfl (lyx_is hy 43 2 rfl) ?_
                    obtain ⟨R12010, eR12010⟩ : ∃ R9 : pR, R9 = pp R12009 (ad g 43) 6 (some (ad g 48)) := ⟨_, rfl⟩
                    rw [← eR12010]
                    have hrR12010 : RfX g R12010 := by rw [eR12010]; exact rfx_pp hy hrR12009 (by decide)
                    have hTR12010 : R12010 (ad g 5) 0 = some (ad g 6) := by rw [eR12010, pp_ne _ _ (Or.inl (lyx_ne hy (by decide) (by decide) (by decide)))]; exact hTR12009
                    have hOR12010 : R12010 (ad g 43) 7 = some (ad g 47) := by rw [eR12010, pp_ne _ _ (Or.inr (by decide))]; exact hQR12009
                    have hQR12010 : R12010 (ad g 43) 6 = some (ad g 48) := by rw [eR12010, pp_self]
                    clear eR12010
                    refine WP_iinc (ls' := [(0, _), (1, _), (2, _), (3, _), (4, _), (5, _), (6, _), (7, _), (8, _)]) dX2_search_209 rfl (by decide) rfl ?_
                    have hv12011 : (i11958 + Int32.ofInt (-1)).toInt = i11958.toInt + (-1) := ia_n rfl (by omega) (by omega)
                    generalize i11958 + Int32.ofInt (-1) = v12011 at hv12011 ⊢
                    refine WP_goto 121 dX2_search_212 rfl ?_
                    exact WP_sub (fc rfl (fc rfl (fc rfl (fc rfl (fc rfl (fc rfl (fc rfl fn))))))) (ihlp121_11962 v12011 I12004 R12010 hrR12010 hTR12010 (Or.inr ⟨hQR12010, hOR12010⟩) hI12004 fr12008 w12003 e12006 v11999 e12007 (by omega) (by omega) (by omega) (by omega) (by omega) (fun q hq he => by have e := adx_inj hy hq (by decide) (Option.some.inj (he.symm.trans hOR12010)); subst e; exact WB_V VI12004 (by omega) (by omega)) (Or.inr ⟨_, by rw [show da.toInt = v11970.toInt by omega]; exact ldI11971, FU_end (by have z := fuI11997; rw [show i11958.toInt = (0 : Int) by omega] at z; exact z) PZ_I11824_11825 (by omega) (by omega) (by omega)⟩) (by omega))
              · have W12011 := PW_I11959_11959 47 (by decide) hl121
                refine WP_iload dX2_search_121 rfl ?_
                refine WQ_if_lt 215 dX2_search_123 rfl (fun c12012 => ?_) (fun c12012 => ?_)
                · refine WP_aload_n dX2_search_215 rfl ?_
                  refine WQ_getim dX2_search_216 fX2_75 rfl (lyx_is hy 43 2 rfl) ew11961 ?_
                  exact WP_iret dX2_search_219 rfl ⟨⟨hI11959, ⟨hrI11959, hTI11959.trans hT.symm, (Or.inr ⟨hn121, hl121⟩)⟩, fiI11959, fjJ11825⟩, _, rfl, by omega, by omega, (PQ_I11959_11959.resolve_left (by omega))⟩
                · refine WP_iload_n dX2_search_126 rfl ?_
                  refine WP_iload dX2_search_127 rfl ?_
                  refine WQ_iadd dX2_search_129 (by omega) (by omega) (fun v12014 hv12014 => ?_)
                  refine WQ_bipush (7) (7) dX2_search_130 rfl rfl (fun v12015 hv12015 => ?_)
                  refine WQ_iremk (7) dX2_search_132 hv12015 (by decide) (by omega) (fun v12016 hv12016 => ?_)
                  refine WP_istore (ls' := [(0, _), (1, _), (2, _), (3, _), (4, _), (5, _), (6, _), (7, _)]) dX2_search_133 (by decide) rfl ?_
                  refine WP_aload_n dX2_search_135 rfl ?_
                  refine WP_getr dX2_search_136 fX2_12 rfl (lyx_is hy 43 2 rfl) (rfx hrI11959 43 3 44 (by decide)) ?_
                  refine WP_aload_n dX2_search_139 rfl ?_
                  refine WP_getr dX2_search_140 fX2_32 rfl (lyx_is hy 43 2 rfl) (rfx hrI11959 43 2 5 (by decide)) ?_
                  refine WP_iload_n dX2_search_143 rfl ?_
                  refine WP_iload dX2_search_144 rfl ?_
                  refine WP_callV3 (k := 6) dX2_search_146 ⟨⟨⟨by decide, by decide⟩, zX6_load⟩, lX2_42, by decide, rfl, vX6_load.1, vX6_load.2⟩ (lyx_is hy 44 6 rfl) (sx_loadx_44_6 hy hrI11959 hTI11959 hI11959 so v12016 (by omega) (by omega) (by omega) (by omega)) (Nat.le_of_ble_eq_true rfl) ?_
                  intro r I12017 J12018 Ra hq
                  obtain ⟨⟨hI12017, ec, fiI12017, ejI12017, pI12017⟩, rfl⟩ := hq
                  rw [ec]
                  clear ec Ra
                  have fr12019 : fz 74 g [43, 44, 47, 48] I I12017 := fz_tr fiI11959 (fz_mono fiI12017 (by decide))
                  rw [ejI12017]
                  clear ejI12017 J12018
                  have ldI12017 := LD_fr pI12017 (fz_at fiI11959 6 (by decide) (by decide)) (fz_at fiI11959 11 (by decide) (by decide)) (fz_at fiI11959 13 (by decide) (by decide)) (fz_at fiI11959 14 (by decide) (by decide)) (fz_at fiI11959 15 (by decide) (by decide)) (fz_at fiI11959 22 (by decide) (by decide))
                  have WI12017 := W12011
                  rw [← fz_at fiI12017 47 (by decide) (by decide)] at WI12017
                  have e12020 : I12017 (ad g 1) 1 = L := hI12017.2
                  have b12021 := BT_get hI12017.1 1 1 2 (0) (0) (900) (by decide) 1 (by decide) (by decide)
                  rw [e12020] at b12021
                  refine WP_aload_n dX2_search_149 rfl ?_
                  refine WP_aload_n dX2_search_150 rfl ?_
                  refine WP_iload dX2_search_151 rfl ?_
                  refine WQ_if_ne 160 dX2_search_153 rfl (fun c12021 => ?_) (fun c12021 => ?_)
                  · refine WP_aload_n dX2_search_160 rfl ?_
                    refine WP_getr dX2_search_161 fX2_32 rfl (lyx_is hy 43 2 rfl) (rfx hrI11959 43 2 5 (by decide)) ?_
                    refine WP_getr dX2_search_164 fX2_46 rfl (lyx_is hy 5 0 rfl) hTI11959 ?_
                    refine WP_getr dX2_search_167 fX2_52 rfl (lyx_is hy 6 7 rfl) (rfx hrI11959 6 10 12 (by decide)) ?_
                    refine WP_iload_n dX2_search_170 rfl ?_
                    refine WQ_bipush (7) (7) dX2_search_171 rfl rfl (fun v12023 hv12023 => ?_)
                    refine WQ_imulk (7) dX2_search_173 hv12023 (by omega) (by omega) (fun v12024 hv12024 => ?_)
                    refine WP_iload dX2_search_174 rfl ?_
                    refine WQ_iadd dX2_search_176 (by omega) (by omega) (fun v12025 hv12025 => ?_)
                    refine WQ_iald dX2_search_177 (lyx_is hy 12 13 rfl) (lyx_n hy 12 28 rfl) (by omega) (by omega) (fun q hq => BT_get hI12017.1 12 0 28 (0) (0) (20) (by decide) q (Nat.zero_le _) hq) (fun v12026 av12026 bv12026 ev12026 => ?_)
                    refine WP_iload_n dX2_search_178 rfl ?_
                    refine WP_iload dX2_search_179 rfl ?_
                    refine WP_iload dX2_search_181 rfl ?_
                    refine WP_callV4 (k := 2) dX2_search_183 ⟨⟨⟨by decide, by decide⟩, zX2_weighDay⟩, lX2_71, by decide, rfl, vX2_weighDay.1, vX2_weighDay.2⟩ (lyx_is hy 43 2 rfl) (sx_weighDayx_47_6 hy hrI11959 hTI11959 hI12017 v12026 so v12016 i11958 (by omega) (by omega) (by omega) (by omega) (by omega) (by omega) (by omega) (by omega) (K := 594 * ((nn.toInt - 1) - i11958.toInt)) (by omega) hl121 hn121 (by rw [fz_at fiI12017 43 (by decide) (by decide), ew11962]; omega) (by rw [fz_at fr12019 24 (by decide) (by decide), fz_at fr12019 25 (by decide) (by decide), fz_at fr12019 26 (by decide) (by decide)]; exact WD_of WI12017 FN11945 ldI12017 (by unfold EA; rw [if_neg (by omega), show I (ad g (6 + 6)) = I12017 (ad g 12) from (fz_at fr12019 12 (by decide) (by decide)).symm, ← cl (x := v12025) (n := (7 * so.toInt + v12016.toInt).toNat) (by omega), ev12026]) (by omega) (by omega) (by omega) (ldx_p hI (by decide) _ _ _ (by omega) (by omega) ldI12017 (by omega) (by omega)) (sbx_b hI) (cbx_b hI (by omega) (by omega)))) (Nat.le_of_ble_eq_true rfl) ?_
                    intro r I12027 J12028 Ra hq
                    obtain ⟨⟨hI12027, ec, fiI12027, ejI12027, pI12027⟩, v12029, rfl, av12029, bv12029, cv12029⟩ := hq
                    show WP _ _ _ _ (.int _ :: _) _ _ _ _
                    rw [ec]
                    clear ec Ra
                    have fr12030 : fz 74 g [43, 44, 47, 48] I I12027 := fz_tr fr12019 (fz_mono fiI12027 (by decide))
                    rw [ejI12027]
                    clear ejI12027 J12028
                    have e12031 : I12027 (ad g 1) 1 = L := hI12027.2
                    have b12032 := BT_get hI12027.1 1 1 2 (0) (0) (900) (by decide) 1 (by decide) (by decide)
                    rw [e12031] at b12032
                    obtain ⟨w12033, ew12033⟩ : ∃ w : Int32, I12027 (ad g 43) 1 = w := ⟨_, rfl⟩
                    have bw12033 := BT_get hI12027.1 43 1 2 (0) (0) (47) (by decide) 1 (by decide) (by decide)
                    rw [ew12033] at bw12033
                    have vsI12027 := pI12027.1
                    have fuI12027 := pI12027.2
                    rw [ew12033] at fuI12027
                    refine WQ_puti dX2_search_186 fX2_67 rfl rfl (lyx_is hy 43 2 rfl) (fun I12034 eI12034 => ?_)
                    have hI12034 : XI g n L I12034 := by rw [eI12034]; exact (xi_f0 hy hI12027 (c := 43) (by decide) (Or.inl (by decide)) (by decide))
                    have e12035 : I12034 (ad g 1) 1 = L := by rw [eI12034, pp_ne _ _ (Or.inl (lyx_ne hy (by decide) (by decide) (by decide)))]; exact e12031
                    have e12036 : I12034 (ad g 43) 1 = w12033 := by rw [eI12034, pp_ne _ _ (Or.inr (by decide))]; exact ew12033
                    have e12037 : I12034 (ad g 43) 8 = v12029 := by rw [eI12034, pp_self]
                    have fr12038 : fz 74 g [43, 44, 47, 48] I I12034 := by rw [eI12034]; exact fzx_pp hy fr12030 (by decide) (by decide)
                    have VI12034 := vsI12027
                    rw [show I12027 (ad g 48) = I12034 (ad g 48) by rw [eI12034, pp_off _ _ (lyx_ne hy (by decide) (by decide) (by decide))]] at VI12034
                    clear eI12034
                    refine WP_aload_n dX2_search_189 rfl ?_
                    refine WP_getr dX2_search_190 fX2_29 rfl (lyx_is hy 43 2 rfl) hl121 ?_
                    refine WP_astore (ls' := [(0, _), (1, _), (2, _), (3, _), (4, _), (5, _), (6, _), (7, _), (8, _)]) dX2_search_193 (by decide) rfl ?_
                    refine WP_aload_n dX2_search_195 rfl ?_
                    refine WP_aload_n dX2_search_196 rfl ?_
                    refine WP_getr dX2_search_197 fX2_25 rfl (lyx_is hy 43 2 rfl) hn121 ?_
                    refine WP_putr dX2_search_200 fX2_29 rfl rfl rfl rfl (lyx_is hy 43 2 rfl) ?_
                    obtain ⟨R12039, eR12039⟩ : ∃ R9 : pR, R9 = pp RI11959 (ad g 43) 7 (some (ad g 48)) := ⟨_, rfl⟩
                    rw [← eR12039]
                    have hrR12039 : RfX g R12039 := by rw [eR12039]; exact rfx_pp hy hrI11959 (by decide)
                    have hTR12039 : R12039 (ad g 5) 0 = some (ad g 6) := by rw [eR12039, pp_ne _ _ (Or.inl (lyx_ne hy (by decide) (by decide) (by decide)))]; exact hTI11959
                    have hOR12039 : R12039 (ad g 43) 6 = some (ad g 48) := by rw [eR12039, pp_ne _ _ (Or.inr (by decide))]; exact hn121
                    have hQR12039 : R12039 (ad g 43) 7 = some (ad g 48) := by rw [eR12039, pp_self]
                    clear eR12039
                    refine WP_aload_n dX2_search_203 rfl ?_
                    refine WP_aload dX2_search_204 rfl ?_
                    refine WP_putr dX2_search_206 fX2_25 rfl rfl rfl rfl (lyx_is hy 43 2 rfl) ?_
                    obtain ⟨R12040, eR12040⟩ : ∃ R9 : pR, R9 = pp R12039 (ad g 43) 6 (some (ad g 47)) := ⟨_, rfl⟩
                    rw [← eR12040]
                    have hrR12040 : RfX g R12040 := by rw [eR12040]; exact rfx_pp hy hrR12039 (by decide)
                    have hTR12040 : R12040 (ad g 5) 0 = some (ad g 6) := by rw [eR12040, pp_ne _ _ (Or.inl (lyx_ne hy (by decide) (by decide) (by decide)))]; exact hTR12039
                    have hOR12040 : R12040 (ad g 43) 7 = some (ad g 48) := by rw [eR12040, pp_ne _ _ (Or.inr (by decide))]; exact hQR12039
                    have hQR12040 : R12040 (ad g 43) 6 = some (ad g 47) := by rw [eR12040, pp_self]
                    clear eR12040
                    refine WP_iinc (ls' := [(0, _), (1, _), (2, _), (3, _), (4, _), (5, _), (6, _), (7, _), (8, _)]) dX2_search_209 rfl (by decide) rfl ?_
                    have hv12041 : (i11958 + Int32.ofInt (-1)).toInt = i11958.toInt + (-1) := ia_n rfl (by omega) (by omega)
                    generalize i11958 + Int32.ofInt (-1) = v12041 at hv12041 ⊢
                    refine WP_goto 121 dX2_search_212 rfl ?_
                    exact WP_sub (fc rfl (fc rfl (fc rfl (fc rfl (fc rfl (fc rfl (fc rfl fn))))))) (ihlp121_11962 v12041 I12034 R12040 hrR12040 hTR12040 (Or.inl ⟨hQR12040, hOR12040⟩) hI12034 fr12038 w12033 e12036 v12029 e12037 (by omega) (by omega) (by omega) (by omega) (by omega) (fun q hq he => by have e := adx_inj hy hq (by decide) (Option.some.inj (he.symm.trans hOR12040)); subst e; exact WB_V VI12034 (by omega) (by omega)) (Or.inl (by omega)) (by omega))
                  · refine WQ_iconst (0) (0) dX2_search_156 rfl rfl (fun v12042 hv12042 => ?_)
                    refine WP_goto 178 dX2_search_157 rfl ?_
                    refine WP_iload_n dX2_search_178 rfl ?_
                    refine WP_iload dX2_search_179 rfl ?_
                    refine WP_iload dX2_search_181 rfl ?_
                    refine WP_callV4 (k := 2) dX2_search_183 ⟨⟨⟨by decide, by decide⟩, zX2_weighDay⟩, lX2_71, by decide, rfl, vX2_weighDay.1, vX2_weighDay.2⟩ (lyx_is hy 43 2 rfl) (sx_weighDayx_47_6 hy hrI11959 hTI11959 hI12017 v12042 so v12016 i11958 (by omega) (by omega) (by omega) (by omega) (by omega) (by omega) (by omega) (by omega) (K := 594 * ((nn.toInt - 1) - i11958.toInt)) (by omega) hl121 hn121 (by rw [fz_at fiI12017 43 (by decide) (by decide), ew11962]; omega) (by rw [fz_at fr12019 24 (by decide) (by decide), fz_at fr12019 25 (by decide) (by decide), fz_at fr12019 26 (by decide) (by decide)]; exact WD_of WI12017 FN11945 ldI12017 (by unfold EA; rw [if_pos (by omega)]; omega) (by omega) (by omega) (by omega) (ldx_p hI (by decide) _ _ _ (by omega) (by omega) ldI12017 (by omega) (by omega)) (sbx_b hI) (cbx_b hI (by omega) (by omega)))) (Nat.le_of_ble_eq_true rfl) ?_
                    intro r I12043 J12044 Ra hq
                    obtain ⟨⟨hI12043, ec, fiI12043, ejI12043, pI12043⟩, v12045, rfl, av12045, bv12045, cv12045⟩ := hq
                    show WP _ _ _ _ (.int _ :: _) _ _ _ _
                    rw [ec]
                    clear ec Ra
                    have fr12046 : fz 74 g [43, 44, 47, 48] I I12043 := fz_tr fr12019 (fz_mono fiI12043 (by decide))
                    rw [ejI12043]
                    clear ejI12043 J12044
                    have e12047 : I12043 (ad g 1) 1 = L := hI12043.2
                    have b12048 := BT_get hI12043.1 1 1 2 (0) (0) (900) (by decide) 1 (by decide) (by decide)
                    rw [e12047] at b12048
                    obtain ⟨w12049, ew12049⟩ : ∃ w : Int32, I12043 (ad g 43) 1 = w := ⟨_, rfl⟩
                    have bw12049 := BT_get hI12043.1 43 1 2 (0) (0) (47) (by decide) 1 (by decide) (by decide)
                    rw [ew12049] at bw12049
                    have vsI12043 := pI12043.1
                    have fuI12043 := pI12043.2
                    rw [ew12049] at fuI12043
                    refine WQ_puti dX2_search_186 fX2_67 rfl rfl (lyx_is hy 43 2 rfl) (fun I12050 eI12050 => ?_)
                    have hI12050 : XI g n L I12050 := by rw [eI12050]; exact (xi_f0 hy hI12043 (c := 43) (by decide) (Or.inl (by decide)) (by decide))
                    have e12051 : I12050 (ad g 1) 1 = L := by rw [eI12050, pp_ne _ _ (Or.inl (lyx_ne hy (by decide) (by decide) (by decide)))]; exact e12047
                    have e12052 : I12050 (ad g 43) 1 = w12049 := by rw [eI12050, pp_ne _ _ (Or.inr (by decide))]; exact ew12049
                    have e12053 : I12050 (ad g 43) 8 = v12045 := by rw [eI12050, pp_self]
                    have fr12054 : fz 74 g [43, 44, 47, 48] I I12050 := by rw [eI12050]; exact fzx_pp hy fr12046 (by decide) (by decide)
                    have VI12050 := vsI12043
                    rw [show I12043 (ad g 48) = I12050 (ad g 48) by rw [eI12050, pp_off _ _ (lyx_ne hy (by decide) (by decide) (by decide))]] at VI12050
                    clear eI12050
                    refine WP_aload_n dX2_search_189 rfl ?_
                    refine WP_getr dX2_search_190 fX2_29 rfl (lyx_is hy 43 2 rfl) hl121 ?_
                    refine WP_astore (ls' := [(0, _), (1, _), (2, _), (3, _), (4, _), (5, _), (6, _), (7, _), (8, _)]) dX2_search_193 (by decide) rfl ?_
                    refine WP_aload_n dX2_search_195 rfl ?_
                    refine WP_aload_n dX2_search_196 rfl ?_
                    refine WP_getr dX2_search_197 fX2_25 rfl (lyx_is hy 43 2 rfl) hn121 ?_
                    refine WP_putr dX2_search_200 fX2_29 rfl rfl rfl rfl (lyx_is hy 43 2 rfl) ?_
                    obtain ⟨R12055, eR12055⟩ : ∃ R9 : pR, R9 = pp RI11959 (ad g 43) 7 (some (ad g 48)) := ⟨_, rfl⟩
                    rw [← eR12055]
                    have hrR12055 : RfX g R12055 := by rw [eR12055]; exact rfx_pp hy hrI11959 (by decide)
                    have hTR12055 : R12055 (ad g 5) 0 = some (ad g 6) := by rw [eR12055, pp_ne _ _ (Or.inl (lyx_ne hy (by decide) (by decide) (by decide)))]; exact hTI11959
                    have hOR12055 : R12055 (ad g 43) 6 = some (ad g 48) := by rw [eR12055, pp_ne _ _ (Or.inr (by decide))]; exact hn121
                    have hQR12055 : R12055 (ad g 43) 7 = some (ad g 48) := by rw [eR12055, pp_self]
                    clear eR12055
                    refine WP_aload_n dX2_search_203 rfl ?_
                    refine WP_aload dX2_search_204 rfl ?_
                    refine WP_putr dX2_search_206 fX2_25 rfl rfl rfl rfl (lyx_is hy 43 2 rfl) ?_
                    obtain ⟨R12056, eR12056⟩ : ∃ R9 : pR, R9 = pp R12055 (ad g 43) 6 (some (ad g 47)) := ⟨_, rfl⟩
                    rw [← eR12056]
                    have hrR12056 : RfX g R12056 := by rw [eR12056]; exact rfx_pp hy hrR12055 (by decide)
                    have hTR12056 : R12056 (ad g 5) 0 = some (ad g 6) := by rw [eR12056, pp_ne _ _ (Or.inl (lyx_ne hy (by decide) (by decide) (by decide)))]; exact hTR12055
                    have hOR12056 : R12056 (ad g 43) 7 = some (ad g 48) := by rw [eR12056, pp_ne _ _ (Or.inr (by decide))]; exact hQR12055
                    have hQR12056 : R12056 (ad g 43) 6 = some (ad g 47) := by rw [eR12056, pp_self]
                    clear eR12056
                    refine WP_iinc (ls' := [(0, _), (1, _), (2, _), (3, _), (4, _), (5, _), (6, _), (7, _), (8, _)]) dX2_search_209 rfl (by decide) rfl ?_
                    have hv12057 : (i11958 + Int32.ofInt (-1)).toInt = i11958.toInt + (-1) := ia_n rfl (by omega) (by omega)
                    generalize i11958 + Int32.ofInt (-1) = v12057 at hv12057 ⊢
                    refine WP_goto 121 dX2_search_212 rfl ?_
                    exact WP_sub (fc rfl (fc rfl (fc rfl (fc rfl (fc rfl (fc rfl (fc rfl fn))))))) (ihlp121_11962 v12057 I12050 R12056 hrR12056 hTR12056 (Or.inl ⟨hQR12056, hOR12056⟩) hI12050 fr12054 w12049 e12052 v12045 e12053 (by omega) (by omega) (by omega) (by omega) (by omega) (fun q hq he => by have e := adx_inj hy hq (by decide) (Option.some.inj (he.symm.trans hOR12056)); subst e; exact WB_V VI12050 (by omega) (by omega)) (Or.inr ⟨_, by rw [show da.toInt = v12016.toInt by omega]; exact ldI12017, FU_end (by have z := fuI12043; rw [show i11958.toInt = (0 : Int) by omega] at z; exact z) PZ_I11824_11825 (by omega) (by omega) (by omega)⟩) (by omega))
          obtain ⟨w12058, ew12058⟩ : ∃ w : Int32, I11952 (ad g 43) 1 = w := ⟨_, rfl⟩
          have bw12058 := BT_get hI11952.1 43 1 2 (0) (0) (47) (by decide) 1 (by decide) (by decide)
          rw [ew12058] at bw12058
          exact WP_sub (fc rfl (fc rfl (fc rfl (fc rfl (fc rfl (fc rfl (fc rfl fn))))))) (lp121_11962 _ v11957 I11952 RI11824 hrI11824 hTI11824 (Or.inr ⟨hn102, hl102⟩) hI11952 fr11955 w12058 ew12058 v11951 e11954 (by omega) (by omega) (by omega) (by omega) (by omega) (fun q hq he => by have e := adx_inj hy hq (by decide) (Option.some.inj (he.symm.trans hl102)); subst e; exact (by rw [show v11957.toInt = (nn.toInt - 1) by omega]; exact WI11952)) (Or.inl (by omega)) (Nat.lt_succ_self _))
      · refine WP_iload_n dX2_search_30 rfl ?_
        refine WP_iload dX2_search_31 rfl ?_
        refine WQ_iadd dX2_search_33 (by omega) (by omega) (fun v12059 hv12059 => ?_)
        refine WQ_bipush (7) (7) dX2_search_34 rfl rfl (fun v12060 hv12060 => ?_)
        refine WQ_iremk (7) dX2_search_36 hv12060 (by decide) (by omega) (fun v12061 hv12061 => ?_)
        refine WP_istore (ls' := [(0, _), (1, _), (2, _), (3, _), (4, _), (5, _), (6, _), (7, _)]) dX2_search_37 (by decide) rfl ?_
        refine WP_aload_n dX2_search_39 rfl ?_
        refine WP_getr dX2_search_40 fX2_12 rfl (lyx_is hy 43 2 rfl) (rfx hrI11824 43 3 44 (by decide)) ?_
        refine WP_aload_n dX2_search_43 rfl ?_
        refine WP_getr dX2_search_44 fX2_32 rfl (lyx_is hy 43 2 rfl) (rfx hrI11824 43 2 5 (by decide)) ?_
        refine WP_iload_n dX2_search_47 rfl ?_
        refine WP_iload dX2_search_48 rfl ?_
        refine WP_callV3 (k := 6) dX2_search_50 ⟨⟨⟨by decide, by decide⟩, zX6_load⟩, lX2_42, by decide, rfl, vX6_load.1, vX6_load.2⟩ (lyx_is hy 44 6 rfl) (sx_loadx_44_6 hy hrI11824 hTI11824 hI11824 so v12061 (by omega) (by omega) (by omega) (by omega)) (Nat.le_of_ble_eq_true rfl) ?_
        intro r I12062 J12063 Ra hq
        obtain ⟨⟨hI12062, ec, fiI12062, ejI12062, pI12062⟩, rfl⟩ := hq
        rw [ec]
        clear ec Ra
        have fr12064 : fz 74 g [43, 44, 47, 48] I I12062 := fz_tr fiI11824 (fz_mono fiI12062 (by decide))
        rw [ejI12062]
        clear ejI12062 J12063
        have ldI12062 := LD_fr pI12062 (fz_at fiI11824 6 (by decide) (by decide)) (fz_at fiI11824 11 (by decide) (by decide)) (fz_at fiI11824 13 (by decide) (by decide)) (fz_at fiI11824 14 (by decide) (by decide)) (fz_at fiI11824 15 (by decide) (by decide)) (fz_at fiI11824 22 (by decide) (by decide))
        have e12065 : I12062 (ad g 1) 1 = L := hI12062.2
        have b12066 := BT_get hI12062.1 1 1 2 (0) (0) (900) (by decide) 1 (by decide) (by decide)
        rw [e12065] at b12066
        refine WP_aload_n dX2_search_53 rfl ?_
        refine WP_iload dX2_search_54 rfl ?_
        refine WQ_if_ne 63 dX2_search_56 rfl (fun c12066 => ?_) (fun c12066 => ?_)
        · refine WP_aload_n dX2_search_63 rfl ?_
          refine WP_getr dX2_search_64 fX2_32 rfl (lyx_is hy 43 2 rfl) (rfx hrI11824 43 2 5 (by decide)) ?_
          refine WP_getr dX2_search_67 fX2_46 rfl (lyx_is hy 5 0 rfl) hTI11824 ?_
          refine WP_getr dX2_search_70 fX2_52 rfl (lyx_is hy 6 7 rfl) (rfx hrI11824 6 10 12 (by decide)) ?_
          refine WP_iload_n dX2_search_73 rfl ?_
          refine WQ_bipush (7) (7) dX2_search_74 rfl rfl (fun v12068 hv12068 => ?_)
          refine WQ_imulk (7) dX2_search_76 hv12068 (by omega) (by omega) (fun v12069 hv12069 => ?_)
          refine WP_iload dX2_search_77 rfl ?_
          refine WQ_iadd dX2_search_79 (by omega) (by omega) (fun v12070 hv12070 => ?_)
          refine WQ_iald dX2_search_80 (lyx_is hy 12 13 rfl) (lyx_n hy 12 28 rfl) (by omega) (by omega) (fun q hq => BT_get hI12062.1 12 0 28 (0) (0) (20) (by decide) q (Nat.zero_le _) hq) (fun v12071 av12071 bv12071 ev12071 => ?_)
          refine WP_iload dX2_search_81 rfl ?_
          refine WP_callV2 (k := 2) dX2_search_83 ⟨⟨⟨by decide, by decide⟩, zX2_spread⟩, lX2_57, by decide, rfl, vX2_spread.1, vX2_spread.2⟩ (lyx_is hy 43 2 rfl) (sx_spreadx hy hrI11824 hI12062 v12071 i11823 (by omega) (by omega) (by omega) (by omega)) (Nat.le_of_ble_eq_true rfl) ?_
          intro r Ia J12072 Ra hq
          obtain ⟨⟨ea, ec, fjJ12072, pJ12072⟩, rfl⟩ := hq
          rw [ea, ec]
          clear ea ec Ia Ra
          have fr12073 : fz 74 g [45, 46] J J12072 := fz_tr fjJ11825 (fz_mono fjJ12072 (by decide))
          have FJ12072 := FWD_P (P2 := J12072 (ad g 45)) PF_I11824_11825 (fz_at fjJ12072 45 (by decide) (by decide))
          have srJ12072 := pJ12072
          rw [← fz_at fjJ12072 45 (by decide) (by decide)] at srJ12072
          have ZJ12072 := ZB_P (P2 := J12072 (ad g 45)) PZ_I11824_11825 (fz_at fjJ12072 45 (by decide) (by decide))
          refine WP_aload_n dX2_search_86 rfl ?_
          refine WP_iload dX2_search_87 rfl ?_
          refine WP_iload dX2_search_89 rfl ?_
          refine WQ_iconst (1) (1) dX2_search_91 rfl rfl (fun v12074 hv12074 => ?_)
          refine WQ_iadd dX2_search_92 (by omega) (by omega) (fun v12075 hv12075 => ?_)
          refine WP_callV2 (k := 2) dX2_search_93 ⟨⟨⟨by decide, by decide⟩, zX2_sleep⟩, lX2_61, by decide, rfl, vX2_sleep.1, vX2_sleep.2⟩ (lyx_is hy 43 2 rfl) (sx_psleepx hy hrI11824 hI12062 v12061 v12075 (by omega) (by omega) (by omega) (by omega)) (Nat.le_of_ble_eq_true rfl) ?_
          intro r Ia J12076 Ra hq
          obtain ⟨⟨ea, ec, fjJ12076, pJ12076⟩, rfl⟩ := hq
          rw [ea, ec]
          clear ea ec Ia Ra
          have fr12077 : fz 74 g [45, 46] J J12076 := fz_tr fr12073 (fz_mono fjJ12076 (by decide))
          have slJ12076 := pJ12076.1
          rw [fz_at fr12064 24 (by decide) (by decide), fz_at fr12064 25 (by decide) (by decide), fz_at fr12064 26 (by decide) (by decide)] at slJ12076
          have FJ12076 := FWD_step FJ12072 ldI12062 srJ12072 slJ12076 pJ12076.2 (by unfold EA; rw [if_neg (by omega), show I (ad g (6 + 6)) = I12062 (ad g 12) from (fz_at fr12064 12 (by decide) (by decide)).symm, ← cl (x := v12070) (n := (7 * so.toInt + v12061.toInt).toNat) (by omega), ev12071]) (by omega) (by omega) (by omega) (sbx_b hI) (ldx_p hI (by decide) _ _ _ (by omega) (by omega) ldI12062 (by omega) (by omega)) (ldx_p hI (by decide)) (by omega)
          have ZJ12076 := ZB_out ZJ12072 pJ12076.2 (by omega)
          refine WP_iinc (ls' := [(0, _), (1, _), (2, _), (3, _), (4, _), (5, _), (6, _), (7, _)]) dX2_search_96 rfl (by decide) rfl ?_
          have hv12078 : (i11823 + Int32.ofInt (1)).toInt = i11823.toInt + (1) := ia_n rfl (by omega) (by omega)
          generalize i11823 + Int32.ofInt (1) = v12078 at hv12078 ⊢
          refine WP_goto 21 dX2_search_99 rfl ?_
          exact WP_sub (fc rfl (fc rfl (fc rfl (fc rfl (fc rfl (fc rfl (fc rfl fn))))))) (ihlp21_11826 v12078 I12062 J12076 RI11824 hrI11824 hTI11824 hPI11824 hI12062 fr12064 fr12077 (by omega) (by omega) (by omega) (by rw [show v12078.toInt = v12075.toInt by omega]; exact FJ12076) ZJ12076 (by omega))
        · refine WQ_iconst (0) (0) dX2_search_59 rfl rfl (fun v12079 hv12079 => ?_)
          refine WP_goto 81 dX2_search_60 rfl ?_
          refine WP_iload dX2_search_81 rfl ?_
          refine WP_callV2 (k := 2) dX2_search_83 ⟨⟨⟨by decide, by decide⟩, zX2_spread⟩, lX2_57, by decide, rfl, vX2_spread.1, vX2_spread.2⟩ (lyx_is hy 43 2 rfl) (sx_spreadx hy hrI11824 hI12062 v12079 i11823 (by omega) (by omega) (by omega) (by omega)) (Nat.le_of_ble_eq_true rfl) ?_
          intro r Ia J12080 Ra hq
          obtain ⟨⟨ea, ec, fjJ12080, pJ12080⟩, rfl⟩ := hq
          rw [ea, ec]
          clear ea ec Ia Ra
          have fr12081 : fz 74 g [45, 46] J J12080 := fz_tr fjJ11825 (fz_mono fjJ12080 (by decide))
          have FJ12080 := FWD_P (P2 := J12080 (ad g 45)) PF_I11824_11825 (fz_at fjJ12080 45 (by decide) (by decide))
          have srJ12080 := pJ12080
          rw [← fz_at fjJ12080 45 (by decide) (by decide)] at srJ12080
          have ZJ12080 := ZB_P (P2 := J12080 (ad g 45)) PZ_I11824_11825 (fz_at fjJ12080 45 (by decide) (by decide))
          refine WP_aload_n dX2_search_86 rfl ?_
          refine WP_iload dX2_search_87 rfl ?_
          refine WP_iload dX2_search_89 rfl ?_
          refine WQ_iconst (1) (1) dX2_search_91 rfl rfl (fun v12082 hv12082 => ?_)
          refine WQ_iadd dX2_search_92 (by omega) (by omega) (fun v12083 hv12083 => ?_)
          refine WP_callV2 (k := 2) dX2_search_93 ⟨⟨⟨by decide, by decide⟩, zX2_sleep⟩, lX2_61, by decide, rfl, vX2_sleep.1, vX2_sleep.2⟩ (lyx_is hy 43 2 rfl) (sx_psleepx hy hrI11824 hI12062 v12061 v12083 (by omega) (by omega) (by omega) (by omega)) (Nat.le_of_ble_eq_true rfl) ?_
          intro r Ia J12084 Ra hq
          obtain ⟨⟨ea, ec, fjJ12084, pJ12084⟩, rfl⟩ := hq
          rw [ea, ec]
          clear ea ec Ia Ra
          have fr12085 : fz 74 g [45, 46] J J12084 := fz_tr fr12081 (fz_mono fjJ12084 (by decide))
          have slJ12084 := pJ12084.1
          rw [fz_at fr12064 24 (by decide) (by decide), fz_at fr12064 25 (by decide) (by decide), fz_at fr12064 26 (by decide) (by decide)] at slJ12084
          have FJ12084 := FWD_step FJ12080 ldI12062 srJ12080 slJ12084 pJ12084.2 (by unfold EA; rw [if_pos (by omega)]; omega) (by omega) (by omega) (by omega) (sbx_b hI) (ldx_p hI (by decide) _ _ _ (by omega) (by omega) ldI12062 (by omega) (by omega)) (ldx_p hI (by decide)) (by omega)
          have ZJ12084 := ZB_out ZJ12080 pJ12084.2 (by omega)
          refine WP_iinc (ls' := [(0, _), (1, _), (2, _), (3, _), (4, _), (5, _), (6, _), (7, _)]) dX2_search_96 rfl (by decide) rfl ?_
          have hv12086 : (i11823 + Int32.ofInt (1)).toInt = i11823.toInt + (1) := ia_n rfl (by omega) (by omega)
          generalize i11823 + Int32.ofInt (1) = v12086 at hv12086 ⊢
          refine WP_goto 21 dX2_search_99 rfl ?_
          exact WP_sub (fc rfl (fc rfl (fc rfl (fc rfl (fc rfl (fc rfl (fc rfl fn))))))) (ihlp21_11826 v12086 I12062 J12084 RI11824 hrI11824 hTI11824 hPI11824 hI12062 fr12064 fr12085 (by omega) (by omega) (by omega) (by rw [show v12086.toInt = v12083.toInt by omega]; exact FJ12084) ZJ12084 (by omega))
  exact WP_sub (fc rfl (fc rfl (fc rfl (fc rfl (fc rfl (fc rfl (fc rfl fn))))))) (lp21_11826 _ v11822 I J11820 R hr hT hP hI fr0 fr11821 (by omega) (by omega) (by omega) (FWD_0 hv11822) ZJ11820 (Nat.lt_succ_self _))
set_option maxHeartbeats 4000000 in
set_option maxRecDepth 100000 in
theorem sx_searchx_27 {g : GG} {n : Int} {L : Int32} (hy : LyX g)  {I : pI} {J : pJ} {R : pR} (hr : RfX g R) (hP : NL g R) (hT : R (ad g 5) 0 = some (ad g 27)) (hI : XI g n L I) (so : Int32) (da : Int32) (co : Int32) (st : Int32) (nn : Int32) (so_lo : 0 ≤ so.toInt) (so_hi : so.toInt ≤ 3) (da_lo : 0 ≤ da.toInt) (da_hi : da.toInt ≤ 6) (co_lo : 0 ≤ co.toInt) (co_hi : co.toInt ≤ 60) (st_lo : 0 ≤ st.toInt) (st_hi : st.toInt ≤ 5) (nn_lo : 1 ≤ nn.toInt) (nn_hi : nn.toInt ≤ 28) : SP g mX2_search [.ref (ad g 43), .int so, .int da, .int co, .int st, .int nn] I J R (fun r I' J' R' => (XI g n L I' ∧ (RfX g R' ∧ R' (ad g 5) 0 = R (ad g 5) 0 ∧ NL g R') ∧ fz 74 g [43, 44, 47, 48] I I' ∧ fz 74 g [45, 46] J J') ∧ ∃ v : Int32, r = some (.int v) ∧ 0 ≤ v.toInt ∧ v.toInt ≤ 47 ∧ (∃ T : Nat → Int32, LD g 27 I so.toInt da.toInt T ∧ AOKd T co.toInt st.toInt v.toInt)) := by
  refine SP_of ⟨by decide, rfl⟩ (Nat.le_of_ble_eq_true rfl) ?_
  have e12087 : I (ad g 1) 1 = L := hI.2
  have b12088 := BT_get hI.1 1 1 2 (0) (0) (900) (by decide) 1 (by decide) (by decide)
  rw [e12087] at b12088
  have fr0 : fz 74 g [43, 44, 47, 48] I I := fz_rf
  have frj0 : fz 74 g [45, 46] J J := fz_rf
  refine WP_aload_n dX2_search_0 rfl ?_
  refine WP_getr dX2_search_1 fX2_18 rfl (lyx_is hy 43 2 rfl) (rfx hr 43 4 45 (by decide)) ?_
  refine WP_lconst (0) dX2_search_4 rfl ?_
  obtain ⟨l12089, hl12089, el12089⟩ : ∃ v : Int64, v.toInt = 0 ∧ (0 : Int64) = v := ⟨_, rfl, rfl⟩
  rw [el12089]; clear el12089
  refine WP_callS2 dX2_search_5 ⟨⟨⟨by decide, by decide⟩, zJ7_fill_d0a16⟩, lX2_36, tJ7_fill_d0a16⟩ (sx_fillJx_45 hy hr hI l12089 ) (Nat.le_of_ble_eq_true rfl) ?_
  intro r Ia J12090 Ra hq
  obtain ⟨⟨ea, ec, fjJ12090, pJ12090⟩, rfl⟩ := hq
  rw [ea, ec]
  clear ea ec Ia Ra
  have fr12091 : fz 74 g [45, 46] J J12090 := fz_tr frj0 (fz_mono fjJ12090 (by decide))
  refine WP_aload_n dX2_search_8 rfl ?_
  refine WP_getr dX2_search_9 fX2_18 rfl (lyx_is hy 43 2 rfl) (rfx hr 43 4 45 (by decide)) ?_
  refine WP_iload dX2_search_12 rfl ?_
  refine WP_lconst (1) dX2_search_14 rfl ?_
  obtain ⟨l12092, hl12092, el12092⟩ : ∃ v : Int64, v.toInt = 1 ∧ (1 : Int64) = v := ⟨_, rfl, rfl⟩
  rw [el12092]; clear el12092
  refine WP_iload_n dX2_search_15 rfl ?_
  refine WQ_lshl1 dX2_search_16 hl12092 (by omega) (by omega) (fun l12093 ql12093 => ?_)
  refine WQ_last dX2_search_17 (lyx_is hy 45 14 rfl) (lyx_n hy 45 168 rfl) (by omega) (by omega) (fun J12094 eJ12094 => ?_)
  have fr12095 : fz 74 g [45, 46] J J12094 := by rw [eJ12094]; exact fzx_pp hy fr12091 (by decide) (by decide)
  have xJ12094 := eJ12094
  rw [cl (x := st) (n := st.toInt.toNat) (by omega)] at xJ12094
  have ZJ12094 := ZB_0 (co := co) (st := st) pJ12090 hl12089 xJ12094 ql12093 (by omega)
  clear eJ12094
  refine WQ_iconst (0) (0) dX2_search_18 rfl rfl (fun v12096 hv12096 => ?_)
  refine WP_istore (ls' := [(0, _), (1, _), (2, _), (3, _), (4, _), (5, _), (6, _)]) dX2_search_19 (by decide) rfl ?_
  have lp21_12100 : ∀ (mz : Nat) (i12097 : Int32) (I12098 : pI) (J12099 : pJ) (RI12098 : pR), RfX g RI12098 → RI12098 (ad g 5) 0 = some (ad g 27) → NL g RI12098 → XI g n L I12098 → fz 74 g [43, 44, 47, 48] I I12098 → fz 74 g [45, 46] J J12099 → 0 ≤ i12097.toInt → i12097.toInt ≤ 27 → i12097.toInt ≤ nn.toInt - 1 → (FWD g 27 I (J12099 (ad g 45)) so.toInt da.toInt i12097.toInt) → (ZB (J12099 (ad g 45)) co.toInt st.toInt) → (28 - i12097.toInt).toNat < mz → WP g mX2_search 21 [(0, .ref (ad g 43)), (1, .int so), (2, .int da), (3, .int co), (4, .int st), (5, .int nn), (6, .int i12097)] [] I12098 J12099 RI12098 (fun r I' J' R' => (XI g n L I' ∧ (RfX g R' ∧ R' (ad g 5) 0 = R (ad g 5) 0 ∧ NL g R') ∧ fz 74 g [43, 44, 47, 48] I I' ∧ fz 74 g [45, 46] J J') ∧ ∃ v : Int32, r = some (.int v) ∧ 0 ≤ v.toInt ∧ v.toInt ≤ 47 ∧ (∃ T : Nat → Int32, LD g 27 I so.toInt da.toInt T ∧ AOKd T co.toInt st.toInt v.toInt)) := by
    intro mz
    induction mz with
    | zero =>
      intro i12097 I12098 J12099 RI12098 hrI12098 hTI12098 hPI12098 hI12098 fiI12098 fjJ12099 ai12097 bi12097 j0_I12098 PF_I12098_12099 PZ_I12098_12099 hmlp21_12100
      exact absurd hmlp21_12100 (Nat.not_lt_zero _)
    | succ mz ihlp21_12100 =>
      intro i12097 I12098 J12099 RI12098 hrI12098 hTI12098 hPI12098 hI12098 fiI12098 fjJ12099 ai12097 bi12097 j0_I12098 PF_I12098_12099 PZ_I12098_12099 hmlp21_12100
      have e12102 : I12098 (ad g 1) 1 = L := hI12098.2
      have b12103 := BT_get hI12098.1 1 1 2 (0) (0) (900) (by decide) 1 (by decide) (by decide)
      rw [e12102] at b12103
      refine WP_iload dX2_search_21 rfl ?_
      refine WP_iload dX2_search_23 rfl ?_
      refine WQ_iconst (1) (1) dX2_search_25 rfl rfl (fun v12104 hv12104 => ?_)
      refine WQ_isub dX2_search_26 (by omega) (by omega) (fun v12105 hv12105 => ?_)
      refine WQ_icmp_ge 102 dX2_search_27 rfl (fun c12105 => ?_) (fun c12105 => ?_)
      · rcases hPI12098 with ⟨hn102, hl102⟩ | ⟨hn102, hl102⟩
        · have FN12106 : FWD g 27 I (J12099 (ad g 45)) so.toInt da.toInt (nn.toInt - 1) := by rw [show (nn.toInt - 1) = i12097.toInt by omega]; exact PF_I12098_12099
          refine WP_aload_n dX2_search_102 rfl ?_
          refine WP_getr dX2_search_103 fX2_29 rfl (lyx_is hy 43 2 rfl) hl102 ?_
          refine WQ_iconst (0) (0) dX2_search_106 rfl rfl (fun v12108 hv12108 => ?_)
          refine WP_callS2u dX2_search_107 ⟨⟨⟨by decide, by decide⟩, zJ7_fill_53178⟩, lX2_64, tJ7_fill_53178⟩ (s_fill hy hrI12098 48 366 rfl rfl (by decide) v12108) (Nat.le_of_ble_eq_true rfl) ?_
          obtain ⟨I12109, eI12109⟩ : ∃ I9 : pI, I9 = fi I12098 (ad g 48) 366 v12108 := ⟨_, rfl⟩
          rw [← eI12109]
          have hI12109 : XI g n L I12109 := by rw [eI12109]; exact (xi_fill0 hy hI12098 48 366 v12108 (by decide) (by decide))
          have e12110 : I12109 (ad g 1) 1 = L := by rw [eI12109, fi_off (lyx_ne hy (by decide) (by decide) (by decide))]; exact e12102
          have fr12111 : fz 74 g [43, 44, 47, 48] I I12109 := by rw [eI12109]; exact fzx_fi hy fiI12098 (by decide) (by decide)
          have WI12109 : WB (J12099 (ad g 45)) (I12109 (ad g 48)) (nn.toInt - 1) (nn.toInt - 1) := WB_0 eI12109 hv12108
          clear eI12109
          refine WP_aload_n dX2_search_110 rfl ?_
          refine WQ_iconst (0) (0) dX2_search_111 rfl rfl (fun v12112 hv12112 => ?_)
          refine WQ_puti dX2_search_112 fX2_67 rfl rfl (lyx_is hy 43 2 rfl) (fun I12113 eI12113 => ?_)
          have hI12113 : XI g n L I12113 := by rw [eI12113]; exact (xi_f0 hy hI12109 (c := 43) (by decide) (Or.inl (by decide)) (by decide))
          have e12114 : I12113 (ad g 1) 1 = L := by rw [eI12113, pp_ne _ _ (Or.inl (lyx_ne hy (by decide) (by decide) (by decide)))]; exact e12110
          have e12115 : I12113 (ad g 43) 8 = v12112 := by rw [eI12113, pp_self]
          have fr12116 : fz 74 g [43, 44, 47, 48] I I12113 := by rw [eI12113]; exact fzx_pp hy fr12111 (by decide) (by decide)
          have WI12113 : WB (J12099 (ad g 45)) (I12113 (ad g 48)) (nn.toInt - 1) (nn.toInt - 1) := by rw [eI12113, pp_off _ _ (lyx_ne hy (by decide) (by decide) (by decide))]; exact WI12109
          clear eI12113
          refine WP_iload dX2_search_115 rfl ?_
          refine WQ_iconst (1) (1) dX2_search_117 rfl rfl (fun v12117 hv12117 => ?_)
          refine WQ_isub dX2_search_118 (by omega) (by omega) (fun v12118 hv12118 => ?_)
          refine WP_istore (ls' := [(0, _), (1, _), (2, _), (3, _), (4, _), (5, _), (6, _)]) dX2_search_119 (by decide) rfl ?_
          have lp121_12123 : ∀ (mz : Nat) (i12119 : Int32) (I12120 : pI) (RI12120 : pR), RfX g RI12120 → RI12120 (ad g 5) 0 = some (ad g 27) → NL g RI12120 → XI g n L I12120 → fz 74 g [43, 44, 47, 48] I I12120 → ∀ (w12122 : Int32), I12120 (ad g 43) 1 = w12122 → ∀ (w12123 : Int32), I12120 (ad g 43) 8 = w12123 → -1 ≤ i12119.toInt → i12119.toInt ≤ 27 → i12119.toInt ≤ nn.toInt - 1 → 0 ≤ w12123.toInt → w12123.toInt ≤ 594 * (nn.toInt - 1 - i12119.toInt) → (∀ q : Nat, q < 74 → RI12120 (ad g 43) 7 = some (ad g q) → WB (J12099 (ad g 45)) (I12120 (ad g q)) (nn.toInt - 1) i12119.toInt) → (0 ≤ i12119.toInt ∨ ∃ T : Nat → Int32, LD g 27 I so.toInt da.toInt T ∧ AOKd T co.toInt st.toInt w12122.toInt) → (i12119.toInt + 1).toNat < mz → WP g mX2_search 121 [(0, .ref (ad g 43)), (1, .int so), (2, .int da), (3, .int co), (4, .int st), (5, .int nn), (6, .int i12119)] [] I12120 J12099 RI12120 (fun r I' J' R' => (XI g n L I' ∧ (RfX g R' ∧ R' (ad g 5) 0 = R (ad g 5) 0 ∧ NL g R') ∧ fz 74 g [43, 44, 47, 48] I I' ∧ fz 74 g [45, 46] J J') ∧ ∃ v : Int32, r = some (.int v) ∧ 0 ≤ v.toInt ∧ v.toInt ≤ 47 ∧ (∃ T : Nat → Int32, LD g 27 I so.toInt da.toInt T ∧ AOKd T co.toInt st.toInt v.toInt)) := by
            intro mz
            induction mz with
            | zero =>
              intro i12119 I12120 RI12120 hrI12120 hTI12120 hPI12120 hI12120 fiI12120 w12122 ew12122 w12123 ew12123 ai12119 bi12119 j0_I12120_12120 j1_I12120_12120 j2_I12120_12120 PW_I12120_12120 PQ_I12120_12120 hmlp121_12123
              exact absurd hmlp121_12123 (Nat.not_lt_zero _)
            | succ mz ihlp121_12123 =>
              intro i12119 I12120 RI12120 hrI12120 hTI12120 hPI12120 hI12120 fiI12120 w12122 ew12122 w12123 ew12123 ai12119 bi12119 j0_I12120_12120 j1_I12120_12120 j2_I12120_12120 PW_I12120_12120 PQ_I12120_12120 hmlp121_12123
              have bw12122 := BT_get hI12120.1 43 1 2 (0) (0) (47) (by decide) 1 (by decide) (by decide)
              rw [ew12122] at bw12122
              have e12125 : I12120 (ad g 1) 1 = L := hI12120.2
              have b12126 := BT_get hI12120.1 1 1 2 (0) (0) (900) (by decide) 1 (by decide) (by decide)
              rw [e12125] at b12126
              rcases hPI12120 with ⟨hn121, hl121⟩ | ⟨hn121, hl121⟩
              · have W12126 := PW_I12120_12120 48 (by decide) hl121
                refine WP_iload dX2_search_121 rfl ?_
                refine WQ_if_lt 215 dX2_search_123 rfl (fun c12127 => ?_) (fun c12127 => ?_)
                · refine WP_aload_n dX2_search_215 rfl ?_
                  refine WQ_getim dX2_search_216 fX2_75 rfl (lyx_is hy 43 2 rfl) ew12122 ?_
                  exact WP_iret dX2_search_219 rfl ⟨⟨hI12120, ⟨hrI12120, hTI12120.trans hT.symm, (Or.inl ⟨hn121, hl121⟩)⟩, fiI12120, fjJ12099⟩, _, rfl, by omega, by omega, (PQ_I12120_12120.resolve_left (by omega))⟩
                · refine WP_iload_n dX2_search_126 rfl ?_
                  refine WP_iload dX2_search_127 rfl ?_
                  refine WQ_iadd dX2_search_129 (by omega) (by omega) (fun v12129 hv12129 => ?_)
                  refine WQ_bipush (7) (7) dX2_search_130 rfl rfl (fun v12130 hv12130 => ?_)
                  refine WQ_iremk (7) dX2_search_132 hv12130 (by decide) (by omega) (fun v12131 hv12131 => ?_)
                  refine WP_istore (ls' := [(0, _), (1, _), (2, _), (3, _), (4, _), (5, _), (6, _), (7, _)]) dX2_search_133 (by decide) rfl ?_
                  refine WP_aload_n dX2_search_135 rfl ?_
                  refine WP_getr dX2_search_136 fX2_12 rfl (lyx_is hy 43 2 rfl) (rfx hrI12120 43 3 44 (by decide)) ?_
                  refine WP_aload_n dX2_search_139 rfl ?_
                  refine WP_getr dX2_search_140 fX2_32 rfl (lyx_is hy 43 2 rfl) (rfx hrI12120 43 2 5 (by decide)) ?_
                  refine WP_iload_n dX2_search_143 rfl ?_
                  refine WP_iload dX2_search_144 rfl ?_
                  refine WP_callV3 (k := 6) dX2_search_146 ⟨⟨⟨by decide, by decide⟩, zX6_load⟩, lX2_42, by decide, rfl, vX6_load.1, vX6_load.2⟩ (lyx_is hy 44 6 rfl) (sx_loadx_44_27 hy hrI12120 hTI12120 hI12120 so v12131 (by omega) (by omega) (by omega) (by omega)) (Nat.le_of_ble_eq_true rfl) ?_
                  intro r I12132 J12133 Ra hq
                  obtain ⟨⟨hI12132, ec, fiI12132, ejI12132, pI12132⟩, rfl⟩ := hq
                  rw [ec]
                  clear ec Ra
                  have fr12134 : fz 74 g [43, 44, 47, 48] I I12132 := fz_tr fiI12120 (fz_mono fiI12132 (by decide))
                  rw [ejI12132]
                  clear ejI12132 J12133
                  have ldI12132 := LD_fr pI12132 (fz_at fiI12120 27 (by decide) (by decide)) (fz_at fiI12120 32 (by decide) (by decide)) (fz_at fiI12120 34 (by decide) (by decide)) (fz_at fiI12120 35 (by decide) (by decide)) (fz_at fiI12120 36 (by decide) (by decide)) (fz_at fiI12120 22 (by decide) (by decide))
                  have WI12132 := W12126
                  rw [← fz_at fiI12132 48 (by decide) (by decide)] at WI12132
                  have e12135 : I12132 (ad g 1) 1 = L := hI12132.2
                  have b12136 := BT_get hI12132.1 1 1 2 (0) (0) (900) (by decide) 1 (by decide) (by decide)
                  rw [e12135] at b12136
                  refine WP_aload_n dX2_search_149 rfl ?_
                  refine WP_aload_n dX2_search_150 rfl ?_
                  refine WP_iload dX2_search_151 rfl ?_
                  refine WQ_if_ne 160 dX2_search_153 rfl (fun c12136 => ?_) (fun c12136 => ?_)
                  · refine WP_aload_n dX2_search_160 rfl ?_
                    refine WP_getr dX2_search_161 fX2_32 rfl (lyx_is hy 43 2 rfl) (rfx hrI12120 43 2 5 (by decide)) ?_
                    refine WP_getr dX2_search_164 fX2_46 rfl (lyx_is hy 5 0 rfl) hTI12120 ?_
                    refine WP_getr dX2_search_167 fX2_52 rfl (lyx_is hy 27 7 rfl) (rfx hrI12120 27 10 33 (by decide)) ?_
                    refine WP_iload_n dX2_search_170 rfl ?_
                    refine WQ_bipush (7) (7) dX2_search_171 rfl rfl (fun v12138 hv12138 => ?_)
                    refine WQ_imulk (7) dX2_search_173 hv12138 (by omega) (by omega) (fun v12139 hv12139 => ?_)
                    refine WP_iload dX2_search_174 rfl ?_
                    refine WQ_iadd dX2_search_176 (by omega) (by omega) (fun v12140 hv12140 => ?_)
                    refine WQ_iald dX2_search_177 (lyx_is hy 33 13 rfl) (lyx_n hy 33 28 rfl) (by omega) (by omega) (fun q hq => BT_get hI12132.1 33 0 28 (0) (0) (20) (by decide) q (Nat.zero_le _) hq) (fun v12141 av12141 bv12141 ev12141 => ?_)
                    refine WP_iload_n dX2_search_178 rfl ?_
                    refine WP_iload dX2_search_179 rfl ?_
                    refine WP_iload dX2_search_181 rfl ?_
                    refine WP_callV4 (k := 2) dX2_search_183 ⟨⟨⟨by decide, by decide⟩, zX2_weighDay⟩, lX2_71, by decide, rfl, vX2_weighDay.1, vX2_weighDay.2⟩ (lyx_is hy 43 2 rfl) (sx_weighDayx_48_27 hy hrI12120 hTI12120 hI12132 v12141 so v12131 i12119 (by omega) (by omega) (by omega) (by omega) (by omega) (by omega) (by omega) (by omega) (K := 594 * ((nn.toInt - 1) - i12119.toInt)) (by omega) hl121 hn121 (by rw [fz_at fiI12132 43 (by decide) (by decide), ew12123]; omega) (by rw [fz_at fr12134 24 (by decide) (by decide), fz_at fr12134 25 (by decide) (by decide), fz_at fr12134 26 (by decide) (by decide)]; exact WD_of WI12132 FN12106 ldI12132 (by unfold EA; rw [if_neg (by omega), show I (ad g (27 + 6)) = I12132 (ad g 33) from (fz_at fr12134 33 (by decide) (by decide)).symm, ← cl (x := v12140) (n := (7 * so.toInt + v12131.toInt).toNat) (by omega), ev12141]) (by omega) (by omega) (by omega) (ldx_p hI (by decide) _ _ _ (by omega) (by omega) ldI12132 (by omega) (by omega)) (sbx_b hI) (cbx_b hI (by omega) (by omega)))) (Nat.le_of_ble_eq_true rfl) ?_
                    intro r I12142 J12143 Ra hq
                    obtain ⟨⟨hI12142, ec, fiI12142, ejI12142, pI12142⟩, v12144, rfl, av12144, bv12144, cv12144⟩ := hq
                    show WP _ _ _ _ (.int _ :: _) _ _ _ _
                    rw [ec]
                    clear ec Ra
                    have fr12145 : fz 74 g [43, 44, 47, 48] I I12142 := fz_tr fr12134 (fz_mono fiI12142 (by decide))
                    rw [ejI12142]
                    clear ejI12142 J12143
                    have e12146 : I12142 (ad g 1) 1 = L := hI12142.2
                    have b12147 := BT_get hI12142.1 1 1 2 (0) (0) (900) (by decide) 1 (by decide) (by decide)
                    rw [e12146] at b12147
                    obtain ⟨w12148, ew12148⟩ : ∃ w : Int32, I12142 (ad g 43) 1 = w := ⟨_, rfl⟩
                    have bw12148 := BT_get hI12142.1 43 1 2 (0) (0) (47) (by decide) 1 (by decide) (by decide)
                    rw [ew12148] at bw12148
                    have vsI12142 := pI12142.1
                    have fuI12142 := pI12142.2
                    rw [ew12148] at fuI12142
                    refine WQ_puti dX2_search_186 fX2_67 rfl rfl (lyx_is hy 43 2 rfl) (fun I12149 eI12149 => ?_)
                    have hI12149 : XI g n L I12149 := by rw [eI12149]; exact (xi_f0 hy hI12142 (c := 43) (by decide) (Or.inl (by decide)) (by decide))
                    have e12150 : I12149 (ad g 1) 1 = L := by rw [eI12149, pp_ne _ _ (Or.inl (lyx_ne hy (by decide) (by decide) (by decide)))]; exact e12146
                    have e12151 : I12149 (ad g 43) 1 = w12148 := by rw [eI12149, pp_ne _ _ (Or.inr (by decide))]; exact ew12148
                    have e12152 : I12149 (ad g 43) 8 = v12144 := by rw [eI12149, pp_self]
                    have fr12153 : fz 74 g [43, 44, 47, 48] I I12149 := by rw [eI12149]; exact fzx_pp hy fr12145 (by decide) (by decide)
                    have VI12149 := vsI12142
                    rw [show I12142 (ad g 47) = I12149 (ad g 47) by rw [eI12149, pp_off _ _ (lyx_ne hy (by decide) (by decide) (by decide))]] at VI12149
                    clear eI12149
                    refine WP_aload_n dX2_search_189 rfl ?_
                    refine WP_getr dX2_search_190 fX2_29 rfl (lyx_is hy 43 2 rfl) hl121 ?_
                    refine WP_astore (ls' := [(0, _), (1, _), (2, _), (3, _), (4, _), (5, _), (6, _), (7, _), (8, _)]) dX2_search_193 (by decide) rfl ?_
                    refine WP_aload_n dX2_search_195 rfl ?_
                    refine WP_aload_n dX2_search_196 rfl ?_
                    refine WP_getr dX2_search_197 fX2_25 rfl (lyx_is hy 43 2 rfl) hn121 ?_
                    refine WP_putr dX2_search_200 fX2_29 rfl rfl rfl rfl (lyx_is hy 43 2 rfl) ?_
                    obtain ⟨R12154, eR12154⟩ : ∃ R9 : pR, R9 = pp RI12120 (ad g 43) 7 (some (ad g 47)) := ⟨_, rfl⟩
                    rw [← eR12154]
                    have hrR12154 : RfX g R12154 := by rw [eR12154]; exact rfx_pp hy hrI12120 (by decide)
                    have hTR12154 : R12154 (ad g 5) 0 = some (ad g 27) := by rw [eR12154, pp_ne _ _ (Or.inl (lyx_ne hy (by decide) (by decide) (by decide)))]; exact hTI12120
                    have hOR12154 : R12154 (ad g 43) 6 = some (ad g 47) := by rw [eR12154, pp_ne _ _ (Or.inr (by decide))]; exact hn121
                    have hQR12154 : R12154 (ad g 43) 7 = some (ad g 47) := by rw [eR12154, pp_self]
                    clear eR12154
                    refine WP_aload_n dX2_search_203 rfl ?_
                    refine WP_aload dX2_search_204 rfl ?_
                    refine WP_putr dX2_search_206 fX2_25 rfl rfl rfl rfl (lyx_is hy 43 2 rfl) ?_
                    obtain ⟨R12155, eR12155⟩ : ∃ R9 : pR, R9 = pp R12154 (ad g 43) 6 (some (ad g 48)) := ⟨_, rfl⟩
                    rw [← eR12155]
                    have hrR12155 : RfX g R12155 := by rw [eR12155]; exact rfx_pp hy hrR12154 (by decide)
                    have hTR12155 : R12155 (ad g 5) 0 = some (ad g 27) := by rw [eR12155, pp_ne _ _ (Or.inl (lyx_ne hy (by decide) (by decide) (by decide)))]; exact hTR12154
                    have hOR12155 : R12155 (ad g 43) 7 = some (ad g 47) := by rw [eR12155, pp_ne _ _ (Or.inr (by decide))]; exact hQR12154
                    have hQR12155 : R12155 (ad g 43) 6 = some (ad g 48) := by rw [eR12155, pp_self]
                    clear eR12155
                    refine WP_iinc (ls' := [(0, _), (1, _), (2, _), (3, _), (4, _), (5, _), (6, _), (7, _), (8, _)]) dX2_search_209 rfl (by decide) rfl ?_
                    have hv12156 : (i12119 + Int32.ofInt (-1)).toInt = i12119.toInt + (-1) := ia_n rfl (by omega) (by omega)
                    generalize i12119 + Int32.ofInt (-1) = v12156 at hv12156 ⊢
                    refine WP_goto 121 dX2_search_212 rfl ?_
                    exact WP_sub (fc rfl (fc rfl (fc rfl (fc rfl (fc rfl (fc rfl (fc rfl fn))))))) (ihlp121_12123 v12156 I12149 R12155 hrR12155 hTR12155 (Or.inr ⟨hQR12155, hOR12155⟩) hI12149 fr12153 w12148 e12151 v12144 e12152 (by omega) (by omega) (by omega) (by omega) (by omega) (fun q hq he => by have e := adx_inj hy hq (by decide) (Option.some.inj (he.symm.trans hOR12155)); subst e; exact WB_V VI12149 (by omega) (by omega)) (Or.inl (by omega)) (by omega))
                  · refine WQ_iconst (0) (0) dX2_search_156 rfl rfl (fun v12157 hv12157 => ?_)
                    refine WP_goto 178 dX2_search_157 rfl ?_
                    refine WP_iload_n dX2_search_178 rfl ?_
                    refine WP_iload dX2_search_179 rfl ?_
                    refine WP_iload dX2_search_181 rfl ?_
                    refine WP_callV4 (k := 2) dX2_search_183 ⟨⟨⟨by decide, by decide⟩, zX2_weighDay⟩, lX2_71, by decide, rfl, vX2_weighDay.1, vX2_weighDay.2⟩ (lyx_is hy 43 2 rfl) (sx_weighDayx_48_27 hy hrI12120 hTI12120 hI12132 v12157 so v12131 i12119 (by omega) (by omega) (by omega) (by omega) (by omega) (by omega) (by omega) (by omega) (K := 594 * ((nn.toInt - 1) - i12119.toInt)) (by omega) hl121 hn121 (by rw [fz_at fiI12132 43 (by decide) (by decide), ew12123]; omega) (by rw [fz_at fr12134 24 (by decide) (by decide), fz_at fr12134 25 (by decide) (by decide), fz_at fr12134 26 (by decide) (by decide)]; exact WD_of WI12132 FN12106 ldI12132 (by unfold EA; rw [if_pos (by omega)]; omega) (by omega) (by omega) (by omega) (ldx_p hI (by decide) _ _ _ (by omega) (by omega) ldI12132 (by omega) (by omega)) (sbx_b hI) (cbx_b hI (by omega) (by omega)))) (Nat.le_of_ble_eq_true rfl) ?_
                    intro r I12158 J12159 Ra hq
                    obtain ⟨⟨hI12158, ec, fiI12158, ejI12158, pI12158⟩, v12160, rfl, av12160, bv12160, cv12160⟩ := hq
                    show WP _ _ _ _ (.int _ :: _) _ _ _ _
                    rw [ec]
                    clear ec Ra
                    have fr12161 : fz 74 g [43, 44, 47, 48] I I12158 := fz_tr fr12134 (fz_mono fiI12158 (by decide))
                    rw [ejI12158]
                    clear ejI12158 J12159
                    have e12162 : I12158 (ad g 1) 1 = L := hI12158.2
                    have b12163 := BT_get hI12158.1 1 1 2 (0) (0) (900) (by decide) 1 (by decide) (by decide)
                    rw [e12162] at b12163
                    obtain ⟨w12164, ew12164⟩ : ∃ w : Int32, I12158 (ad g 43) 1 = w := ⟨_, rfl⟩
                    have bw12164 := BT_get hI12158.1 43 1 2 (0) (0) (47) (by decide) 1 (by decide) (by decide)
                    rw [ew12164] at bw12164
                    have vsI12158 := pI12158.1
                    have fuI12158 := pI12158.2
                    rw [ew12164] at fuI12158
                    refine WQ_puti dX2_search_186 fX2_67 rfl rfl (lyx_is hy 43 2 rfl) (fun I12165 eI12165 => ?_)
                    have hI12165 : XI g n L I12165 := by rw [eI12165]; exact (xi_f0 hy hI12158 (c := 43) (by decide) (Or.inl (by decide)) (by decide))
                    have e12166 : I12165 (ad g 1) 1 = L := by rw [eI12165, pp_ne _ _ (Or.inl (lyx_ne hy (by decide) (by decide) (by decide)))]; exact e12162
                    have e12167 : I12165 (ad g 43) 1 = w12164 := by rw [eI12165, pp_ne _ _ (Or.inr (by decide))]; exact ew12164
                    have e12168 : I12165 (ad g 43) 8 = v12160 := by rw [eI12165, pp_self]
                    have fr12169 : fz 74 g [43, 44, 47, 48] I I12165 := by rw [eI12165]; exact fzx_pp hy fr12161 (by decide) (by decide)
                    have VI12165 := vsI12158
                    rw [show I12158 (ad g 47) = I12165 (ad g 47) by rw [eI12165, pp_off _ _ (lyx_ne hy (by decide) (by decide) (by decide))]] at VI12165
                    clear eI12165
                    refine WP_aload_n dX2_search_189 rfl ?_
                    refine WP_getr dX2_search_190 fX2_29 rfl (lyx_is hy 43 2 rfl) hl121 ?_
                    refine WP_astore (ls' := [(0, _), (1, _), (2, _), (3, _), (4, _), (5, _), (6, _), (7, _), (8, _)]) dX2_search_193 (by decide) rfl ?_
                    refine WP_aload_n dX2_search_195 rfl ?_
                    refine WP_aload_n dX2_search_196 rfl ?_
                    refine WP_getr dX2_search_197 fX2_25 rfl (lyx_is hy 43 2 rfl) hn121 ?_
                    refine WP_putr dX2_search_200 fX2_29 rfl rfl rfl rfl (lyx_is hy 43 2 rfl) ?_
                    obtain ⟨R12170, eR12170⟩ : ∃ R9 : pR, R9 = pp RI12120 (ad g 43) 7 (some (ad g 47)) := ⟨_, rfl⟩
                    rw [← eR12170]
                    have hrR12170 : RfX g R12170 := by rw [eR12170]; exact rfx_pp hy hrI12120 (by decide)
                    have hTR12170 : R12170 (ad g 5) 0 = some (ad g 27) := by rw [eR12170, pp_ne _ _ (Or.inl (lyx_ne hy (by decide) (by decide) (by decide)))]; exact hTI12120
                    have hOR12170 : R12170 (ad g 43) 6 = some (ad g 47) := by rw [eR12170, pp_ne _ _ (Or.inr (by decide))]; exact hn121
                    have hQR12170 : R12170 (ad g 43) 7 = some (ad g 47) := by rw [eR12170, pp_self]
                    clear eR12170
                    refine WP_aload_n dX2_search_203 rfl ?_
                    refine WP_aload dX2_search_204 rfl ?_
                    refine WP_putr dX2_search_206 fX2_25 rfl rfl rfl rfl (lyx_is hy 43 2 rfl) ?_
                    obtain ⟨R12171, eR12171⟩ : ∃ R9 : pR, R9 = pp R12170 (ad g 43) 6 (some (ad g 48)) := ⟨_, rfl⟩
                    rw [← eR12171]
                    have hrR12171 : RfX g R12171 := by rw [eR12171]; exact rfx_pp hy hrR12170 (by decide)
                    have hTR12171 : R12171 (ad g 5) 0 = some (ad g 27) := by rw [eR12171, pp_ne _ _ (Or.inl (lyx_ne hy (by decide) (by decide) (by decide)))]; exact hTR12170
                    have hOR12171 : R12171 (ad g 43) 7 = some (ad g 47) := by rw [eR12171, pp_ne _ _ (Or.inr (by decide))]; exact hQR12170
                    have hQR12171 : R12171 (ad g 43) 6 = some (ad g 48) := by rw [eR12171, pp_self]
                    clear eR12171
                    refine WP_iinc (ls' := [(0, _), (1, _), (2, _), (3, _), (4, _), (5, _), (6, _), (7, _), (8, _)]) dX2_search_209 rfl (by decide) rfl ?_
                    have hv12172 : (i12119 + Int32.ofInt (-1)).toInt = i12119.toInt + (-1) := ia_n rfl (by omega) (by omega)
                    generalize i12119 + Int32.ofInt (-1) = v12172 at hv12172 ⊢
                    refine WP_goto 121 dX2_search_212 rfl ?_
                    exact WP_sub (fc rfl (fc rfl (fc rfl (fc rfl (fc rfl (fc rfl (fc rfl fn))))))) (ihlp121_12123 v12172 I12165 R12171 hrR12171 hTR12171 (Or.inr ⟨hQR12171, hOR12171⟩) hI12165 fr12169 w12164 e12167 v12160 e12168 (by omega) (by omega) (by omega) (by omega) (by omega) (fun q hq he => by have e := adx_inj hy hq (by decide) (Option.some.inj (he.symm.trans hOR12171)); subst e; exact WB_V VI12165 (by omega) (by omega)) (Or.inr ⟨_, by rw [show da.toInt = v12131.toInt by omega]; exact ldI12132, FU_end (by have z := fuI12158; rw [show i12119.toInt = (0 : Int) by omega] at z; exact z) PZ_I12098_12099 (by omega) (by omega) (by omega)⟩) (by omega))
              · have W12172 := PW_I12120_12120 47 (by decide) hl121
                refine WP_iload dX2_search_121 rfl ?_
                refine WQ_if_lt 215 dX2_search_123 rfl (fun c12173 => ?_) (fun c12173 => ?_)
                · refine WP_aload_n dX2_search_215 rfl ?_
                  refine WQ_getim dX2_search_216 fX2_75 rfl (lyx_is hy 43 2 rfl) ew12122 ?_
                  exact WP_iret dX2_search_219 rfl ⟨⟨hI12120, ⟨hrI12120, hTI12120.trans hT.symm, (Or.inr ⟨hn121, hl121⟩)⟩, fiI12120, fjJ12099⟩, _, rfl, by omega, by omega, (PQ_I12120_12120.resolve_left (by omega))⟩
                · refine WP_iload_n dX2_search_126 rfl ?_
                  refine WP_iload dX2_search_127 rfl ?_
                  refine WQ_iadd dX2_search_129 (by omega) (by omega) (fun v12175 hv12175 => ?_)
                  refine WQ_bipush (7) (7) dX2_search_130 rfl rfl (fun v12176 hv12176 => ?_)
                  refine WQ_iremk (7) dX2_search_132 hv12176 (by decide) (by omega) (fun v12177 hv12177 => ?_)
                  refine WP_istore (ls' := [(0, _), (1, _), (2, _), (3, _), (4, _), (5, _), (6, _), (7, _)]) dX2_search_133 (by decide) rfl ?_
                  refine WP_aload_n dX2_search_135 rfl ?_
                  refine WP_getr dX2_search_136 fX2_12 rfl (lyx_is hy 43 2 rfl) (rfx hrI12120 43 3 44 (by decide)) ?_
                  refine WP_aload_n dX2_search_139 rfl ?_
                  refine WP_getr dX2_search_140 fX2_32 rfl (lyx_is hy 43 2 rfl) (rfx hrI12120 43 2 5 (by decide)) ?_
                  refine WP_iload_n dX2_search_143 rfl ?_
                  refine WP_iload dX2_search_144 rfl ?_
                  refine WP_callV3 (k := 6) dX2_search_146 ⟨⟨⟨by decide, by decide⟩, zX6_load⟩, lX2_42, by decide, rfl, vX6_load.1, vX6_load.2⟩ (lyx_is hy 44 6 rfl) (sx_loadx_44_27 hy hrI12120 hTI12120 hI12120 so v12177 (by omega) (by omega) (by omega) (by omega)) (Nat.le_of_ble_eq_true rfl) ?_
                  intro r I12178 J12179 Ra hq
                  obtain ⟨⟨hI12178, ec, fiI12178, ejI12178, pI12178⟩, rfl⟩ := hq
                  rw [ec]
                  clear ec Ra
                  have fr12180 : fz 74 g [43, 44, 47, 48] I I12178 := fz_tr fiI12120 (fz_mono fiI12178 (by decide))
                  rw [ejI12178]
                  clear ejI12178 J12179
                  have ldI12178 := LD_fr pI12178 (fz_at fiI12120 27 (by decide) (by decide)) (fz_at fiI12120 32 (by decide) (by decide)) (fz_at fiI12120 34 (by decide) (by decide)) (fz_at fiI12120 35 (by decide) (by decide)) (fz_at fiI12120 36 (by decide) (by decide)) (fz_at fiI12120 22 (by decide) (by decide))
                  have WI12178 := W12172
                  rw [← fz_at fiI12178 47 (by decide) (by decide)] at WI12178
                  have e12181 : I12178 (ad g 1) 1 = L := hI12178.2
                  have b12182 := BT_get hI12178.1 1 1 2 (0) (0) (900) (by decide) 1 (by decide) (by decide)
                  rw [e12181] at b12182
                  refine WP_aload_n dX2_search_149 rfl ?_
                  refine WP_aload_n dX2_search_150 rfl ?_
                  refine WP_iload dX2_search_151 rfl ?_
                  refine WQ_if_ne 160 dX2_search_153 rfl (fun c12182 => ?_) (fun c12182 => ?_)
                  · refine WP_aload_n dX2_search_160 rfl ?_
                    refine WP_getr dX2_search_161 fX2_32 rfl (lyx_is hy 43 2 rfl) (rfx hrI12120 43 2 5 (by decide)) ?_
                    refine WP_getr dX2_search_164 fX2_46 rfl (lyx_is hy 5 0 rfl) hTI12120 ?_
                    refine WP_getr dX2_search_167 fX2_52 rfl (lyx_is hy 27 7 rfl) (rfx hrI12120 27 10 33 (by decide)) ?_
                    refine WP_iload_n dX2_search_170 rfl ?_
                    refine WQ_bipush (7) (7) dX2_search_171 rfl rfl (fun v12184 hv12184 => ?_)
                    refine WQ_imulk (7) dX2_search_173 hv12184 (by omega) (by omega) (fun v12185 hv12185 => ?_)
                    refine WP_iload dX2_search_174 rfl ?_
                    refine WQ_iadd dX2_search_176 (by omega) (by omega) (fun v12186 hv12186 => ?_)
                    refine WQ_iald dX2_search_177 (lyx_is hy 33 13 rfl) (lyx_n hy 33 28 rfl) (by omega) (by omega) (fun q hq => BT_get hI12178.1 33 0 28 (0) (0) (20) (by decide) q (Nat.zero_le _) hq) (fun v12187 av12187 bv12187 ev12187 => ?_)
                    refine WP_iload_n dX2_search_178 rfl ?_
                    refine WP_iload dX2_search_179 rfl ?_
                    refine WP_iload dX2_search_181 rfl ?_
                    refine WP_callV4 (k := 2) dX2_search_183 ⟨⟨⟨by decide, by decide⟩, zX2_weighDay⟩, lX2_71, by decide, rfl, vX2_weighDay.1, vX2_weighDay.2⟩ (lyx_is hy 43 2 rfl) (sx_weighDayx_47_27 hy hrI12120 hTI12120 hI12178 v12187 so v12177 i12119 (by omega) (by omega) (by omega) (by omega) (by omega) (by omega) (by omega) (by omega) (K := 594 * ((nn.toInt - 1) - i12119.toInt)) (by omega) hl121 hn121 (by rw [fz_at fiI12178 43 (by decide) (by decide), ew12123]; omega) (by rw [fz_at fr12180 24 (by decide) (by decide), fz_at fr12180 25 (by decide) (by decide), fz_at fr12180 26 (by decide) (by decide)]; exact WD_of WI12178 FN12106 ldI12178 (by unfold EA; rw [if_neg (by omega), show I (ad g (27 + 6)) = I12178 (ad g 33) from (fz_at fr12180 33 (by decide) (by decide)).symm, ← cl (x := v12186) (n := (7 * so.toInt + v12177.toInt).toNat) (by omega), ev12187]) (by omega) (by omega) (by omega) (ldx_p hI (by decide) _ _ _ (by omega) (by omega) ldI12178 (by omega) (by omega)) (sbx_b hI) (cbx_b hI (by omega) (by omega)))) (Nat.le_of_ble_eq_true rfl) ?_
                    intro r I12188 J12189 Ra hq
                    obtain ⟨⟨hI12188, ec, fiI12188, ejI12188, pI12188⟩, v12190, rfl, av12190, bv12190, cv12190⟩ := hq
                    show WP _ _ _ _ (.int _ :: _) _ _ _ _
                    rw [ec]
                    clear ec Ra
                    have fr12191 : fz 74 g [43, 44, 47, 48] I I12188 := fz_tr fr12180 (fz_mono fiI12188 (by decide))
                    rw [ejI12188]
                    clear ejI12188 J12189
                    have e12192 : I12188 (ad g 1) 1 = L := hI12188.2
                    have b12193 := BT_get hI12188.1 1 1 2 (0) (0) (900) (by decide) 1 (by decide) (by decide)
                    rw [e12192] at b12193
                    obtain ⟨w12194, ew12194⟩ : ∃ w : Int32, I12188 (ad g 43) 1 = w := ⟨_, rfl⟩
                    have bw12194 := BT_get hI12188.1 43 1 2 (0) (0) (47) (by decide) 1 (by decide) (by decide)
                    rw [ew12194] at bw12194
                    have vsI12188 := pI12188.1
                    have fuI12188 := pI12188.2
                    rw [ew12194] at fuI12188
                    refine WQ_puti dX2_search_186 fX2_67 rfl rfl (lyx_is hy 43 2 rfl) (fun I12195 eI12195 => ?_)
                    have hI12195 : XI g n L I12195 := by rw [eI12195]; exact (xi_f0 hy hI12188 (c := 43) (by decide) (Or.inl (by decide)) (by decide))
                    have e12196 : I12195 (ad g 1) 1 = L := by rw [eI12195, pp_ne _ _ (Or.inl (lyx_ne hy (by decide) (by decide) (by decide)))]; exact e12192
                    have e12197 : I12195 (ad g 43) 1 = w12194 := by rw [eI12195, pp_ne _ _ (Or.inr (by decide))]; exact ew12194
                    have e12198 : I12195 (ad g 43) 8 = v12190 := by rw [eI12195, pp_self]
                    have fr12199 : fz 74 g [43, 44, 47, 48] I I12195 := by rw [eI12195]; exact fzx_pp hy fr12191 (by decide) (by decide)
                    have VI12195 := vsI12188
                    rw [show I12188 (ad g 48) = I12195 (ad g 48) by rw [eI12195, pp_off _ _ (lyx_ne hy (by decide) (by decide) (by decide))]] at VI12195
                    clear eI12195
                    refine WP_aload_n dX2_search_189 rfl ?_
                    refine WP_getr dX2_search_190 fX2_29 rfl (lyx_is hy 43 2 rfl) hl121 ?_
                    refine WP_astore (ls' := [(0, _), (1, _), (2, _), (3, _), (4, _), (5, _), (6, _), (7, _), (8, _)]) dX2_search_193 (by decide) rfl ?_
                    refine WP_aload_n dX2_search_195 rfl ?_
                    refine WP_aload_n dX2_search_196 rfl ?_
                    refine WP_getr dX2_search_197 fX2_25 rfl (lyx_is hy 43 2 rfl) hn121 ?_
                    refine WP_putr dX2_search_200 fX2_29 rfl rfl rfl rfl (lyx_is hy 43 2 rfl) ?_
                    obtain ⟨R12200, eR12200⟩ : ∃ R9 : pR, R9 = pp RI12120 (ad g 43) 7 (some (ad g 48)) := ⟨_, rfl⟩
                    rw [← eR12200]
                    have hrR12200 : RfX g R12200 := by rw [eR12200]; exact rfx_pp hy hrI12120 (by decide)
                    have hTR12200 : R12200 (ad g 5) 0 = some (ad g 27) := by rw [eR12200, pp_ne _ _ (Or.inl (lyx_ne hy (by decide) (by decide) (by decide)))]; exact hTI12120
                    have hOR12200 : R12200 (ad g 43) 6 = some (ad g 48) := by rw [eR12200, pp_ne _ _ (Or.inr (by decide))]; exact hn121
                    have hQR12200 : R12200 (ad g 43) 7 = some (ad g 48) := by rw [eR12200, pp_self]
                    clear eR12200
                    refine WP_aload_n dX2_search_203 rfl ?_
                    refine WP_aload dX2_search_204 rfl ?_
                    refine WP_putr dX2_search_206 fX2_25 rfl rfl rfl rfl (lyx_is hy 43 2 rfl) ?_
                    obtain ⟨R12201, eR12201⟩ : ∃ R9 : pR, R9 = pp R12200 (ad g 43) 6 (some (ad g 47)) := ⟨_, rfl⟩
                    rw [← eR12201]
                    have hrR12201 : RfX g R12201 := by rw [eR12201]; exact rfx_pp hy hrR12200 (by decide)
                    have hTR12201 : R12201 (ad g 5) 0 = some (ad g 27) := by rw [eR12201, pp_ne _ _ (Or.inl (lyx_ne hy (by decide) (by decide) (by decide)))]; exact hTR12200
                    have hOR12201 : R12201 (ad g 43) 7 = some (ad g 48) := by rw [eR12201, pp_ne _ _ (Or.inr (by decide))]; exact hQR12200
                    have hQR12201 : R12201 (ad g 43) 6 = some (ad g 47) := by rw [eR12201, pp_self]
                    clear eR12201
                    refine WP_iinc (ls' := [(0, _), (1, _), (2, _), (3, _), (4, _), (5, _), (6, _), (7, _), (8, _)]) dX2_search_209 rfl (by decide) rfl ?_
                    have hv12202 : (i12119 + Int32.ofInt (-1)).toInt = i12119.toInt + (-1) := ia_n rfl (by omega) (by omega)
                    generalize i12119 + Int32.ofInt (-1) = v12202 at hv12202 ⊢
                    refine WP_goto 121 dX2_search_212 rfl ?_
                    exact WP_sub (fc rfl (fc rfl (fc rfl (fc rfl (fc rfl (fc rfl (fc rfl fn))))))) (ihlp121_12123 v12202 I12195 R12201 hrR12201 hTR12201 (Or.inl ⟨hQR12201, hOR12201⟩) hI12195 fr12199 w12194 e12197 v12190 e12198 (by omega) (by omega) (by omega) (by omega) (by omega) (fun q hq he => by have e := adx_inj hy hq (by decide) (Option.some.inj (he.symm.trans hOR12201)); subst e; exact WB_V VI12195 (by omega) (by omega)) (Or.inl (by omega)) (by omega))
                  · refine WQ_iconst (0) (0) dX2_search_156 rfl rfl (fun v12203 hv12203 => ?_)
                    refine WP_goto 178 dX2_search_157 rfl ?_
                    refine WP_iload_n dX2_search_178 rfl ?_
                    refine WP_iload dX2_search_179 rfl ?_
                    refine WP_iload dX2_search_181 rfl ?_
                    refine WP_callV4 (k := 2) dX2_search_183 ⟨⟨⟨by decide, by decide⟩, zX2_weighDay⟩, lX2_71, by decide, rfl, vX2_weighDay.1, vX2_weighDay.2⟩ (lyx_is hy 43 2 rfl) (sx_weighDayx_47_27 hy hrI12120 hTI12120 hI12178 v12203 so v12177 i12119 (by omega) (by omega) (by omega) (by omega) (by omega) (by omega) (by omega) (by omega) (K := 594 * ((nn.toInt - 1) - i12119.toInt)) (by omega) hl121 hn121 (by rw [fz_at fiI12178 43 (by decide) (by decide), ew12123]; omega) (by rw [fz_at fr12180 24 (by decide) (by decide), fz_at fr12180 25 (by decide) (by decide), fz_at fr12180 26 (by decide) (by decide)]; exact WD_of WI12178 FN12106 ldI12178 (by unfold EA; rw [if_pos (by omega)]; omega) (by omega) (by omega) (by omega) (ldx_p hI (by decide) _ _ _ (by omega) (by omega) ldI12178 (by omega) (by omega)) (sbx_b hI) (cbx_b hI (by omega) (by omega)))) (Nat.le_of_ble_eq_true rfl) ?_
                    intro r I12204 J12205 Ra hq
                    obtain ⟨⟨hI12204, ec, fiI12204, ejI12204, pI12204⟩, v12206, rfl, av12206, bv12206, cv12206⟩ := hq
                    show WP _ _ _ _ (.int _ :: _) _ _ _ _
                    rw [ec]
                    clear ec Ra
                    have fr12207 : fz 74 g [43, 44, 47, 48] I I12204 := fz_tr fr12180 (fz_mono fiI12204 (by decide))
                    rw [ejI12204]
                    clear ejI12204 J12205
                    have e12208 : I12204 (ad g 1) 1 = L := hI12204.2
                    have b12209 := BT_get hI12204.1 1 1 2 (0) (0) (900) (by decide) 1 (by decide) (by decide)
                    rw [e12208] at b12209
                    obtain ⟨w12210, ew12210⟩ : ∃ w : Int32, I12204 (ad g 43) 1 = w := ⟨_, rfl⟩
                    have bw12210 := BT_get hI12204.1 43 1 2 (0) (0) (47) (by decide) 1 (by decide) (by decide)
                    rw [ew12210] at bw12210
                    have vsI12204 := pI12204.1
                    have fuI12204 := pI12204.2
                    rw [ew12210] at fuI12204
                    refine WQ_puti dX2_search_186 fX2_67 rfl rfl (lyx_is hy 43 2 rfl) (fun I12211 eI12211 => ?_)
                    have hI12211 : XI g n L I12211 := by rw [eI12211]; exact (xi_f0 hy hI12204 (c := 43) (by decide) (Or.inl (by decide)) (by decide))
                    have e12212 : I12211 (ad g 1) 1 = L := by rw [eI12211, pp_ne _ _ (Or.inl (lyx_ne hy (by decide) (by decide) (by decide)))]; exact e12208
                    have e12213 : I12211 (ad g 43) 1 = w12210 := by rw [eI12211, pp_ne _ _ (Or.inr (by decide))]; exact ew12210
                    have e12214 : I12211 (ad g 43) 8 = v12206 := by rw [eI12211, pp_self]
                    have fr12215 : fz 74 g [43, 44, 47, 48] I I12211 := by rw [eI12211]; exact fzx_pp hy fr12207 (by decide) (by decide)
                    have VI12211 := vsI12204
                    rw [show I12204 (ad g 48) = I12211 (ad g 48) by rw [eI12211, pp_off _ _ (lyx_ne hy (by decide) (by decide) (by decide))]] at VI12211
                    clear eI12211
                    refine WP_aload_n dX2_search_189 rfl ?_
                    refine WP_getr dX2_search_190 fX2_29 rfl (lyx_is hy 43 2 rfl) hl121 ?_
                    refine WP_astore (ls' := [(0, _), (1, _), (2, _), (3, _), (4, _), (5, _), (6, _), (7, _), (8, _)]) dX2_search_193 (by decide) rfl ?_
                    refine WP_aload_n dX2_search_195 rfl ?_
                    refine WP_aload_n dX2_search_196 rfl ?_
                    refine WP_getr dX2_search_197 fX2_25 rfl (lyx_is hy 43 2 rfl) hn121 ?_
                    refine WP_putr dX2_search_200 fX2_29 rfl rfl rfl rfl (lyx_is hy 43 2 rfl) ?_
                    obtain ⟨R12216, eR12216⟩ : ∃ R9 : pR, R9 = pp RI12120 (ad g 43) 7 (some (ad g 48)) := ⟨_, rfl⟩
                    rw [← eR12216]
                    have hrR12216 : RfX g R12216 := by rw [eR12216]; exact rfx_pp hy hrI12120 (by decide)
                    have hTR12216 : R12216 (ad g 5) 0 = some (ad g 27) := by rw [eR12216, pp_ne _ _ (Or.inl (lyx_ne hy (by decide) (by decide) (by decide)))]; exact hTI12120
                    have hOR12216 : R12216 (ad g 43) 6 = some (ad g 48) := by rw [eR12216, pp_ne _ _ (Or.inr (by decide))]; exact hn121
                    have hQR12216 : R12216 (ad g 43) 7 = some (ad g 48) := by rw [eR12216, pp_self]
                    clear eR12216
                    refine WP_aload_n dX2_search_203 rfl ?_
                    refine WP_aload dX2_search_204 rfl ?_
                    refine WP_putr dX2_search_206 fX2_25 rfl rfl rfl rfl (lyx_is hy 43 2 rfl) ?_
                    obtain ⟨R12217, eR12217⟩ : ∃ R9 : pR, R9 = pp R12216 (ad g 43) 6 (some (ad g 47)) := ⟨_, rfl⟩
                    rw [← eR12217]
                    have hrR12217 : RfX g R12217 := by rw [eR12217]; exact rfx_pp hy hrR12216 (by decide)
                    have hTR12217 : R12217 (ad g 5) 0 = some (ad g 27) := by rw [eR12217, pp_ne _ _ (Or.inl (lyx_ne hy (by decide) (by decide) (by decide)))]; exact hTR12216
                    have hOR12217 : R12217 (ad g 43) 7 = some (ad g 48) := by rw [eR12217, pp_ne _ _ (Or.inr (by decide))]; exact hQR12216
                    have hQR12217 : R12217 (ad g 43) 6 = some (ad g 47) := by rw [eR12217, pp_self]
                    clear eR12217
                    refine WP_iinc (ls' := [(0, _), (1, _), (2, _), (3, _), (4, _), (5, _), (6, _), (7, _), (8, _)]) dX2_search_209 rfl (by decide) rfl ?_
                    have hv12218 : (i12119 + Int32.ofInt (-1)).toInt = i12119.toInt + (-1) := ia_n rfl (by omega) (by omega)
                    generalize i12119 + Int32.ofInt (-1) = v12218 at hv12218 ⊢
                    refine WP_goto 121 dX2_search_212 rfl ?_
                    exact WP_sub (fc rfl (fc rfl (fc rfl (fc rfl (fc rfl (fc rfl (fc rfl fn))))))) (ihlp121_12123 v12218 I12211 R12217 hrR12217 hTR12217 (Or.inl ⟨hQR12217, hOR12217⟩) hI12211 fr12215 w12210 e12213 v12206 e12214 (by omega) (by omega) (by omega) (by omega) (by omega) (fun q hq he => by have e := adx_inj hy hq (by decide) (Option.some.inj (he.symm.trans hOR12217)); subst e; exact WB_V VI12211 (by omega) (by omega)) (Or.inr ⟨_, by rw [show da.toInt = v12177.toInt by omega]; exact ldI12178, FU_end (by have z := fuI12204; rw [show i12119.toInt = (0 : Int) by omega] at z; exact z) PZ_I12098_12099 (by omega) (by omega) (by omega)⟩) (by omega))
          obtain ⟨w12219, ew12219⟩ : ∃ w : Int32, I12113 (ad g 43) 1 = w := ⟨_, rfl⟩
          have bw12219 := BT_get hI12113.1 43 1 2 (0) (0) (47) (by decide) 1 (by decide) (by decide)
          rw [ew12219] at bw12219
          exact WP_sub (fc rfl (fc rfl (fc rfl (fc rfl (fc rfl (fc rfl (fc rfl fn))))))) (lp121_12123 _ v12118 I12113 RI12098 hrI12098 hTI12098 (Or.inl ⟨hn102, hl102⟩) hI12113 fr12116 w12219 ew12219 v12112 e12115 (by omega) (by omega) (by omega) (by omega) (by omega) (fun q hq he => by have e := adx_inj hy hq (by decide) (Option.some.inj (he.symm.trans hl102)); subst e; exact (by rw [show v12118.toInt = (nn.toInt - 1) by omega]; exact WI12113)) (Or.inl (by omega)) (Nat.lt_succ_self _))
        · have FN12219 : FWD g 27 I (J12099 (ad g 45)) so.toInt da.toInt (nn.toInt - 1) := by rw [show (nn.toInt - 1) = i12097.toInt by omega]; exact PF_I12098_12099
          refine WP_aload_n dX2_search_102 rfl ?_
          refine WP_getr dX2_search_103 fX2_29 rfl (lyx_is hy 43 2 rfl) hl102 ?_
          refine WQ_iconst (0) (0) dX2_search_106 rfl rfl (fun v12221 hv12221 => ?_)
          refine WP_callS2u dX2_search_107 ⟨⟨⟨by decide, by decide⟩, zJ7_fill_53178⟩, lX2_64, tJ7_fill_53178⟩ (s_fill hy hrI12098 47 366 rfl rfl (by decide) v12221) (Nat.le_of_ble_eq_true rfl) ?_
          obtain ⟨I12222, eI12222⟩ : ∃ I9 : pI, I9 = fi I12098 (ad g 47) 366 v12221 := ⟨_, rfl⟩
          rw [← eI12222]
          have hI12222 : XI g n L I12222 := by rw [eI12222]; exact (xi_fill0 hy hI12098 47 366 v12221 (by decide) (by decide))
          have e12223 : I12222 (ad g 1) 1 = L := by rw [eI12222, fi_off (lyx_ne hy (by decide) (by decide) (by decide))]; exact e12102
          have fr12224 : fz 74 g [43, 44, 47, 48] I I12222 := by rw [eI12222]; exact fzx_fi hy fiI12098 (by decide) (by decide)
          have WI12222 : WB (J12099 (ad g 45)) (I12222 (ad g 47)) (nn.toInt - 1) (nn.toInt - 1) := WB_0 eI12222 hv12221
          clear eI12222
          refine WP_aload_n dX2_search_110 rfl ?_
          refine WQ_iconst (0) (0) dX2_search_111 rfl rfl (fun v12225 hv12225 => ?_)
          refine WQ_puti dX2_search_112 fX2_67 rfl rfl (lyx_is hy 43 2 rfl) (fun I12226 eI12226 => ?_)
          have hI12226 : XI g n L I12226 := by rw [eI12226]; exact (xi_f0 hy hI12222 (c := 43) (by decide) (Or.inl (by decide)) (by decide))
          have e12227 : I12226 (ad g 1) 1 = L := by rw [eI12226, pp_ne _ _ (Or.inl (lyx_ne hy (by decide) (by decide) (by decide)))]; exact e12223
          have e12228 : I12226 (ad g 43) 8 = v12225 := by rw [eI12226, pp_self]
          have fr12229 : fz 74 g [43, 44, 47, 48] I I12226 := by rw [eI12226]; exact fzx_pp hy fr12224 (by decide) (by decide)
          have WI12226 : WB (J12099 (ad g 45)) (I12226 (ad g 47)) (nn.toInt - 1) (nn.toInt - 1) := by rw [eI12226, pp_off _ _ (lyx_ne hy (by decide) (by decide) (by decide))]; exact WI12222
          clear eI12226
          refine WP_iload dX2_search_115 rfl ?_
          refine WQ_iconst (1) (1) dX2_search_117 rfl rfl (fun v12230 hv12230 => ?_)
          refine WQ_isub dX2_search_118 (by omega) (by omega) (fun v12231 hv12231 => ?_)
          refine WP_istore (ls' := [(0, _), (1, _), (2, _), (3, _), (4, _), (5, _), (6, _)]) dX2_search_119 (by decide) rfl ?_
          have lp121_12236 : ∀ (mz : Nat) (i12232 : Int32) (I12233 : pI) (RI12233 : pR), RfX g RI12233 → RI12233 (ad g 5) 0 = some (ad g 27) → NL g RI12233 → XI g n L I12233 → fz 74 g [43, 44, 47, 48] I I12233 → ∀ (w12235 : Int32), I12233 (ad g 43) 1 = w12235 → ∀ (w12236 : Int32), I12233 (ad g 43) 8 = w12236 → -1 ≤ i12232.toInt → i12232.toInt ≤ 27 → i12232.toInt ≤ nn.toInt - 1 → 0 ≤ w12236.toInt → w12236.toInt ≤ 594 * (nn.toInt - 1 - i12232.toInt) → (∀ q : Nat, q < 74 → RI12233 (ad g 43) 7 = some (ad g q) → WB (J12099 (ad g 45)) (I12233 (ad g q)) (nn.toInt - 1) i12232.toInt) → (0 ≤ i12232.toInt ∨ ∃ T : Nat → Int32, LD g 27 I so.toInt da.toInt T ∧ AOKd T co.toInt st.toInt w12235.toInt) → (i12232.toInt + 1).toNat < mz → WP g mX2_search 121 [(0, .ref (ad g 43)), (1, .int so), (2, .int da), (3, .int co), (4, .int st), (5, .int nn), (6, .int i12232)] [] I12233 J12099 RI12233 (fun r I' J' R' => (XI g n L I' ∧ (RfX g R' ∧ R' (ad g 5) 0 = R (ad g 5) 0 ∧ NL g R') ∧ fz 74 g [43, 44, 47, 48] I I' ∧ fz 74 g [45, 46] J J') ∧ ∃ v : Int32, r = some (.int v) ∧ 0 ≤ v.toInt ∧ v.toInt ≤ 47 ∧ (∃ T : Nat → Int32, LD g 27 I so.toInt da.toInt T ∧ AOKd T co.toInt st.toInt v.toInt)) := by
            intro mz
            induction mz with
            | zero =>
              intro i12232 I12233 RI12233 hrI12233 hTI12233 hPI12233 hI12233 fiI12233 w12235 ew12235 w12236 ew12236 ai12232 bi12232 j0_I12233_12233 j1_I12233_12233 j2_I12233_12233 PW_I12233_12233 PQ_I12233_12233 hmlp121_12236
              exact absurd hmlp121_12236 (Nat.not_lt_zero _)
            | succ mz ihlp121_12236 =>
              intro i12232 I12233 RI12233 hrI12233 hTI12233 hPI12233 hI12233 fiI12233 w12235 ew12235 w12236 ew12236 ai12232 bi12232 j0_I12233_12233 j1_I12233_12233 j2_I12233_12233 PW_I12233_12233 PQ_I12233_12233 hmlp121_12236
              have bw12235 := BT_get hI12233.1 43 1 2 (0) (0) (47) (by decide) 1 (by decide) (by decide)
              rw [ew12235] at bw12235
              have e12238 : I12233 (ad g 1) 1 = L := hI12233.2
              have b12239 := BT_get hI12233.1 1 1 2 (0) (0) (900) (by decide) 1 (by decide) (by decide)
              rw [e12238] at b12239
              rcases hPI12233 with ⟨hn121, hl121⟩ | ⟨hn121, hl121⟩
              · have W12239 := PW_I12233_12233 48 (by decide) hl121
                refine WP_iload dX2_search_121 rfl ?_
                refine WQ_if_lt 215 dX2_search_123 rfl (fun c12240 => ?_) (fun c12240 => ?_)
                · refine WP_aload_n dX2_search_215 rfl ?_
                  refine WQ_getim dX2_search_216 fX2_75 rfl (lyx_is hy 43 2 rfl) ew12235 ?_
                  exact WP_iret dX2_search_219 rfl ⟨⟨hI12233, ⟨hrI12233, hTI12233.trans hT.symm, (Or.inl ⟨hn121, hl121⟩)⟩, fiI12233, fjJ12099⟩, _, rfl, by omega, by omega, (PQ_I12233_12233.resolve_left (by omega))⟩
                · refine WP_iload_n dX2_search_126 rfl ?_
                  refine WP_iload dX2_search_127 rfl ?_
                  refine WQ_iadd dX2_search_129 (by omega) (by omega) (fun v12242 hv12242 => ?_)
                  refine WQ_bipush (7) (7) dX2_search_130 rfl rfl (fun v12243 hv12243 => ?_)
                  refine WQ_iremk (7) dX2_search_132 hv12243 (by decide) (by omega) (fun v12244 hv12244 => ?_)
                  refine WP_istore (ls' := [(0, _), (1, _), (2, _), (3, _), (4, _), (5, _), (6, _), (7, _)]) dX2_search_133 (by decide) rfl ?_
                  refine WP_aload_n dX2_search_135 rfl ?_
                  refine WP_getr dX2_search_136 fX2_12 rfl (lyx_is hy 43 2 rfl) (rfx hrI12233 43 3 44 (by decide)) ?_
                  refine WP_aload_n dX2_search_139 rfl ?_
                  refine WP_getr dX2_search_140 fX2_32 rfl (lyx_is hy 43 2 rfl) (rfx hrI12233 43 2 5 (by decide)) ?_
                  refine WP_iload_n dX2_search_143 rfl ?_
                  refine WP_iload dX2_search_144 rfl ?_
                  refine WP_callV3 (k := 6) dX2_search_146 ⟨⟨⟨by decide, by decide⟩, zX6_load⟩, lX2_42, by decide, rfl, vX6_load.1, vX6_load.2⟩ (lyx_is hy 44 6 rfl) (sx_loadx_44_27 hy hrI12233 hTI12233 hI12233 so v12244 (by omega) (by omega) (by omega) (by omega)) (Nat.le_of_ble_eq_true rfl) ?_
                  intro r I12245 J12246 Ra hq
                  obtain ⟨⟨hI12245, ec, fiI12245, ejI12245, pI12245⟩, rfl⟩ := hq
                  rw [ec]
                  clear ec Ra
                  have fr12247 : fz 74 g [43, 44, 47, 48] I I12245 := fz_tr fiI12233 (fz_mono fiI12245 (by decide))
                  rw [ejI12245]
                  clear ejI12245 J12246
                  have ldI12245 := LD_fr pI12245 (fz_at fiI12233 27 (by decide) (by decide)) (fz_at fiI12233 32 (by decide) (by decide)) (fz_at fiI12233 34 (by decide) (by decide)) (fz_at fiI12233 35 (by decide) (by decide)) (fz_at fiI12233 36 (by decide) (by decide)) (fz_at fiI12233 22 (by decide) (by decide))
                  have WI12245 := W12239
                  rw [← fz_at fiI12245 48 (by decide) (by decide)] at WI12245
                  have e12248 : I12245 (ad g 1) 1 = L := hI12245.2
                  have b12249 := BT_get hI12245.1 1 1 2 (0) (0) (900) (by decide) 1 (by decide) (by decide)
                  rw [e12248] at b12249
                  refine WP_aload_n dX2_search_149 rfl ?_
                  refine WP_aload_n dX2_search_150 rfl ?_
                  refine WP_iload dX2_search_151 rfl ?_
                  refine WQ_if_ne 160 dX2_search_153 rfl (fun c12249 => ?_) (fun c12249 => ?_)
                  · refine WP_aload_n dX2_search_160 rfl ?_
                    refine WP_getr dX2_search_161 fX2_32 rfl (lyx_is hy 43 2 rfl) (rfx hrI12233 43 2 5 (by decide)) ?_
                    refine WP_getr dX2_search_164 fX2_46 rfl (lyx_is hy 5 0 rfl) hTI12233 ?_
                    refine WP_getr dX2_search_167 fX2_52 rfl (lyx_is hy 27 7 rfl) (rfx hrI12233 27 10 33 (by decide)) ?_
                    refine WP_iload_n dX2_search_170 rfl ?_
                    refine WQ_bipush (7) (7) dX2_search_171 rfl rfl (fun v12251 hv12251 => ?_)
                    refine WQ_imulk (7) dX2_search_173 hv12251 (by omega) (by omega) (fun v12252 hv12252 => ?_)
                    refine WP_iload dX2_search_174 rfl ?_
                    refine WQ_iadd dX2_search_176 (by omega) (by omega) (fun v12253 hv12253 => ?_)
                    refine WQ_iald dX2_search_177 (lyx_is hy 33 13 rfl) (lyx_n hy 33 28 rfl) (by omega) (by omega) (fun q hq => BT_get hI12245.1 33 0 28 (0) (0) (20) (by decide) q (Nat.zero_le _) hq) (fun v12254 av12254 bv12254 ev12254 => ?_)
                    refine WP_iload_n dX2_search_178 rfl ?_
                    refine WP_iload dX2_search_179 rfl ?_
                    refine WP_iload dX2_search_181 rfl ?_
                    refine WP_callV4 (k := 2) dX2_search_183 ⟨⟨⟨by decide, by decide⟩, zX2_weighDay⟩, lX2_71, by decide, rfl, vX2_weighDay.1, vX2_weighDay.2⟩ (lyx_is hy 43 2 rfl) (sx_weighDayx_48_27 hy hrI12233 hTI12233 hI12245 v12254 so v12244 i12232 (by omega) (by omega) (by omega) (by omega) (by omega) (by omega) (by omega) (by omega) (K := 594 * ((nn.toInt - 1) - i12232.toInt)) (by omega) hl121 hn121 (by rw [fz_at fiI12245 43 (by decide) (by decide), ew12236]; omega) (by rw [fz_at fr12247 24 (by decide) (by decide), fz_at fr12247 25 (by decide) (by decide), fz_at fr12247 26 (by decide) (by decide)]; exact WD_of WI12245 FN12219 ldI12245 (by unfold EA; rw [if_neg (by omega), show I (ad g (27 + 6)) = I12245 (ad g 33) from (fz_at fr12247 33 (by decide) (by decide)).symm, ← cl (x := v12253) (n := (7 * so.toInt + v12244.toInt).toNat) (by omega), ev12254]) (by omega) (by omega) (by omega) (ldx_p hI (by decide) _ _ _ (by omega) (by omega) ldI12245 (by omega) (by omega)) (sbx_b hI) (cbx_b hI (by omega) (by omega)))) (Nat.le_of_ble_eq_true rfl) ?_
                    intro r I12255 J12256 Ra hq
                    obtain ⟨⟨hI12255, ec, fiI12255, ejI12255, pI12255⟩, v12257, rfl, av12257, bv12257, cv12257⟩ := hq
                    show WP _ _ _ _ (.int _ :: _) _ _ _ _
                    rw [ec]
                    clear ec Ra
                    have fr12258 : fz 74 g [43, 44, 47, 48] I I12255 := fz_tr fr12247 (fz_mono fiI12255 (by decide))
                    rw [ejI12255]
                    clear ejI12255 J12256
                    have e12259 : I12255 (ad g 1) 1 = L := hI12255.2
                    have b12260 := BT_get hI12255.1 1 1 2 (0) (0) (900) (by decide) 1 (by decide) (by decide)
                    rw [e12259] at b12260
                    obtain ⟨w12261, ew12261⟩ : ∃ w : Int32, I12255 (ad g 43) 1 = w := ⟨_, rfl⟩
                    have bw12261 := BT_get hI12255.1 43 1 2 (0) (0) (47) (by decide) 1 (by decide) (by decide)
                    rw [ew12261] at bw12261
                    have vsI12255 := pI12255.1
                    have fuI12255 := pI12255.2
                    rw [ew12261] at fuI12255
                    refine WQ_puti dX2_search_186 fX2_67 rfl rfl (lyx_is hy 43 2 rfl) (fun I12262 eI12262 => ?_)
                    have hI12262 : XI g n L I12262 := by rw [eI12262]; exact (xi_f0 hy hI12255 (c := 43) (by decide) (Or.inl (by decide)) (by decide))
                    have e12263 : I12262 (ad g 1) 1 = L := by rw [eI12262, pp_ne _ _ (Or.inl (lyx_ne hy (by decide) (by decide) (by decide)))]; exact e12259
                    have e12264 : I12262 (ad g 43) 1 = w12261 := by rw [eI12262, pp_ne _ _ (Or.inr (by decide))]; exact ew12261
                    have e12265 : I12262 (ad g 43) 8 = v12257 := by rw [eI12262, pp_self]
                    have fr12266 : fz 74 g [43, 44, 47, 48] I I12262 := by rw [eI12262]; exact fzx_pp hy fr12258 (by decide) (by decide)
                    have VI12262 := vsI12255
                    rw [show I12255 (ad g 47) = I12262 (ad g 47) by rw [eI12262, pp_off _ _ (lyx_ne hy (by decide) (by decide) (by decide))]] at VI12262
                    clear eI12262
                    refine WP_aload_n dX2_search_189 rfl ?_
                    refine WP_getr dX2_search_190 fX2_29 rfl (lyx_is hy 43 2 rfl) hl121 ?_
                    refine WP_astore (ls' := [(0, _), (1, _), (2, _), (3, _), (4, _), (5, _), (6, _), (7, _), (8, _)]) dX2_search_193 (by decide) rfl ?_
                    refine WP_aload_n dX2_search_195 rfl ?_
                    refine WP_aload_n dX2_search_196 rfl ?_
                    refine WP_getr dX2_search_197 fX2_25 rfl (lyx_is hy 43 2 rfl) hn121 ?_
                    refine WP_putr dX2_search_200 fX2_29 rfl rfl rfl rfl (lyx_is hy 43 2 rfl) ?_
                    obtain ⟨R12267, eR12267⟩ : ∃ R9 : pR, R9 = pp RI12233 (ad g 43) 7 (some (ad g 47)) := ⟨_, rfl⟩
                    rw [← eR12267]
                    have hrR12267 : RfX g R12267 := by rw [eR12267]; exact rfx_pp hy hrI12233 (by decide)
                    have hTR12267 : R12267 (ad g 5) 0 = some (ad g 27) := by rw [eR12267, pp_ne _ _ (Or.inl (lyx_ne hy (by decide) (by decide) (by decide)))]; exact hTI12233
                    have hOR12267 : R12267 (ad g 43) 6 = some (ad g 47) := by rw [eR12267, pp_ne _ _ (Or.inr (by decide))]; exact hn121
                    have hQR12267 : R12267 (ad g 43) 7 = some (ad g 47) := by rw [eR12267, pp_self]
                    clear eR12267
                    refine WP_aload_n dX2_search_203 rfl ?_
                    refine WP_aload dX2_search_204 rfl ?_
                    refine WP_putr dX2_search_206 fX2_25 rfl rfl rfl rfl (lyx_is hy 43 2 rfl) ?_
                    obtain ⟨R12268, eR12268⟩ : ∃ R9 : pR, R9 = pp R12267 (ad g 43) 6 (some (ad g 48)) := ⟨_, rfl⟩
                    rw [← eR12268]
                    have hrR12268 : RfX g R12268 := by rw [eR12268]; exact rfx_pp hy hrR12267 (by decide)
                    have hTR12268 : R12268 (ad g 5) 0 = some (ad g 27) := by rw [eR12268, pp_ne _ _ (Or.inl (lyx_ne hy (by decide) (by decide) (by decide)))]; exact hTR12267
                    have hOR12268 : R12268 (ad g 43) 7 = some (ad g 47) := by rw [eR12268, pp_ne _ _ (Or.inr (by decide))]; exact hQR12267
                    have hQR12268 : R12268 (ad g 43) 6 = some (ad g 48) := by rw [eR12268, pp_self]
                    clear eR12268
                    refine WP_iinc (ls' := [(0, _), (1, _), (2, _), (3, _), (4, _), (5, _), (6, _), (7, _), (8, _)]) dX2_search_209 rfl (by decide) rfl ?_
                    have hv12269 : (i12232 + Int32.ofInt (-1)).toInt = i12232.toInt + (-1) := ia_n rfl (by omega) (by omega)
                    generalize i12232 + Int32.ofInt (-1) = v12269 at hv12269 ⊢
                    refine WP_goto 121 dX2_search_212 rfl ?_
                    exact WP_sub (fc rfl (fc rfl (fc rfl (fc rfl (fc rfl (fc rfl (fc rfl fn))))))) (ihlp121_12236 v12269 I12262 R12268 hrR12268 hTR12268 (Or.inr ⟨hQR12268, hOR12268⟩) hI12262 fr12266 w12261 e12264 v12257 e12265 (by omega) (by omega) (by omega) (by omega) (by omega) (fun q hq he => by have e := adx_inj hy hq (by decide) (Option.some.inj (he.symm.trans hOR12268)); subst e; exact WB_V VI12262 (by omega) (by omega)) (Or.inl (by omega)) (by omega))
                  · refine WQ_iconst (0) (0) dX2_search_156 rfl rfl (fun v12270 hv12270 => ?_)
                    refine WP_goto 178 dX2_search_157 rfl ?_
                    refine WP_iload_n dX2_search_178 rfl ?_
                    refine WP_iload dX2_search_179 rfl ?_
                    refine WP_iload dX2_search_181 rfl ?_
                    refine WP_callV4 (k := 2) dX2_search_183 ⟨⟨⟨by decide, by decide⟩, zX2_weighDay⟩, lX2_71, by decide, rfl, vX2_weighDay.1, vX2_weighDay.2⟩ (lyx_is hy 43 2 rfl) (sx_weighDayx_48_27 hy hrI12233 hTI12233 hI12245 v12270 so v12244 i12232 (by omega) (by omega) (by omega) (by omega) (by omega) (by omega) (by omega) (by omega) (K := 594 * ((nn.toInt - 1) - i12232.toInt)) (by omega) hl121 hn121 (by rw [fz_at fiI12245 43 (by decide) (by decide), ew12236]; omega) (by rw [fz_at fr12247 24 (by decide) (by decide), fz_at fr12247 25 (by decide) (by decide), fz_at fr12247 26 (by decide) (by decide)]; exact WD_of WI12245 FN12219 ldI12245 (by unfold EA; rw [if_pos (by omega)]; omega) (by omega) (by omega) (by omega) (ldx_p hI (by decide) _ _ _ (by omega) (by omega) ldI12245 (by omega) (by omega)) (sbx_b hI) (cbx_b hI (by omega) (by omega)))) (Nat.le_of_ble_eq_true rfl) ?_
                    intro r I12271 J12272 Ra hq
                    obtain ⟨⟨hI12271, ec, fiI12271, ejI12271, pI12271⟩, v12273, rfl, av12273, bv12273, cv12273⟩ := hq
                    show WP _ _ _ _ (.int _ :: _) _ _ _ _
                    rw [ec]
                    clear ec Ra
                    have fr12274 : fz 74 g [43, 44, 47, 48] I I12271 := fz_tr fr12247 (fz_mono fiI12271 (by decide))
                    rw [ejI12271]
                    clear ejI12271 J12272
                    have e12275 : I12271 (ad g 1) 1 = L := hI12271.2
                    have b12276 := BT_get hI12271.1 1 1 2 (0) (0) (900) (by decide) 1 (by decide) (by decide)
                    rw [e12275] at b12276
                    obtain ⟨w12277, ew12277⟩ : ∃ w : Int32, I12271 (ad g 43) 1 = w := ⟨_, rfl⟩
                    have bw12277 := BT_get hI12271.1 43 1 2 (0) (0) (47) (by decide) 1 (by decide) (by decide)
                    rw [ew12277] at bw12277
                    have vsI12271 := pI12271.1
                    have fuI12271 := pI12271.2
                    rw [ew12277] at fuI12271
                    refine WQ_puti dX2_search_186 fX2_67 rfl rfl (lyx_is hy 43 2 rfl) (fun I12278 eI12278 => ?_)
                    have hI12278 : XI g n L I12278 := by rw [eI12278]; exact (xi_f0 hy hI12271 (c := 43) (by decide) (Or.inl (by decide)) (by decide))
                    have e12279 : I12278 (ad g 1) 1 = L := by rw [eI12278, pp_ne _ _ (Or.inl (lyx_ne hy (by decide) (by decide) (by decide)))]; exact e12275
                    have e12280 : I12278 (ad g 43) 1 = w12277 := by rw [eI12278, pp_ne _ _ (Or.inr (by decide))]; exact ew12277
                    have e12281 : I12278 (ad g 43) 8 = v12273 := by rw [eI12278, pp_self]
                    have fr12282 : fz 74 g [43, 44, 47, 48] I I12278 := by rw [eI12278]; exact fzx_pp hy fr12274 (by decide) (by decide)
                    have VI12278 := vsI12271
                    rw [show I12271 (ad g 47) = I12278 (ad g 47) by rw [eI12278, pp_off _ _ (lyx_ne hy (by decide) (by decide) (by decide))]] at VI12278
                    clear eI12278
                    refine WP_aload_n dX2_search_189 rfl ?_
                    refine WP_getr dX2_search_190 fX2_29 rfl (lyx_is hy 43 2 rfl) hl121 ?_
                    refine WP_astore (ls' := [(0, _), (1, _), (2, _), (3, _), (4, _), (5, _), (6, _), (7, _), (8, _)]) dX2_search_193 (by decide) rfl ?_
                    refine WP_aload_n dX2_search_195 rfl ?_
                    refine WP_aload_n dX2_search_196 rfl ?_
                    refine WP_getr dX2_search_197 fX2_25 rfl (lyx_is hy 43 2 rfl) hn121 ?_
                    refine WP_putr dX2_search_200 fX2_29 rfl rfl rfl rfl (lyx_is hy 43 2 rfl) ?_
                    obtain ⟨R12283, eR12283⟩ : ∃ R9 : pR, R9 = pp RI12233 (ad g 43) 7 (some (ad g 47)) := ⟨_, rfl⟩
                    rw [← eR12283]
                    have hrR12283 : RfX g R12283 := by rw [eR12283]; exact rfx_pp hy hrI12233 (by decide)
                    have hTR12283 : R12283 (ad g 5) 0 = some (ad g 27) := by rw [eR12283, pp_ne _ _ (Or.inl (lyx_ne hy (by decide) (by decide) (by decide)))]; exact hTI12233
                    have hOR12283 : R12283 (ad g 43) 6 = some (ad g 47) := by rw [eR12283, pp_ne _ _ (Or.inr (by decide))]; exact hn121
                    have hQR12283 : R12283 (ad g 43) 7 = some (ad g 47) := by rw [eR12283, pp_self]
                    clear eR12283
                    refine WP_aload_n dX2_search_203 rfl ?_
                    refine WP_aload dX2_search_204 rfl ?_
                    refine WP_putr dX2_search_206 fX2_25 rfl rfl rfl rfl (lyx_is hy 43 2 rfl) ?_
                    obtain ⟨R12284, eR12284⟩ : ∃ R9 : pR, R9 = pp R12283 (ad g 43) 6 (some (ad g 48)) := ⟨_, rfl⟩
                    rw [← eR12284]
                    have hrR12284 : RfX g R12284 := by rw [eR12284]; exact rfx_pp hy hrR12283 (by decide)
                    have hTR12284 : R12284 (ad g 5) 0 = some (ad g 27) := by rw [eR12284, pp_ne _ _ (Or.inl (lyx_ne hy (by decide) (by decide) (by decide)))]; exact hTR12283
                    have hOR12284 : R12284 (ad g 43) 7 = some (ad g 47) := by rw [eR12284, pp_ne _ _ (Or.inr (by decide))]; exact hQR12283
                    have hQR12284 : R12284 (ad g 43) 6 = some (ad g 48) := by rw [eR12284, pp_self]
                    clear eR12284
                    refine WP_iinc (ls' := [(0, _), (1, _), (2, _), (3, _), (4, _), (5, _), (6, _), (7, _), (8, _)]) dX2_search_209 rfl (by decide) rfl ?_
                    have hv12285 : (i12232 + Int32.ofInt (-1)).toInt = i12232.toInt + (-1) := ia_n rfl (by omega) (by omega)
                    generalize i12232 + Int32.ofInt (-1) = v12285 at hv12285 ⊢
                    refine WP_goto 121 dX2_search_212 rfl ?_
                    exact WP_sub (fc rfl (fc rfl (fc rfl (fc rfl (fc rfl (fc rfl (fc rfl fn))))))) (ihlp121_12236 v12285 I12278 R12284 hrR12284 hTR12284 (Or.inr ⟨hQR12284, hOR12284⟩) hI12278 fr12282 w12277 e12280 v12273 e12281 (by omega) (by omega) (by omega) (by omega) (by omega) (fun q hq he => by have e := adx_inj hy hq (by decide) (Option.some.inj (he.symm.trans hOR12284)); subst e; exact WB_V VI12278 (by omega) (by omega)) (Or.inr ⟨_, by rw [show da.toInt = v12244.toInt by omega]; exact ldI12245, FU_end (by have z := fuI12271; rw [show i12232.toInt = (0 : Int) by omega] at z; exact z) PZ_I12098_12099 (by omega) (by omega) (by omega)⟩) (by omega))
              · have W12285 := PW_I12233_12233 47 (by decide) hl121
                refine WP_iload dX2_search_121 rfl ?_
                refine WQ_if_lt 215 dX2_search_123 rfl (fun c12286 => ?_) (fun c12286 => ?_)
                · refine WP_aload_n dX2_search_215 rfl ?_
                  refine WQ_getim dX2_search_216 fX2_75 rfl (lyx_is hy 43 2 rfl) ew12235 ?_
                  exact WP_iret dX2_search_219 rfl ⟨⟨hI12233, ⟨hrI12233, hTI12233.trans hT.symm, (Or.inr ⟨hn121, hl121⟩)⟩, fiI12233, fjJ12099⟩, _, rfl, by omega, by omega, (PQ_I12233_12233.resolve_left (by omega))⟩
                · refine WP_iload_n dX2_search_126 rfl ?_
                  refine WP_iload dX2_search_127 rfl ?_
                  refine WQ_iadd dX2_search_129 (by omega) (by omega) (fun v12288 hv12288 => ?_)
                  refine WQ_bipush (7) (7) dX2_search_130 rfl rfl (fun v12289 hv12289 => ?_)
                  refine WQ_iremk (7) dX2_search_132 hv12289 (by decide) (by omega) (fun v12290 hv12290 => ?_)
                  refine WP_istore (ls' := [(0, _), (1, _), (2, _), (3, _), (4, _), (5, _), (6, _), (7, _)]) dX2_search_133 (by decide) rfl ?_
                  refine WP_aload_n dX2_search_135 rfl ?_
                  refine WP_getr dX2_search_136 fX2_12 rfl (lyx_is hy 43 2 rfl) (rfx hrI12233 43 3 44 (by decide)) ?_
                  refine WP_aload_n dX2_search_139 rfl ?_
                  refine WP_getr dX2_search_140 fX2_32 rfl (lyx_is hy 43 2 rfl) (rfx hrI12233 43 2 5 (by decide)) ?_
                  refine WP_iload_n dX2_search_143 rfl ?_
                  refine WP_iload dX2_search_144 rfl ?_
                  refine WP_callV3 (k := 6) dX2_search_146 ⟨⟨⟨by decide, by decide⟩, zX6_load⟩, lX2_42, by decide, rfl, vX6_load.1, vX6_load.2⟩ (lyx_is hy 44 6 rfl) (sx_loadx_44_27 hy hrI12233 hTI12233 hI12233 so v12290 (by omega) (by omega) (by omega) (by omega)) (Nat.le_of_ble_eq_true rfl) ?_
                  intro r I12291 J12292 Ra hq
                  obtain ⟨⟨hI12291, ec, fiI12291, ejI12291, pI12291⟩, rfl⟩ := hq
                  rw [ec]
                  clear ec Ra
                  have fr12293 : fz 74 g [43, 44, 47, 48] I I12291 := fz_tr fiI12233 (fz_mono fiI12291 (by decide))
                  rw [ejI12291]
                  clear ejI12291 J12292
                  have ldI12291 := LD_fr pI12291 (fz_at fiI12233 27 (by decide) (by decide)) (fz_at fiI12233 32 (by decide) (by decide)) (fz_at fiI12233 34 (by decide) (by decide)) (fz_at fiI12233 35 (by decide) (by decide)) (fz_at fiI12233 36 (by decide) (by decide)) (fz_at fiI12233 22 (by decide) (by decide))
                  have WI12291 := W12285
                  rw [← fz_at fiI12291 47 (by decide) (by decide)] at WI12291
                  have e12294 : I12291 (ad g 1) 1 = L := hI12291.2
                  have b12295 := BT_get hI12291.1 1 1 2 (0) (0) (900) (by decide) 1 (by decide) (by decide)
                  rw [e12294] at b12295
                  refine WP_aload_n dX2_search_149 rfl ?_
                  refine WP_aload_n dX2_search_150 rfl ?_
                  refine WP_iload dX2_search_151 rfl ?_
                  refine WQ_if_ne 160 dX2_search_153 rfl (fun c12295 => ?_) (fun c12295 => ?_)
                  · refine WP_aload_n dX2_search_160 rfl ?_
                    refine WP_getr dX2_search_161 fX2_32 rfl (lyx_is hy 43 2 rfl) (rfx hrI12233 43 2 5 (by decide)) ?_
                    refine WP_getr dX2_search_164 fX2_46 rfl (lyx_is hy 5 0 rfl) hTI12233 ?_
                    refine WP_getr dX2_search_167 fX2_52 rfl (lyx_is hy 27 7 rfl) (rfx hrI12233 27 10 33 (by decide)) ?_
                    refine WP_iload_n dX2_search_170 rfl ?_
                    refine WQ_bipush (7) (7) dX2_search_171 rfl rfl (fun v12297 hv12297 => ?_)
                    refine WQ_imulk (7) dX2_search_173 hv12297 (by omega) (by omega) (fun v12298 hv12298 => ?_)
                    refine WP_iload dX2_search_174 rfl ?_
                    refine WQ_iadd dX2_search_176 (by omega) (by omega) (fun v12299 hv12299 => ?_)
                    refine WQ_iald dX2_search_177 (lyx_is hy 33 13 rfl) (lyx_n hy 33 28 rfl) (by omega) (by omega) (fun q hq => BT_get hI12291.1 33 0 28 (0) (0) (20) (by decide) q (Nat.zero_le _) hq) (fun v12300 av12300 bv12300 ev12300 => ?_)
                    refine WP_iload_n dX2_search_178 rfl ?_
                    refine WP_iload dX2_search_179 rfl ?_
                    refine WP_iload dX2_search_181 rfl ?_
                    refine WP_callV4 (k := 2) dX2_search_183 ⟨⟨⟨by decide, by decide⟩, zX2_weighDay⟩, lX2_71, by decide, rfl, vX2_weighDay.1, vX2_weighDay.2⟩ (lyx_is hy 43 2 rfl) (sx_weighDayx_47_27 hy hrI12233 hTI12233 hI12291 v12300 so v12290 i12232 (by omega) (by omega) (by omega) (by omega) (by omega) (by omega) (by omega) (by omega) (K := 594 * ((nn.toInt - 1) - i12232.toInt)) (by omega) hl121 hn121 (by rw [fz_at fiI12291 43 (by decide) (by decide), ew12236]; omega) (by rw [fz_at fr12293 24 (by decide) (by decide), fz_at fr12293 25 (by decide) (by decide), fz_at fr12293 26 (by decide) (by decide)]; exact WD_of WI12291 FN12219 ldI12291 (by unfold EA; rw [if_neg (by omega), show I (ad g (27 + 6)) = I12291 (ad g 33) from (fz_at fr12293 33 (by decide) (by decide)).symm, ← cl (x := v12299) (n := (7 * so.toInt + v12290.toInt).toNat) (by omega), ev12300]) (by omega) (by omega) (by omega) (ldx_p hI (by decide) _ _ _ (by omega) (by omega) ldI12291 (by omega) (by omega)) (sbx_b hI) (cbx_b hI (by omega) (by omega)))) (Nat.le_of_ble_eq_true rfl) ?_
                    intro r I12301 J12302 Ra hq
                    obtain ⟨⟨hI12301, ec, fiI12301, ejI12301, pI12301⟩, v12303, rfl, av12303, bv12303, cv12303⟩ := hq
                    show WP _ _ _ _ (.int _ :: _) _ _ _ _
                    rw [ec]
                    clear ec Ra
                    have fr12304 : fz 74 g [43, 44, 47, 48] I I12301 := fz_tr fr12293 (fz_mono fiI12301 (by decide))
                    rw [ejI12301]
                    clear ejI12301 J12302
                    have e12305 : I12301 (ad g 1) 1 = L := hI12301.2
                    have b12306 := BT_get hI12301.1 1 1 2 (0) (0) (900) (by decide) 1 (by decide) (by decide)
                    rw [e12305] at b12306
                    obtain ⟨w12307, ew12307⟩ : ∃ w : Int32, I12301 (ad g 43) 1 = w := ⟨_, rfl⟩
                    have bw12307 := BT_get hI12301.1 43 1 2 (0) (0) (47) (by decide) 1 (by decide) (by decide)
                    rw [ew12307] at bw12307
                    have vsI12301 := pI12301.1
                    have fuI12301 := pI12301.2
                    rw [ew12307] at fuI12301
                    refine WQ_puti dX2_search_186 fX2_67 rfl rfl (lyx_is hy 43 2 rfl) (fun I12308 eI12308 => ?_)
                    have hI12308 : XI g n L I12308 := by rw [eI12308]; exact (xi_f0 hy hI12301 (c := 43) (by decide) (Or.inl (by decide)) (by decide))
                    have e12309 : I12308 (ad g 1) 1 = L := by rw [eI12308, pp_ne _ _ (Or.inl (lyx_ne hy (by decide) (by decide) (by decide)))]; exact e12305
                    have e12310 : I12308 (ad g 43) 1 = w12307 := by rw [eI12308, pp_ne _ _ (Or.inr (by decide))]; exact ew12307
                    have e12311 : I12308 (ad g 43) 8 = v12303 := by rw [eI12308, pp_self]
                    have fr12312 : fz 74 g [43, 44, 47, 48] I I12308 := by rw [eI12308]; exact fzx_pp hy fr12304 (by decide) (by decide)
                    have VI12308 := vsI12301
                    rw [show I12301 (ad g 48) = I12308 (ad g 48) by rw [eI12308, pp_off _ _ (lyx_ne hy (by decide) (by decide) (by decide))]] at VI12308
                    clear eI12308
                    refine WP_aload_n dX2_search_189 rfl ?_
                    refine WP_getr dX2_search_190 fX2_29 rfl (lyx_is hy 43 2 rfl) hl121 ?_
                    refine WP_astore (ls' := [(0, _), (1, _), (2, _), (3, _), (4, _), (5, _), (6, _), (7, _), (8, _)]) dX2_search_193 (by decide) rfl ?_
                    refine WP_aload_n dX2_search_195 rfl ?_
                    refine WP_aload_n dX2_search_196 rfl ?_
                    refine WP_getr dX2_search_197 fX2_25 rfl (lyx_is hy 43 2 rfl) hn121 ?_
                    refine WP_putr dX2_search_200 fX2_29 rfl rfl rfl rfl (lyx_is hy 43 2 rfl) ?_
                    obtain ⟨R12313, eR12313⟩ : ∃ R9 : pR, R9 = pp RI12233 (ad g 43) 7 (some (ad g 48)) := ⟨_, rfl⟩
                    rw [← eR12313]
                    have hrR12313 : RfX g R12313 := by rw [eR12313]; exact rfx_pp hy hrI12233 (by decide)
                    have hTR12313 : R12313 (ad g 5) 0 = some (ad g 27) := by rw [eR12313, pp_ne _ _ (Or.inl (lyx_ne hy (by decide) (by decide) (by decide)))]; exact hTI12233
                    have hOR12313 : R12313 (ad g 43) 6 = some (ad g 48) := by rw [eR12313, pp_ne _ _ (Or.inr (by decide))]; exact hn121
                    have hQR12313 : R12313 (ad g 43) 7 = some (ad g 48) := by rw [eR12313, pp_self]
                    clear eR12313
                    refine WP_aload_n dX2_search_203 rfl ?_
                    refine WP_aload dX2_search_204 rfl ?_
                    refine WP_putr dX2_search_206 fX2_25 rfl rfl rfl rfl (lyx_is hy 43 2 rfl) ?_
                    obtain ⟨R12314, eR12314⟩ : ∃ R9 : pR, R9 = pp R12313 (ad g 43) 6 (some (ad g 47)) := ⟨_, rfl⟩
                    rw [← eR12314]
                    have hrR12314 : RfX g R12314 := by rw [eR12314]; exact rfx_pp hy hrR12313 (by decide)
                    have hTR12314 : R12314 (ad g 5) 0 = some (ad g 27) := by rw [eR12314, pp_ne _ _ (Or.inl (lyx_ne hy (by decide) (by decide) (by decide)))]; exact hTR12313
                    have hOR12314 : R12314 (ad g 43) 7 = some (ad g 48) := by rw [eR12314, pp_ne _ _ (Or.inr (by decide))]; exact hQR12313
                    have hQR12314 : R12314 (ad g 43) 6 = some (ad g 47) := by rw [eR12314, pp_self]
                    clear eR12314
                    refine WP_iinc (ls' := [(0, _), (1, _), (2, _), (3, _), (4, _), (5, _), (6, _), (7, _), (8, _)]) dX2_search_209 rfl (by decide) rfl ?_
                    have hv12315 : (i12232 + Int32.ofInt (-1)).toInt = i12232.toInt + (-1) := ia_n rfl (by omega) (by omega)
                    generalize i12232 + Int32.ofInt (-1) = v12315 at hv12315 ⊢
                    refine WP_goto 121 dX2_search_212 rfl ?_
                    exact WP_sub (fc rfl (fc rfl (fc rfl (fc rfl (fc rfl (fc rfl (fc rfl fn))))))) (ihlp121_12236 v12315 I12308 R12314 hrR12314 hTR12314 (Or.inl ⟨hQR12314, hOR12314⟩) hI12308 fr12312 w12307 e12310 v12303 e12311 (by omega) (by omega) (by omega) (by omega) (by omega) (fun q hq he => by have e := adx_inj hy hq (by decide) (Option.some.inj (he.symm.trans hOR12314)); subst e; exact WB_V VI12308 (by omega) (by omega)) (Or.inl (by omega)) (by omega))
                  · refine WQ_iconst (0) (0) dX2_search_156 rfl rfl (fun v12316 hv12316 => ?_)
                    refine WP_goto 178 dX2_search_157 rfl ?_
                    refine WP_iload_n dX2_search_178 rfl ?_
                    refine WP_iload dX2_search_179 rfl ?_
                    refine WP_iload dX2_search_181 rfl ?_
                    refine WP_callV4 (k := 2) dX2_search_183 ⟨⟨⟨by decide, by decide⟩, zX2_weighDay⟩, lX2_71, by decide, rfl, vX2_weighDay.1, vX2_weighDay.2⟩ (lyx_is hy 43 2 rfl) (sx_weighDayx_47_27 hy hrI12233 hTI12233 hI12291 v12316 so v12290 i12232 (by omega) (by omega) (by omega) (by omega) (by omega) (by omega) (by omega) (by omega) (K := 594 * ((nn.toInt - 1) - i12232.toInt)) (by omega) hl121 hn121 (by rw [fz_at fiI12291 43 (by decide) (by decide), ew12236]; omega) (by rw [fz_at fr12293 24 (by decide) (by decide), fz_at fr12293 25 (by decide) (by decide), fz_at fr12293 26 (by decide) (by decide)]; exact WD_of WI12291 FN12219 ldI12291 (by unfold EA; rw [if_pos (by omega)]; omega) (by omega) (by omega) (by omega) (ldx_p hI (by decide) _ _ _ (by omega) (by omega) ldI12291 (by omega) (by omega)) (sbx_b hI) (cbx_b hI (by omega) (by omega)))) (Nat.le_of_ble_eq_true rfl) ?_
                    intro r I12317 J12318 Ra hq
                    obtain ⟨⟨hI12317, ec, fiI12317, ejI12317, pI12317⟩, v12319, rfl, av12319, bv12319, cv12319⟩ := hq
                    show WP _ _ _ _ (.int _ :: _) _ _ _ _
                    rw [ec]
                    clear ec Ra
                    have fr12320 : fz 74 g [43, 44, 47, 48] I I12317 := fz_tr fr12293 (fz_mono fiI12317 (by decide))
                    rw [ejI12317]
                    clear ejI12317 J12318
                    have e12321 : I12317 (ad g 1) 1 = L := hI12317.2
                    have b12322 := BT_get hI12317.1 1 1 2 (0) (0) (900) (by decide) 1 (by decide) (by decide)
                    rw [e12321] at b12322
                    obtain ⟨w12323, ew12323⟩ : ∃ w : Int32, I12317 (ad g 43) 1 = w := ⟨_, rfl⟩
                    have bw12323 := BT_get hI12317.1 43 1 2 (0) (0) (47) (by decide) 1 (by decide) (by decide)
                    rw [ew12323] at bw12323
                    have vsI12317 := pI12317.1
                    have fuI12317 := pI12317.2
                    rw [ew12323] at fuI12317
                    refine WQ_puti dX2_search_186 fX2_67 rfl rfl (lyx_is hy 43 2 rfl) (fun I12324 eI12324 => ?_)
                    have hI12324 : XI g n L I12324 := by rw [eI12324]; exact (xi_f0 hy hI12317 (c := 43) (by decide) (Or.inl (by decide)) (by decide))
                    have e12325 : I12324 (ad g 1) 1 = L := by rw [eI12324, pp_ne _ _ (Or.inl (lyx_ne hy (by decide) (by decide) (by decide)))]; exact e12321
                    have e12326 : I12324 (ad g 43) 1 = w12323 := by rw [eI12324, pp_ne _ _ (Or.inr (by decide))]; exact ew12323
                    have e12327 : I12324 (ad g 43) 8 = v12319 := by rw [eI12324, pp_self]
                    have fr12328 : fz 74 g [43, 44, 47, 48] I I12324 := by rw [eI12324]; exact fzx_pp hy fr12320 (by decide) (by decide)
                    have VI12324 := vsI12317
                    rw [show I12317 (ad g 48) = I12324 (ad g 48) by rw [eI12324, pp_off _ _ (lyx_ne hy (by decide) (by decide) (by decide))]] at VI12324
                    clear eI12324
                    refine WP_aload_n dX2_search_189 rfl ?_
                    refine WP_getr dX2_search_190 fX2_29 rfl (lyx_is hy 43 2 rfl) hl121 ?_
                    refine WP_astore (ls' := [(0, _), (1, _), (2, _), (3, _), (4, _), (5, _), (6, _), (7, _), (8, _)]) dX2_search_193 (by decide) rfl ?_
                    refine WP_aload_n dX2_search_195 rfl ?_
                    refine WP_aload_n dX2_search_196 rfl ?_
                    refine WP_getr dX2_search_197 fX2_25 rfl (lyx_is hy 43 2 rfl) hn121 ?_
                    refine WP_putr dX2_search_200 fX2_29 rfl rfl rfl rfl (lyx_is hy 43 2 rfl) ?_
                    obtain ⟨R12329, eR12329⟩ : ∃ R9 : pR, R9 = pp RI12233 (ad g 43) 7 (some (ad g 48)) := ⟨_, rfl⟩
                    rw [← eR12329]
                    have hrR12329 : RfX g R12329 := by rw [eR12329]; exact rfx_pp hy hrI12233 (by decide)
                    have hTR12329 : R12329 (ad g 5) 0 = some (ad g 27) := by rw [eR12329, pp_ne _ _ (Or.inl (lyx_ne hy (by decide) (by decide) (by decide)))]; exact hTI12233
                    have hOR12329 : R12329 (ad g 43) 6 = some (ad g 48) := by rw [eR12329, pp_ne _ _ (Or.inr (by decide))]; exact hn121
                    have hQR12329 : R12329 (ad g 43) 7 = some (ad g 48) := by rw [eR12329, pp_self]
                    clear eR12329
                    refine WP_aload_n dX2_search_203 rfl ?_
                    refine WP_aload dX2_search_204 rfl ?_
                    refine WP_putr dX2_search_206 fX2_25 rfl rfl rfl rfl (lyx_is hy 43 2 rfl) ?_
                    obtain ⟨R12330, eR12330⟩ : ∃ R9 : pR, R9 = pp R12329 (ad g 43) 6 (some (ad g 47)) := ⟨_, rfl⟩
                    rw [← eR12330]
                    have hrR12330 : RfX g R12330 := by rw [eR12330]; exact rfx_pp hy hrR12329 (by decide)
                    have hTR12330 : R12330 (ad g 5) 0 = some (ad g 27) := by rw [eR12330, pp_ne _ _ (Or.inl (lyx_ne hy (by decide) (by decide) (by decide)))]; exact hTR12329
                    have hOR12330 : R12330 (ad g 43) 7 = some (ad g 48) := by rw [eR12330, pp_ne _ _ (Or.inr (by decide))]; exact hQR12329
                    have hQR12330 : R12330 (ad g 43) 6 = some (ad g 47) := by rw [eR12330, pp_self]
                    clear eR12330
                    refine WP_iinc (ls' := [(0, _), (1, _), (2, _), (3, _), (4, _), (5, _), (6, _), (7, _), (8, _)]) dX2_search_209 rfl (by decide) rfl ?_
                    have hv12331 : (i12232 + Int32.ofInt (-1)).toInt = i12232.toInt + (-1) := ia_n rfl (by omega) (by omega)
                    generalize i12232 + Int32.ofInt (-1) = v12331 at hv12331 ⊢
                    refine WP_goto 121 dX2_search_212 rfl ?_
                    exact WP_sub (fc rfl (fc rfl (fc rfl (fc rfl (fc rfl (fc rfl (fc rfl fn))))))) (ihlp121_12236 v12331 I12324 R12330 hrR12330 hTR12330 (Or.inl ⟨hQR12330, hOR12330⟩) hI12324 fr12328 w12323 e12326 v12319 e12327 (by omega) (by omega) (by omega) (by omega) (by omega) (fun q hq he => by have e := adx_inj hy hq (by decide) (Option.some.inj (he.symm.trans hOR12330)); subst e; exact WB_V VI12324 (by omega) (by omega)) (Or.inr ⟨_, by rw [show da.toInt = v12290.toInt by omega]; exact ldI12291, FU_end (by have z := fuI12317; rw [show i12232.toInt = (0 : Int) by omega] at z; exact z) PZ_I12098_12099 (by omega) (by omega) (by omega)⟩) (by omega))
          obtain ⟨w12332, ew12332⟩ : ∃ w : Int32, I12226 (ad g 43) 1 = w := ⟨_, rfl⟩
          have bw12332 := BT_get hI12226.1 43 1 2 (0) (0) (47) (by decide) 1 (by decide) (by decide)
          rw [ew12332] at bw12332
          exact WP_sub (fc rfl (fc rfl (fc rfl (fc rfl (fc rfl (fc rfl (fc rfl fn))))))) (lp121_12236 _ v12231 I12226 RI12098 hrI12098 hTI12098 (Or.inr ⟨hn102, hl102⟩) hI12226 fr12229 w12332 ew12332 v12225 e12228 (by omega) (by omega) (by omega) (by omega) (by omega) (fun q hq he => by have e := adx_inj hy hq (by decide) (Option.some.inj (he.symm.trans hl102)); subst e; exact (by rw [show v12231.toInt = (nn.toInt - 1) by omega]; exact WI12226)) (Or.inl (by omega)) (Nat.lt_succ_self _))
      · refine WP_iload_n dX2_search_30 rfl ?_
        refine WP_iload dX2_search_31 rfl ?_
        refine WQ_iadd dX2_search_33 (by omega) (by omega) (fun v12333 hv12333 => ?_)
        refine WQ_bipush (7) (7) dX2_search_34 rfl rfl (fun v12334 hv12334 => ?_)
        refine WQ_iremk (7) dX2_search_36 hv12334 (by decide) (by omega) (fun v12335 hv12335 => ?_)
        refine WP_istore (ls' := [(0, _), (1, _), (2, _), (3, _), (4, _), (5, _), (6, _), (7, _)]) dX2_search_37 (by decide) rfl ?_
        refine WP_aload_n dX2_search_39 rfl ?_
        refine WP_getr dX2_search_40 fX2_12 rfl (lyx_is hy 43 2 rfl) (rfx hrI12098 43 3 44 (by decide)) ?_
        refine WP_aload_n dX2_search_43 rfl ?_
        refine WP_getr dX2_search_44 fX2_32 rfl (lyx_is hy 43 2 rfl) (rfx hrI12098 43 2 5 (by decide)) ?_
        refine WP_iload_n dX2_search_47 rfl ?_
        refine WP_iload dX2_search_48 rfl ?_
        refine WP_callV3 (k := 6) dX2_search_50 ⟨⟨⟨by decide, by decide⟩, zX6_load⟩, lX2_42, by decide, rfl, vX6_load.1, vX6_load.2⟩ (lyx_is hy 44 6 rfl) (sx_loadx_44_27 hy hrI12098 hTI12098 hI12098 so v12335 (by omega) (by omega) (by omega) (by omega)) (Nat.le_of_ble_eq_true rfl) ?_
        intro r I12336 J12337 Ra hq
        obtain ⟨⟨hI12336, ec, fiI12336, ejI12336, pI12336⟩, rfl⟩ := hq
        rw [ec]
        clear ec Ra
        have fr12338 : fz 74 g [43, 44, 47, 48] I I12336 := fz_tr fiI12098 (fz_mono fiI12336 (by decide))
        rw [ejI12336]
        clear ejI12336 J12337
        have ldI12336 := LD_fr pI12336 (fz_at fiI12098 27 (by decide) (by decide)) (fz_at fiI12098 32 (by decide) (by decide)) (fz_at fiI12098 34 (by decide) (by decide)) (fz_at fiI12098 35 (by decide) (by decide)) (fz_at fiI12098 36 (by decide) (by decide)) (fz_at fiI12098 22 (by decide) (by decide))
        have e12339 : I12336 (ad g 1) 1 = L := hI12336.2
        have b12340 := BT_get hI12336.1 1 1 2 (0) (0) (900) (by decide) 1 (by decide) (by decide)
        rw [e12339] at b12340
        refine WP_aload_n dX2_search_53 rfl ?_
        refine WP_iload dX2_search_54 rfl ?_
        refine WQ_if_ne 63 dX2_search_56 rfl (fun c12340 => ?_) (fun c12340 => ?_)
        · refine WP_aload_n dX2_search_63 rfl ?_
          refine WP_getr dX2_search_64 fX2_32 rfl (lyx_is hy 43 2 rfl) (rfx hrI12098 43 2 5 (by decide)) ?_
          refine WP_getr dX2_search_67 fX2_46 rfl (lyx_is hy 5 0 rfl) hTI12098 ?_
          refine WP_getr dX2_search_70 fX2_52 rfl (lyx_is hy 27 7 rfl) (rfx hrI12098 27 10 33 (by decide)) ?_
          refine WP_iload_n dX2_search_73 rfl ?_
          refine WQ_bipush (7) (7) dX2_search_74 rfl rfl (fun v12342 hv12342 => ?_)
          refine WQ_imulk (7) dX2_search_76 hv12342 (by omega) (by omega) (fun v12343 hv12343 => ?_)
          refine WP_iload dX2_search_77 rfl ?_
          refine WQ_iadd dX2_search_79 (by omega) (by omega) (fun v12344 hv12344 => ?_)
          refine WQ_iald dX2_search_80 (lyx_is hy 33 13 rfl) (lyx_n hy 33 28 rfl) (by omega) (by omega) (fun q hq => BT_get hI12336.1 33 0 28 (0) (0) (20) (by decide) q (Nat.zero_le _) hq) (fun v12345 av12345 bv12345 ev12345 => ?_)
          refine WP_iload dX2_search_81 rfl ?_
          refine WP_callV2 (k := 2) dX2_search_83 ⟨⟨⟨by decide, by decide⟩, zX2_spread⟩, lX2_57, by decide, rfl, vX2_spread.1, vX2_spread.2⟩ (lyx_is hy 43 2 rfl) (sx_spreadx hy hrI12098 hI12336 v12345 i12097 (by omega) (by omega) (by omega) (by omega)) (Nat.le_of_ble_eq_true rfl) ?_
          intro r Ia J12346 Ra hq
          obtain ⟨⟨ea, ec, fjJ12346, pJ12346⟩, rfl⟩ := hq
          rw [ea, ec]
          clear ea ec Ia Ra
          have fr12347 : fz 74 g [45, 46] J J12346 := fz_tr fjJ12099 (fz_mono fjJ12346 (by decide))
          have FJ12346 := FWD_P (P2 := J12346 (ad g 45)) PF_I12098_12099 (fz_at fjJ12346 45 (by decide) (by decide))
          have srJ12346 := pJ12346
          rw [← fz_at fjJ12346 45 (by decide) (by decide)] at srJ12346
          have ZJ12346 := ZB_P (P2 := J12346 (ad g 45)) PZ_I12098_12099 (fz_at fjJ12346 45 (by decide) (by decide))
          refine WP_aload_n dX2_search_86 rfl ?_
          refine WP_iload dX2_search_87 rfl ?_
          refine WP_iload dX2_search_89 rfl ?_
          refine WQ_iconst (1) (1) dX2_search_91 rfl rfl (fun v12348 hv12348 => ?_)
          refine WQ_iadd dX2_search_92 (by omega) (by omega) (fun v12349 hv12349 => ?_)
          refine WP_callV2 (k := 2) dX2_search_93 ⟨⟨⟨by decide, by decide⟩, zX2_sleep⟩, lX2_61, by decide, rfl, vX2_sleep.1, vX2_sleep.2⟩ (lyx_is hy 43 2 rfl) (sx_psleepx hy hrI12098 hI12336 v12335 v12349 (by omega) (by omega) (by omega) (by omega)) (Nat.le_of_ble_eq_true rfl) ?_
          intro r Ia J12350 Ra hq
          obtain ⟨⟨ea, ec, fjJ12350, pJ12350⟩, rfl⟩ := hq
          rw [ea, ec]
          clear ea ec Ia Ra
          have fr12351 : fz 74 g [45, 46] J J12350 := fz_tr fr12347 (fz_mono fjJ12350 (by decide))
          have slJ12350 := pJ12350.1
          rw [fz_at fr12338 24 (by decide) (by decide), fz_at fr12338 25 (by decide) (by decide), fz_at fr12338 26 (by decide) (by decide)] at slJ12350
          have FJ12350 := FWD_step FJ12346 ldI12336 srJ12346 slJ12350 pJ12350.2 (by unfold EA; rw [if_neg (by omega), show I (ad g (27 + 6)) = I12336 (ad g 33) from (fz_at fr12338 33 (by decide) (by decide)).symm, ← cl (x := v12344) (n := (7 * so.toInt + v12335.toInt).toNat) (by omega), ev12345]) (by omega) (by omega) (by omega) (sbx_b hI) (ldx_p hI (by decide) _ _ _ (by omega) (by omega) ldI12336 (by omega) (by omega)) (ldx_p hI (by decide)) (by omega)
          have ZJ12350 := ZB_out ZJ12346 pJ12350.2 (by omega)
          refine WP_iinc (ls' := [(0, _), (1, _), (2, _), (3, _), (4, _), (5, _), (6, _), (7, _)]) dX2_search_96 rfl (by decide) rfl ?_
          have hv12352 : (i12097 + Int32.ofInt (1)).toInt = i12097.toInt + (1) := ia_n rfl (by omega) (by omega)
          generalize i12097 + Int32.ofInt (1) = v12352 at hv12352 ⊢
          refine WP_goto 21 dX2_search_99 rfl ?_
          exact WP_sub (fc rfl (fc rfl (fc rfl (fc rfl (fc rfl (fc rfl (fc rfl fn))))))) (ihlp21_12100 v12352 I12336 J12350 RI12098 hrI12098 hTI12098 hPI12098 hI12336 fr12338 fr12351 (by omega) (by omega) (by omega) (by rw [show v12352.toInt = v12349.toInt by omega]; exact FJ12350) ZJ12350 (by omega))
        · refine WQ_iconst (0) (0) dX2_search_59 rfl rfl (fun v12353 hv12353 => ?_)
          refine WP_goto 81 dX2_search_60 rfl ?_
          refine WP_iload dX2_search_81 rfl ?_
          refine WP_callV2 (k := 2) dX2_search_83 ⟨⟨⟨by decide, by decide⟩, zX2_spread⟩, lX2_57, by decide, rfl, vX2_spread.1, vX2_spread.2⟩ (lyx_is hy 43 2 rfl) (sx_spreadx hy hrI12098 hI12336 v12353 i12097 (by omega) (by omega) (by omega) (by omega)) (Nat.le_of_ble_eq_true rfl) ?_
          intro r Ia J12354 Ra hq
          obtain ⟨⟨ea, ec, fjJ12354, pJ12354⟩, rfl⟩ := hq
          rw [ea, ec]
          clear ea ec Ia Ra
          have fr12355 : fz 74 g [45, 46] J J12354 := fz_tr fjJ12099 (fz_mono fjJ12354 (by decide))
          have FJ12354 := FWD_P (P2 := J12354 (ad g 45)) PF_I12098_12099 (fz_at fjJ12354 45 (by decide) (by decide))
          have srJ12354 := pJ12354
          rw [← fz_at fjJ12354 45 (by decide) (by decide)] at srJ12354
          have ZJ12354 := ZB_P (P2 := J12354 (ad g 45)) PZ_I12098_12099 (fz_at fjJ12354 45 (by decide) (by decide))
          refine WP_aload_n dX2_search_86 rfl ?_
          refine WP_iload dX2_search_87 rfl ?_
          refine WP_iload dX2_search_89 rfl ?_
          refine WQ_iconst (1) (1) dX2_search_91 rfl rfl (fun v12356 hv12356 => ?_)
          refine WQ_iadd dX2_search_92 (by omega) (by omega) (fun v12357 hv12357 => ?_)
          refine WP_callV2 (k := 2) dX2_search_93 ⟨⟨⟨by decide, by decide⟩, zX2_sleep⟩, lX2_61, by decide, rfl, vX2_sleep.1, vX2_sleep.2⟩ (lyx_is hy 43 2 rfl) (sx_psleepx hy hrI12098 hI12336 v12335 v12357 (by omega) (by omega) (by omega) (by omega)) (Nat.le_of_ble_eq_true rfl) ?_
          intro r Ia J12358 Ra hq
          obtain ⟨⟨ea, ec, fjJ12358, pJ12358⟩, rfl⟩ := hq
          rw [ea, ec]
          clear ea ec Ia Ra
          have fr12359 : fz 74 g [45, 46] J J12358 := fz_tr fr12355 (fz_mono fjJ12358 (by decide))
          have slJ12358 := pJ12358.1
          rw [fz_at fr12338 24 (by decide) (by decide), fz_at fr12338 25 (by decide) (by decide), fz_at fr12338 26 (by decide) (by decide)] at slJ12358
          have FJ12358 := FWD_step FJ12354 ldI12336 srJ12354 slJ12358 pJ12358.2 (by unfold EA; rw [if_pos (by omega)]; omega) (by omega) (by omega) (by omega) (sbx_b hI) (ldx_p hI (by decide) _ _ _ (by omega) (by omega) ldI12336 (by omega) (by omega)) (ldx_p hI (by decide)) (by omega)
          have ZJ12358 := ZB_out ZJ12354 pJ12358.2 (by omega)
          refine WP_iinc (ls' := [(0, _), (1, _), (2, _), (3, _), (4, _), (5, _), (6, _), (7, _)]) dX2_search_96 rfl (by decide) rfl ?_
          have hv12360 : (i12097 + Int32.ofInt (1)).toInt = i12097.toInt + (1) := ia_n rfl (by omega) (by omega)
          generalize i12097 + Int32.ofInt (1) = v12360 at hv12360 ⊢
          refine WP_goto 21 dX2_search_99 rfl ?_
          exact WP_sub (fc rfl (fc rfl (fc rfl (fc rfl (fc rfl (fc rfl (fc rfl fn))))))) (ihlp21_12100 v12360 I12336 J12358 RI12098 hrI12098 hTI12098 hPI12098 hI12336 fr12338 fr12359 (by omega) (by omega) (by omega) (by rw [show v12360.toInt = v12357.toInt by omega]; exact FJ12358) ZJ12358 (by omega))
  exact WP_sub (fc rfl (fc rfl (fc rfl (fc rfl (fc rfl (fc rfl (fc rfl fn))))))) (lp21_12100 _ v12096 I J12094 R hr hT hP hI fr0 fr12095 (by omega) (by omega) (by omega) (FWD_0 hv12096) ZJ12094 (Nat.lt_succ_self _))
