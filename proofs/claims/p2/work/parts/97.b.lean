set_option maxHeartbeats 4000000 in
set_option maxRecDepth 100000 in
theorem sx_spendx {g : GG} {n : Int} {L : Int32} (hy : LyX g)  {I : pI} {J : pJ} {R : pR} (hr : RfX g R) (hI : XI g n L I) (co : Int64) (st : Int32) (mf : Int32) (st_lo : 0 ≤ st.toInt) (st_hi : st.toInt ≤ 5) (mf_lo : 0 ≤ mf.toInt) (mf_hi : mf.toInt ≤ 3) (hb : ((I (ad g 44) 7).toInt = 0 ∧ mf.toInt = 0 ∨ (I (ad g 44) 7).toInt ≠ 0 ∧ (st.toInt < (I (ad g 44) 1).toInt ∧ mf.toInt = st.toInt ∨ (I (ad g 44) 1).toInt ≤ st.toInt ∧ mf.toInt = (I (ad g 44) 1).toInt))) : SP g mX2_spend [.ref (ad g 43), .long co, .int st, .int mf] I J R (fun r I' J' R' => (I' = I ∧ R' = R ∧ fz 74 g [46] J J' ∧ GRW (J (ad g 46)) (J' (ad g 46)) ∧ (∀ c s f e k l : Int, bt co c → ACT (I (ad g 44)) st.toInt c s f e k l → bt (J' (ad g 46) k.toNat) l)) ∧ r = none) := by
  refine SP_of ⟨by decide, rfl⟩ (Nat.le_of_ble_eq_true rfl) ?_
  have e7686 : I (ad g 1) 1 = L := hI.2
  have b7687 := BT_get hI.1 1 1 2 (0) (0) (900) (by decide) 1 (by decide) (by decide)
  rw [e7686] at b7687
  have frj0 : fz 74 g [46] J J := fz_rf
  obtain ⟨w7688, ew7688⟩ : ∃ w : Int32, I (ad g 44) 7 = w := ⟨_, rfl⟩
  have bw7688 := BT_get hI.1 44 7 8 (0) (0) (1) (by decide) 7 (by decide) (by decide)
  rw [ew7688] at bw7688
  obtain ⟨w7689, ew7689⟩ : ∃ w : Int32, I (ad g 44) 1 = w := ⟨_, rfl⟩
  have bw7689 := BT_get hI.1 44 1 2 (0) (0) (3) (by decide) 1 (by decide) (by decide)
  rw [ew7689] at bw7689
  rw [ew7688, ew7689] at hb
  refine WQ_iconst (0) (0) dX2_spend_0 rfl rfl (fun v7690 hv7690 => ?_)
  refine WP_istore (ls' := [(0, _), (1, _), (3, _), (4, _), (5, _)]) dX2_spend_1 (by decide) rfl ?_
  have lp3_7693 : ∀ (mz : Nat) (i7691 : Int32) (J7692 : pJ), fz 74 g [46] J J7692 → 0 ≤ i7691.toInt → i7691.toInt ≤ 3 → (GRW (J (ad g 46)) (J7692 (ad g 46))) → (SPD (I (ad g 44)) (J7692 (ad g 46)) co st.toInt i7691.toInt 0 0) → (4 - i7691.toInt).toNat < mz → WP g mX2_spend 3 [(0, .ref (ad g 43)), (1, .long co), (3, .int st), (4, .int mf), (5, .int i7691)] [] I J7692 R (fun r I' J' R' => (I' = I ∧ R' = R ∧ fz 74 g [46] J J' ∧ GRW (J (ad g 46)) (J' (ad g 46)) ∧ (∀ c s f e k l : Int, bt co c → ACT (I (ad g 44)) st.toInt c s f e k l → bt (J' (ad g 46) k.toNat) l)) ∧ r = none) := by
    intro mz
    induction mz with
    | zero =>
      intro i7691 J7692 fjJ7692 ai7691 bi7691 PG_I_7692 PD_I_7692 hmlp3_7693
      exact absurd hmlp3_7693 (Nat.not_lt_zero _)
    | succ mz ihlp3_7693 =>
      intro i7691 J7692 fjJ7692 ai7691 bi7691 PG_I_7692 PD_I_7692 hmlp3_7693
      refine WP_iload dX2_spend_3 rfl ?_
      refine WP_aload_n dX2_spend_5 rfl ?_
      refine WP_getr dX2_spend_6 fX2_12 rfl (lyx_is hy 43 2 rfl) (rfx hr 43 3 44 (by decide)) ?_
      refine WQ_geti dX2_spend_9 fX2_92 rfl (lyx_is hy 44 6 rfl) (BT_get hI.1 44 6 7 (0) (0) (2) (by decide) 6 (by decide) (by decide)) (fun v7695 ev7695 av7695 bv7695 => ?_)
      refine WQ_icmp_gt 128 dX2_spend_12 rfl (fun c7695 => ?_) (fun c7695 => ?_)
      · exact WP_vret dX2_spend_128 rfl ⟨⟨rfl, rfl, fjJ7692, ⟨PG_I_7692, SPD_end PD_I_7692 (by rw [ev7695]; omega)⟩⟩, rfl⟩
      · refine WQ_iconst (0) (0) dX2_spend_15 rfl rfl (fun v7697 hv7697 => ?_)
        refine WP_istore (ls' := [(0, _), (1, _), (3, _), (4, _), (5, _), (6, _)]) dX2_spend_16 (by decide) rfl ?_
        have lp18_7700 : ∀ (mz : Nat) (i7698 : Int32) (J7699 : pJ), fz 74 g [46] J J7699 → 0 ≤ i7698.toInt → i7698.toInt ≤ 4 → (GRW (J (ad g 46)) (J7699 (ad g 46))) → (SPD (I (ad g 44)) (J7699 (ad g 46)) co st.toInt i7691.toInt i7698.toInt 0) → (5 - i7698.toInt).toNat < mz → WP g mX2_spend 18 [(0, .ref (ad g 43)), (1, .long co), (3, .int st), (4, .int mf), (5, .int i7691), (6, .int i7698)] [] I J7699 R (fun r I' J' R' => (I' = I ∧ R' = R ∧ fz 74 g [46] J J' ∧ GRW (J (ad g 46)) (J' (ad g 46)) ∧ (∀ c s f e k l : Int, bt co c → ACT (I (ad g 44)) st.toInt c s f e k l → bt (J' (ad g 46) k.toNat) l)) ∧ r = none) := by
          intro mz
          induction mz with
          | zero =>
            intro i7698 J7699 fjJ7699 ai7698 bi7698 PG_I_7699 PD_I_7699 hmlp18_7700
            exact absurd hmlp18_7700 (Nat.not_lt_zero _)
          | succ mz ihlp18_7700 =>
            intro i7698 J7699 fjJ7699 ai7698 bi7698 PG_I_7699 PD_I_7699 hmlp18_7700
            refine WP_iload dX2_spend_18 rfl ?_
            refine WP_iload dX2_spend_20 rfl ?_
            refine WQ_icmp_gt 122 dX2_spend_22 rfl (fun c7701 => ?_) (fun c7701 => ?_)
            · refine WP_iinc (ls' := [(0, _), (1, _), (3, _), (4, _), (5, _), (6, _)]) dX2_spend_122 rfl (by decide) rfl ?_
              have hv7703 : (i7691 + Int32.ofInt (1)).toInt = i7691.toInt + (1) := ia_n rfl (by omega) (by omega)
              generalize i7691 + Int32.ofInt (1) = v7703 at hv7703 ⊢
              refine WP_goto 3 dX2_spend_125 rfl ?_
              exact WP_sub (fc rfl (fc rfl (fc rfl (fc rfl (fc rfl fn))))) (ihlp3_7693 v7703 J7699 fjJ7699 (by omega) (by omega) PG_I_7699 (SPD_out PD_I_7699 hv7703 (mf := mf.toInt) (by omega) (by rw [ew7688, ew7689]; omega)) (by omega))
            · refine WP_iload_n dX2_spend_25 rfl ?_
              refine WP_iload dX2_spend_26 rfl ?_
              refine WQ_isub dX2_spend_28 (by omega) (by omega) (fun v7704 hv7704 => ?_)
              refine WP_iload dX2_spend_29 rfl ?_
              refine WQ_iadd dX2_spend_31 (by omega) (by omega) (fun v7705 hv7705 => ?_)
              refine WP_istore (ls' := [(0, _), (1, _), (3, _), (4, _), (5, _), (6, _), (7, _)]) dX2_spend_32 (by decide) rfl ?_
              refine WP_aload_n dX2_spend_34 rfl ?_
              refine WP_getr dX2_spend_35 fX2_12 rfl (lyx_is hy 43 2 rfl) (rfx hr 43 3 44 (by decide)) ?_
              refine WQ_geti dX2_spend_38 fX2_95 rfl (lyx_is hy 44 6 rfl) (BT_get hI.1 44 5 6 (0) (0) (3) (by decide) 5 (by decide) (by decide)) (fun v7706 ev7706 av7706 bv7706 => ?_)
              refine WP_aload_n dX2_spend_41 rfl ?_
              refine WP_getr dX2_spend_42 fX2_12 rfl (lyx_is hy 43 2 rfl) (rfx hr 43 3 44 (by decide)) ?_
              refine WQ_getim dX2_spend_45 fX2_98 rfl (lyx_is hy 44 6 rfl) ew7689 ?_
              refine WP_iload dX2_spend_48 rfl ?_
              refine WQ_isub dX2_spend_50 (by omega) (by omega) (fun v7707 hv7707 => ?_)
              refine WQ_min dX2_spend_51 lX2_101 ⟨by decide, Nat.le_of_ble_eq_true rfl⟩ (fun v7708 av7708 bv7708 cv7708 => ?_)
              refine WP_istore (ls' := [(0, _), (1, _), (3, _), (4, _), (5, _), (6, _), (7, _), (8, _)]) dX2_spend_54 (by decide) rfl ?_
              refine WP_lload_n dX2_spend_56 rfl ?_
              refine WP_iload dX2_spend_57 rfl ?_
              refine WP_aload_n dX2_spend_59 rfl ?_
              refine WP_getr dX2_spend_60 fX2_12 rfl (lyx_is hy 43 2 rfl) (rfx hr 43 3 44 (by decide)) ?_
              refine WQ_geti dX2_spend_63 fX2_107 rfl (lyx_is hy 44 6 rfl) (BT_get hI.1 44 4 5 (0) (0) (20) (by decide) 4 (by decide) (by decide)) (fun v7709 ev7709 av7709 bv7709 => ?_)
              refine WQ_imulb (2) (20) dX2_spend_66 ⟨by omega, by omega⟩ ⟨by omega, by omega⟩ (by decide) (fun v7710 pv7710 av7710 bv7710 cv7710 => ?_)
              refine WQ_lushrx dX2_spend_67 (by omega) (by omega) (fun l7711 ql7711 => ?_)
              refine WP_lstore (ls' := [(0, _), (1, _), (3, _), (4, _), (5, _), (6, _), (7, _), (8, _), (9, _)]) dX2_spend_68 (by decide) rfl ?_
              refine WQ_iconst (0) (0) dX2_spend_70 rfl rfl (fun v7712 hv7712 => ?_)
              refine WP_istore (ls' := [(0, _), (1, _), (3, _), (4, _), (5, _), (6, _), (7, _), (8, _), (9, _), (11, _)]) dX2_spend_71 (by decide) rfl ?_
              have lp73_7716 : ∀ (mz : Nat) (l7713 : Int64) (i7714 : Int32) (J7715 : pJ), fz 74 g [46] J J7715 → 0 ≤ i7714.toInt → i7714.toInt ≤ 4 → (GRW (J (ad g 46)) (J7715 (ad g 46))) → (SPD (I (ad g 44)) (J7715 (ad g 46)) co st.toInt i7691.toInt i7698.toInt i7714.toInt) → (SLF (I (ad g 44)) co l7713 i7691.toInt i7714.toInt) → (5 - i7714.toInt).toNat < mz → WP g mX2_spend 73 [(0, .ref (ad g 43)), (1, .long co), (3, .int st), (4, .int mf), (5, .int i7691), (6, .int i7698), (7, .int v7705), (8, .int v7708), (9, .long l7713), (11, .int i7714)] [] I J7715 R (fun r I' J' R' => (I' = I ∧ R' = R ∧ fz 74 g [46] J J' ∧ GRW (J (ad g 46)) (J' (ad g 46)) ∧ (∀ c s f e k l : Int, bt co c → ACT (I (ad g 44)) st.toInt c s f e k l → bt (J' (ad g 46) k.toNat) l)) ∧ r = none) := by
                intro mz
                induction mz with
                | zero =>
                  intro l7713 i7714 J7715 fjJ7715 ai7714 bi7714 PG_I_7715 PD_I_7715 PB_I_7715 hmlp73_7716
                  exact absurd hmlp73_7716 (Nat.not_lt_zero _)
                | succ mz ihlp73_7716 =>
                  intro l7713 i7714 J7715 fjJ7715 ai7714 bi7714 PG_I_7715 PD_I_7715 PB_I_7715 hmlp73_7716
                  refine WP_iload dX2_spend_73 rfl ?_
                  refine WQ_iconst (5) (5) dX2_spend_75 rfl rfl (fun v7718 hv7718 => ?_)
                  refine WQ_icmp_gt 116 dX2_spend_76 rfl (fun c7718 => ?_) (fun c7718 => ?_)
                  · refine WP_iinc (ls' := [(0, _), (1, _), (3, _), (4, _), (5, _), (6, _), (7, _), (8, _), (9, _), (11, _)]) dX2_spend_116 rfl (by decide) rfl ?_
                    have hv7720 : (i7698 + Int32.ofInt (1)).toInt = i7698.toInt + (1) := ia_n rfl (by omega) (by omega)
                    generalize i7698 + Int32.ofInt (1) = v7720 at hv7720 ⊢
                    refine WP_goto 18 dX2_spend_119 rfl ?_
                    exact WP_sub (fc rfl (fc rfl (fc rfl (fc rfl (fc rfl (fc rfl fn)))))) (ihlp18_7700 v7720 J7715 fjJ7715 (by omega) (by omega) PG_I_7715 (SPD_mid PD_I_7715 hv7720 (by rw [ev7706, ew7689]; omega)) (by omega))
                  · refine WP_iload dX2_spend_79 rfl ?_
                    refine WP_iload dX2_spend_81 rfl ?_
                    refine WQ_icmp_gt 116 dX2_spend_83 rfl (fun c7720 => ?_) (fun c7720 => ?_)
                    · refine WP_iinc (ls' := [(0, _), (1, _), (3, _), (4, _), (5, _), (6, _), (7, _), (8, _), (9, _), (11, _)]) dX2_spend_116 rfl (by decide) rfl ?_
                      have hv7722 : (i7698 + Int32.ofInt (1)).toInt = i7698.toInt + (1) := ia_n rfl (by omega) (by omega)
                      generalize i7698 + Int32.ofInt (1) = v7722 at hv7722 ⊢
                      refine WP_goto 18 dX2_spend_119 rfl ?_
                      exact WP_sub (fc rfl (fc rfl (fc rfl (fc rfl (fc rfl (fc rfl fn)))))) (ihlp18_7700 v7722 J7715 fjJ7715 (by omega) (by omega) PG_I_7715 (SPD_mid PD_I_7715 hv7722 (by rw [ev7706, ew7689]; omega)) (by omega))
                    · refine WP_aload_n dX2_spend_86 rfl ?_
                      refine WP_getr dX2_spend_87 fX2_22 rfl (lyx_is hy 43 2 rfl) (rfx hr 43 5 46 (by decide)) ?_
                      refine WP_iload dX2_spend_90 rfl ?_
                      refine WP_dup2 dX2_spend_92 rfl rfl ?_
                      refine WQ_laldx dX2_spend_93 (lyx_is hy 46 14 rfl) (lyx_n hy 46 6 rfl) (by omega) (by omega) (fun l7723 el7723 => ?_)
                      refine WP_lload dX2_spend_94 rfl ?_
                      refine WQ_lorx dX2_spend_96 (fun l7724 ql7724 => ?_)
                      refine WQ_last dX2_spend_97 (lyx_is hy 46 14 rfl) (lyx_n hy 46 6 rfl) (by omega) (by omega) (fun J7725 eJ7725 => ?_)
                      have fr7726 : fz 74 g [46] J J7725 := by rw [eJ7725]; exact fzx_pp hy fjJ7715 (by decide) (by decide)
                      have xJ7725 := eJ7725
                      rw [cl (x := v7705) (n := v7705.toInt.toNat) (by omega)] at xJ7725
                      have yJ7725 : ∀ b, bt l7724 b ↔ bt (J7715 (ad g 46) v7705.toInt.toNat) b ∨ bt l7713 b := by rw [el7723]; exact ql7724
                      have GJ7725 := GRW_pp PG_I_7715 xJ7725 yJ7725
                      have DJ7725 := SPD_step PD_I_7715 PB_I_7715 (by omega) xJ7725 yJ7725
                      clear eJ7725
                      refine WP_lload dX2_spend_98 rfl ?_
                      refine WP_aload_n dX2_spend_100 rfl ?_
                      refine WP_getr dX2_spend_101 fX2_12 rfl (lyx_is hy 43 2 rfl) (rfx hr 43 3 44 (by decide)) ?_
                      refine WQ_geti dX2_spend_104 fX2_110 rfl (lyx_is hy 44 6 rfl) (BT_get hI.1 44 3 4 (0) (0) (20) (by decide) 3 (by decide) (by decide)) (fun v7727 ev7727 av7727 bv7727 => ?_)
                      refine WQ_lushrx dX2_spend_107 (by omega) (by omega) (fun l7728 ql7728 => ?_)
                      refine WP_lstore (ls' := [(0, _), (1, _), (3, _), (4, _), (5, _), (6, _), (7, _), (8, _), (9, _), (11, _)]) dX2_spend_108 (by decide) rfl ?_
                      refine WP_iinc (ls' := [(0, _), (1, _), (3, _), (4, _), (5, _), (6, _), (7, _), (8, _), (9, _), (11, _)]) dX2_spend_110 rfl (by decide) rfl ?_
                      have hv7729 : (i7714 + Int32.ofInt (1)).toInt = i7714.toInt + (1) := ia_n rfl (by omega) (by omega)
                      generalize i7714 + Int32.ofInt (1) = v7729 at hv7729 ⊢
                      refine WP_goto 73 dX2_spend_113 rfl ?_
                      exact WP_sub (fc rfl (fc rfl (fc rfl (fc rfl (fc rfl (fc rfl (fc rfl (fc rfl (fc rfl (fc rfl fn)))))))))) (ihlp73_7716 l7728 v7729 J7725 fr7726 (by omega) (by omega) GJ7725 (by rw [hv7729]; exact DJ7725) (SLF_step PB_I_7715 (by rw [ev7727]; omega) ql7728 (by rw [ev7727]) hv7729) (by omega))
              exact WP_sub (fc rfl (fc rfl (fc rfl (fc rfl (fc rfl (fc rfl (fc rfl (fc rfl (fc rfl (fc rfl fn)))))))))) (lp73_7716 _ l7711 v7712 J7699 fjJ7699 (by omega) (by omega) PG_I_7699 (by rw [hv7712]; exact PD_I_7699) (SLF_0 ql7711 (by rw [ev7709]; exact pv7710) hv7712) (Nat.lt_succ_self _))
        exact WP_sub (fc rfl (fc rfl (fc rfl (fc rfl (fc rfl (fc rfl fn)))))) (lp18_7700 _ v7697 J7692 fjJ7692 (by omega) (by omega) PG_I_7692 (by rw [hv7697]; exact PD_I_7692) (Nat.lt_succ_self _))
  exact WP_sub (fc rfl (fc rfl (fc rfl (fc rfl (fc rfl fn))))) (lp3_7693 _ v7690 J frj0 (by omega) (by omega) (fun _ _ h => h) (SPD_0 hv7690) (Nat.lt_succ_self _))
set_option maxHeartbeats 4000000 in
set_option maxRecDepth 100000 in
theorem sx_spreadx {g : GG} {n : Int} {L : Int32} (hy : LyX g)  {I : pI} {J : pJ} {R : pR} (hr : RfX g R) (hI : XI g n L I) (ea : Int32) (ah : Int32) (ea_lo : 0 ≤ ea.toInt) (ea_hi : ea.toInt ≤ 20) (ah_lo : 0 ≤ ah.toInt) (ah_hi : ah.toInt ≤ 27) : SP g mX2_spread [.ref (ad g 43), .int ea, .int ah] I J R (fun r I' J' R' => (I' = I ∧ R' = R ∧ fz 74 g [46] J J' ∧ SRD (I (ad g 44)) (J (ad g 45)) (J' (ad g 46)) ah.toInt ea.toInt 6) ∧ r = none) := by
  refine SP_of ⟨by decide, rfl⟩ (Nat.le_of_ble_eq_true rfl) ?_
  have e7730 : I (ad g 1) 1 = L := hI.2
  have b7731 := BT_get hI.1 1 1 2 (0) (0) (900) (by decide) 1 (by decide) (by decide)
  rw [e7730] at b7731
  have frj0 : fz 74 g [46] J J := fz_rf
  refine WP_aload_n dX2_spread_0 rfl ?_
  refine WP_getr dX2_spread_1 fX2_22 rfl (lyx_is hy 43 2 rfl) (rfx hr 43 5 46 (by decide)) ?_
  refine WP_lconst (0) dX2_spread_4 rfl ?_
  obtain ⟨l7732, hl7732, el7732⟩ : ∃ v : Int64, v.toInt = 0 ∧ (0 : Int64) = v := ⟨_, rfl, rfl⟩
  rw [el7732]; clear el7732
  refine WP_callS2 dX2_spread_5 ⟨⟨⟨by decide, by decide⟩, zJ7_fill_d0a16⟩, lX2_36, tJ7_fill_d0a16⟩ (sx_fillJx_46 hy hr hI l7732 ) (Nat.le_of_ble_eq_true rfl) ?_
  intro r Ia J7733 Ra hq
  obtain ⟨⟨ea, ec, fjJ7733, pJ7733⟩, rfl⟩ := hq
  rw [ea, ec]
  clear ea ec Ia Ra
  have fr7734 : fz 74 g [46] J J7733 := fz_tr frj0 (fz_mono fjJ7733 (by decide))
  refine WQ_iconst (0) (0) dX2_spread_8 rfl rfl (fun v7735 hv7735 => ?_)
  refine WP_istore_n (ls' := [(0, _), (1, _), (2, _), (3, _)]) dX2_spread_9 (by decide) rfl ?_
  have lp10_7738 : ∀ (mz : Nat) (i7736 : Int32) (J7737 : pJ), fz 74 g [46] J J7737 → 0 ≤ i7736.toInt → i7736.toInt ≤ 6 → (SRD (I (ad g 44)) (J (ad g 45)) (J7737 (ad g 46)) ah.toInt ea.toInt i7736.toInt) → (7 - i7736.toInt).toNat < mz → WP g mX2_spread 10 [(0, .ref (ad g 43)), (1, .int ea), (2, .int ah), (3, .int i7736)] [] I J7737 R (fun r I' J' R' => (I' = I ∧ R' = R ∧ fz 74 g [46] J J' ∧ SRD (I (ad g 44)) (J (ad g 45)) (J' (ad g 46)) ah.toInt ea.toInt 6) ∧ r = none) := by
    intro mz
    induction mz with
    | zero =>
      intro i7736 J7737 fjJ7737 ai7736 bi7736 PA_I_7737 hmlp10_7738
      exact absurd hmlp10_7738 (Nat.not_lt_zero _)
    | succ mz ihlp10_7738 =>
      intro i7736 J7737 fjJ7737 ai7736 bi7736 PA_I_7737 hmlp10_7738
      refine WP_iload_n dX2_spread_10 rfl ?_
      refine WQ_bipush (6) (6) dX2_spread_11 rfl rfl (fun v7740 hv7740 => ?_)
      refine WQ_icmp_ge 61 dX2_spread_13 rfl (fun c7740 => ?_) (fun c7740 => ?_)
      · exact WP_vret dX2_spread_61 rfl ⟨⟨rfl, rfl, fjJ7737, (by rw [show (6 : Int) = i7736.toInt by omega]; exact PA_I_7737)⟩, rfl⟩
      · refine WP_aload_n dX2_spread_16 rfl ?_
        refine WP_getr dX2_spread_17 fX2_18 rfl (lyx_is hy 43 2 rfl) (rfx hr 43 4 45 (by decide)) ?_
        refine WP_iload_n dX2_spread_20 rfl ?_
        refine WQ_bipush (6) (6) dX2_spread_21 rfl rfl (fun v7742 hv7742 => ?_)
        refine WQ_imulk (6) dX2_spread_23 hv7742 (by omega) (by omega) (fun v7743 hv7743 => ?_)
        refine WP_iload_n dX2_spread_24 rfl ?_
        refine WQ_iadd dX2_spread_25 (by omega) (by omega) (fun v7744 hv7744 => ?_)
        refine WQ_laldx dX2_spread_26 (lyx_is hy 45 14 rfl) (lyx_n hy 45 168 rfl) (by omega) (by omega) (fun l7745 el7745 => ?_)
        refine WP_lstore (ls' := [(0, _), (1, _), (2, _), (3, _), (4, _)]) dX2_spread_27 (by decide) rfl ?_
        refine WP_lload dX2_spread_29 rfl ?_
        refine WP_lconst (0) dX2_spread_31 rfl ?_
        obtain ⟨l7746, hl7746, el7746⟩ : ∃ v : Int64, v.toInt = 0 ∧ (0 : Int64) = v := ⟨_, rfl, rfl⟩
        rw [el7746]; clear el7746
        refine WQ_lcmp dX2_spread_32 (fun v7747 av7747 bv7747 => ?_)
        refine WQ_if_eq 55 dX2_spread_33 rfl (fun c7747 => ?_) (fun c7747 => ?_)
        · refine WP_iinc (ls' := [(0, _), (1, _), (2, _), (3, _), (4, _)]) dX2_spread_55 rfl (by decide) rfl ?_
          have hv7749 : (i7736 + Int32.ofInt (1)).toInt = i7736.toInt + (1) := ia_n rfl (by omega) (by omega)
          generalize i7736 + Int32.ofInt (1) = v7749 at hv7749 ⊢
          refine WP_goto 10 dX2_spread_58 rfl ?_
          exact WP_sub (fc rfl (fc rfl (fc rfl (fc rfl fn)))) (ihlp10_7738 v7749 J7737 fjJ7737 (by omega) (by omega) (SRD_skip PA_I_7737 (had := l7745) (by rw [← fz_at fjJ7737 45 (by decide) (by decide), show (6 * ah.toInt + i7736.toInt).toNat = v7744.toInt.toNat by omega]; exact el7745) (by omega) hv7749) (by omega))
        · refine WP_aload_n dX2_spread_36 rfl ?_
          refine WP_lload dX2_spread_37 rfl ?_
          refine WP_iload_n dX2_spread_39 rfl ?_
          refine WP_callS2 dX2_spread_40 ⟨⟨⟨by decide, by decide⟩, zX2_withEarned⟩, lX2_78, tX2_withEarned⟩ (sx_wex hy hr hI l7745 ea (by omega) (by omega)) (Nat.le_of_ble_eq_true rfl) ?_
          intro r Ia Ja Ra hq
          obtain ⟨⟨ea, eb, ec⟩, l7750, rfl, ql7750⟩ := hq
          show WP _ _ _ _ (.long _ :: _) _ _ _ _
          rw [ea, eb, ec]
          clear ea eb ec Ia Ja Ra
          refine WP_iload_n dX2_spread_43 rfl ?_
          refine WP_aload_n dX2_spread_44 rfl ?_
          refine WP_getr dX2_spread_45 fX2_12 rfl (lyx_is hy 43 2 rfl) (rfx hr 43 3 44 (by decide)) ?_
          refine WP_iload_n dX2_spread_48 rfl ?_
          refine WP_callV1 (k := 6) dX2_spread_49 ⟨⟨⟨by decide, by decide⟩, zX6_mostFromStore⟩, lX2_82, by decide, rfl, vX6_mostFromStore.1, vX6_mostFromStore.2⟩ (lyx_is hy 44 6 rfl) (sx_mfx hy hr hI i7736 (by omega) (by omega)) (Nat.le_of_ble_eq_true rfl) ?_
          intro r Ia Ja Ra hq
          obtain ⟨⟨ea, eb, ec⟩, v7751, rfl, av7751, bv7751, cv7751⟩ := hq
          show WP _ _ _ _ (.int _ :: _) _ _ _ _
          rw [ea, eb, ec]
          clear ea eb ec Ia Ja Ra
          obtain ⟨w7752, ew7752⟩ : ∃ w : Int32, I (ad g 44) 7 = w := ⟨_, rfl⟩
          have bw7752 := BT_get hI.1 44 7 8 (0) (0) (1) (by decide) 7 (by decide) (by decide)
          rw [ew7752] at bw7752
          rw [ew7752] at cv7751
          obtain ⟨w7753, ew7753⟩ : ∃ w : Int32, I (ad g 44) 1 = w := ⟨_, rfl⟩
          have bw7753 := BT_get hI.1 44 1 2 (0) (0) (3) (by decide) 1 (by decide) (by decide)
          rw [ew7753] at bw7753
          rw [ew7753] at cv7751
          refine WP_callV3 (k := 2) dX2_spread_52 ⟨⟨⟨by decide, by decide⟩, zX2_spend⟩, lX2_86, by decide, rfl, vX2_spend.1, vX2_spend.2⟩ (lyx_is hy 43 2 rfl) (sx_spendx hy hr hI l7750 i7736 v7751 (by omega) (by omega) (by omega) (by omega) (by rw [ew7752, ew7753]; omega)) (Nat.le_of_ble_eq_true rfl) ?_
          intro r Ia J7754 Ra hq
          obtain ⟨⟨ea, ec, fjJ7754, pJ7754⟩, rfl⟩ := hq
          rw [ea, ec]
          clear ea ec Ia Ra
          have fr7755 : fz 74 g [46] J J7754 := fz_tr fjJ7737 (fz_mono fjJ7754 (by decide))
          have AJ7754 := SRD_step PA_I_7737 pJ7754.1 pJ7754.2 (by rw [← fz_at fjJ7737 45 (by decide) (by decide), show (6 * ah.toInt + i7736.toInt).toNat = v7744.toInt.toNat by omega]; exact el7745) ql7750
          refine WP_iinc (ls' := [(0, _), (1, _), (2, _), (3, _), (4, _)]) dX2_spread_55 rfl (by decide) rfl ?_
          have hv7756 : (i7736 + Int32.ofInt (1)).toInt = i7736.toInt + (1) := ia_n rfl (by omega) (by omega)
          generalize i7736 + Int32.ofInt (1) = v7756 at hv7756 ⊢
          refine WP_goto 10 dX2_spread_58 rfl ?_
          exact WP_sub (fc rfl (fc rfl (fc rfl (fc rfl fn)))) (ihlp10_7738 v7756 J7754 fr7755 (by omega) (by omega) (by rw [hv7756]; exact AJ7754) (by omega))
  exact WP_sub (fc rfl (fc rfl (fc rfl (fc rfl fn)))) (lp10_7738 _ v7735 J7733 fr7734 (by omega) (by omega) (SRD_0 hv7735) (Nat.lt_succ_self _))
set_option maxHeartbeats 4000000 in
set_option maxRecDepth 100000 in
theorem sx_psleepx {g : GG} {n : Int} {L : Int32} (hy : LyX g)  {I : pI} {J : pJ} {R : pR} (hr : RfX g R) (hI : XI g n L I) (da : Int32) (ah : Int32) (da_lo : 0 ≤ da.toInt) (da_hi : da.toInt ≤ 6) (ah_lo : 0 ≤ ah.toInt) (ah_hi : ah.toInt ≤ 27) : SP g mX2_sleep [.ref (ad g 43), .int da, .int ah] I J R (fun r I' J' R' => (I' = I ∧ R' = R ∧ fz 74 g [45] J J' ∧ SLP (J (ad g 46)) (J' (ad g 45)) (I (ad g 24)) (I (ad g 25)) (I (ad g 26)) ah.toInt da.toInt 6 0 ∧ OUT (J (ad g 45)) (J' (ad g 45)) ah.toInt) ∧ r = none) := by
  refine SP_of ⟨by decide, rfl⟩ (Nat.le_of_ble_eq_true rfl) ?_
  have e7757 : I (ad g 1) 1 = L := hI.2
  have b7758 := BT_get hI.1 1 1 2 (0) (0) (900) (by decide) 1 (by decide) (by decide)
  rw [e7757] at b7758
  have frj0 : fz 74 g [45] J J := fz_rf
  refine WQ_iconst (0) (0) dX2_sleep_0 rfl rfl (fun v7759 hv7759 => ?_)
  refine WP_istore_n (ls' := [(0, _), (1, _), (2, _), (3, _)]) dX2_sleep_1 (by decide) rfl ?_
  have lp2_7762 : ∀ (mz : Nat) (i7760 : Int32) (J7761 : pJ), fz 74 g [45] J J7761 → 0 ≤ i7760.toInt → i7760.toInt ≤ 6 → (OUT (J (ad g 45)) (J7761 (ad g 45)) ah.toInt) → (SLP (J (ad g 46)) (J7761 (ad g 45)) (I (ad g 24)) (I (ad g 25)) (I (ad g 26)) ah.toInt da.toInt i7760.toInt 0) → (7 - i7760.toInt).toNat < mz → WP g mX2_sleep 2 [(0, .ref (ad g 43)), (1, .int da), (2, .int ah), (3, .int i7760)] [] I J7761 R (fun r I' J' R' => (I' = I ∧ R' = R ∧ fz 74 g [45] J J' ∧ SLP (J (ad g 46)) (J' (ad g 45)) (I (ad g 24)) (I (ad g 25)) (I (ad g 26)) ah.toInt da.toInt 6 0 ∧ OUT (J (ad g 45)) (J' (ad g 45)) ah.toInt) ∧ r = none) := by
    intro mz
    induction mz with
    | zero =>
      intro i7760 J7761 fjJ7761 ai7760 bi7760 PO_I_7761 PS_I_7761 hmlp2_7762
      exact absurd hmlp2_7762 (Nat.not_lt_zero _)
    | succ mz ihlp2_7762 =>
      intro i7760 J7761 fjJ7761 ai7760 bi7760 PO_I_7761 PS_I_7761 hmlp2_7762
      refine WP_iload_n dX2_sleep_2 rfl ?_
      refine WQ_bipush (6) (6) dX2_sleep_3 rfl rfl (fun v7764 hv7764 => ?_)
      refine WQ_icmp_ge 99 dX2_sleep_5 rfl (fun c7764 => ?_) (fun c7764 => ?_)
      · exact WP_vret dX2_sleep_99 rfl ⟨⟨rfl, rfl, fjJ7761, ⟨by rw [show (6 : Int) = i7760.toInt by omega]; exact PS_I_7761, PO_I_7761⟩⟩, rfl⟩
      · refine WP_aload_n dX2_sleep_8 rfl ?_
        refine WP_getr dX2_sleep_9 fX2_22 rfl (lyx_is hy 43 2 rfl) (rfx hr 43 5 46 (by decide)) ?_
        refine WP_iload_n dX2_sleep_12 rfl ?_
        refine WQ_laldx dX2_sleep_13 (lyx_is hy 46 14 rfl) (lyx_n hy 46 6 rfl) (by omega) (by omega) (fun l7766 el7766 => ?_)
        refine WP_lstore (ls' := [(0, _), (1, _), (2, _), (3, _), (4, _)]) dX2_sleep_14 (by decide) rfl ?_
        refine WP_iload_n dX2_sleep_16 rfl ?_
        refine WQ_bipush (6) (6) dX2_sleep_17 rfl rfl (fun v7767 hv7767 => ?_)
        refine WQ_imulk (6) dX2_sleep_19 hv7767 (by omega) (by omega) (fun v7768 hv7768 => ?_)
        refine WP_aload_n dX2_sleep_20 rfl ?_
        refine WP_getr dX2_sleep_21 fX2_32 rfl (lyx_is hy 43 2 rfl) (rfx hr 43 2 5 (by decide)) ?_
        refine WP_getr dX2_sleep_24 fX2_113 rfl (lyx_is hy 5 0 rfl) (rfx hr 5 5 26 (by decide)) ?_
        refine WP_iload_n dX2_sleep_27 rfl ?_
        refine WQ_iald dX2_sleep_28 (lyx_is hy 26 13 rfl) (lyx_n hy 26 6 rfl) (by omega) (by omega) (fun q hq => BT_get hI.1 26 0 6 (0) (0) (5) (by decide) q (Nat.zero_le _) hq) (fun v7769 av7769 bv7769 ev7769 => ?_)
        refine WQ_iadd dX2_sleep_29 (by omega) (by omega) (fun v7770 hv7770 => ?_)
        refine WP_istore (ls' := [(0, _), (1, _), (2, _), (3, _), (4, _), (6, _)]) dX2_sleep_30 (by decide) rfl ?_
        refine WQ_iconst (0) (0) dX2_sleep_32 rfl rfl (fun v7771 hv7771 => ?_)
        refine WP_istore (ls' := [(0, _), (1, _), (2, _), (3, _), (4, _), (6, _), (7, _)]) dX2_sleep_33 (by decide) rfl ?_
        have lp35_7774 : ∀ (mz : Nat) (i7772 : Int32) (J7773 : pJ), fz 74 g [45] J J7773 → 0 ≤ i7772.toInt → i7772.toInt ≤ 61 → (OUT (J (ad g 45)) (J7773 (ad g 45)) ah.toInt) → (SLP (J (ad g 46)) (J7773 (ad g 45)) (I (ad g 24)) (I (ad g 25)) (I (ad g 26)) ah.toInt da.toInt i7760.toInt i7772.toInt) → (62 - i7772.toInt).toNat < mz → WP g mX2_sleep 35 [(0, .ref (ad g 43)), (1, .int da), (2, .int ah), (3, .int i7760), (4, .long l7766), (6, .int v7770), (7, .int i7772)] [] I J7773 R (fun r I' J' R' => (I' = I ∧ R' = R ∧ fz 74 g [45] J J' ∧ SLP (J (ad g 46)) (J' (ad g 45)) (I (ad g 24)) (I (ad g 25)) (I (ad g 26)) ah.toInt da.toInt 6 0 ∧ OUT (J (ad g 45)) (J' (ad g 45)) ah.toInt) ∧ r = none) := by
          intro mz
          induction mz with
          | zero =>
            intro i7772 J7773 fjJ7773 ai7772 bi7772 PO_I_7773 PS_I_7773 hmlp35_7774
            exact absurd hmlp35_7774 (Nat.not_lt_zero _)
          | succ mz ihlp35_7774 =>
            intro i7772 J7773 fjJ7773 ai7772 bi7772 PO_I_7773 PS_I_7773 hmlp35_7774
            refine WP_iload dX2_sleep_35 rfl ?_
            refine WQ_bipush (61) (61) dX2_sleep_37 rfl rfl (fun v7776 hv7776 => ?_)
            refine WQ_icmp_ge 93 dX2_sleep_39 rfl (fun c7776 => ?_) (fun c7776 => ?_)
            · refine WP_iinc (ls' := [(0, _), (1, _), (2, _), (3, _), (4, _), (6, _), (7, _)]) dX2_sleep_93 rfl (by decide) rfl ?_
              have hv7778 : (i7760 + Int32.ofInt (1)).toInt = i7760.toInt + (1) := ia_n rfl (by omega) (by omega)
              generalize i7760 + Int32.ofInt (1) = v7778 at hv7778 ⊢
              refine WP_goto 2 dX2_sleep_96 rfl ?_
              exact WP_sub (fc rfl (fc rfl (fc rfl (fc rfl fn)))) (ihlp2_7762 v7778 J7773 fjJ7773 (by omega) (by omega) PO_I_7773 (SLP_next PS_I_7773 hv7778 (by omega)) (by omega))
            · refine WP_lload dX2_sleep_42 rfl ?_
              refine WP_iload dX2_sleep_44 rfl ?_
              refine WQ_lushrx dX2_sleep_46 (by omega) (by omega) (fun l7779 ql7779 => ?_)
              refine WP_lconst (0) dX2_sleep_47 rfl ?_
              obtain ⟨l7780, hl7780, el7780⟩ : ∃ v : Int64, v.toInt = 0 ∧ (0 : Int64) = v := ⟨_, rfl, rfl⟩
              rw [el7780]; clear el7780
              refine WQ_lcmp dX2_sleep_48 (fun v7781 av7781 bv7781 => ?_)
              refine WQ_if_eq 93 dX2_sleep_49 rfl (fun c7781 => ?_) (fun c7781 => ?_)
              · refine WP_iinc (ls' := [(0, _), (1, _), (2, _), (3, _), (4, _), (6, _), (7, _)]) dX2_sleep_93 rfl (by decide) rfl ?_
                have hv7783 : (i7760 + Int32.ofInt (1)).toInt = i7760.toInt + (1) := ia_n rfl (by omega) (by omega)
                generalize i7760 + Int32.ofInt (1) = v7783 at hv7783 ⊢
                refine WP_goto 2 dX2_sleep_96 rfl ?_
                exact WP_sub (fc rfl (fc rfl (fc rfl (fc rfl fn)))) (ihlp2_7762 v7783 J7773 fjJ7773 (by omega) (by omega) PO_I_7773 (SLP_exit PS_I_7773 hv7783 (by rw [← fz_at fjJ7761 46 (by decide) (by decide)]; exact el7766) ql7779 (by omega)) (by omega))
              · refine WP_lload dX2_sleep_52 rfl ?_
                refine WP_iload dX2_sleep_54 rfl ?_
                refine WQ_lushrx dX2_sleep_56 (by omega) (by omega) (fun l7784 ql7784 => ?_)
                refine WP_lconst (1) dX2_sleep_57 rfl ?_
                obtain ⟨l7785, hl7785, el7785⟩ : ∃ v : Int64, v.toInt = 1 ∧ (1 : Int64) = v := ⟨_, rfl, rfl⟩
                rw [el7785]; clear el7785
                refine WQ_land1 dX2_sleep_58 hl7785 (fun l7786 ql7786 => ?_)
                refine WP_lconst (0) dX2_sleep_59 rfl ?_
                obtain ⟨l7787, hl7787, el7787⟩ : ∃ v : Int64, v.toInt = 0 ∧ (0 : Int64) = v := ⟨_, rfl, rfl⟩
                rw [el7787]; clear el7787
                refine WQ_lcmp dX2_sleep_60 (fun v7788 av7788 bv7788 => ?_)
                refine WQ_if_eq 87 dX2_sleep_61 rfl (fun c7788 => ?_) (fun c7788 => ?_)
                · refine WP_iinc (ls' := [(0, _), (1, _), (2, _), (3, _), (4, _), (6, _), (7, _)]) dX2_sleep_87 rfl (by decide) rfl ?_
                  have hv7790 : (i7772 + Int32.ofInt (1)).toInt = i7772.toInt + (1) := ia_n rfl (by omega) (by omega)
                  generalize i7772 + Int32.ofInt (1) = v7790 at hv7790 ⊢
                  refine WP_goto 35 dX2_sleep_90 rfl ?_
                  exact WP_sub (fc rfl (fc rfl (fc rfl (fc rfl (fc rfl (fc rfl (fc rfl fn))))))) (ihlp35_7774 v7790 J7773 fjJ7773 (by omega) (by omega) PO_I_7773 (SLP_skip PS_I_7773 (by rw [← fz_at fjJ7761 46 (by decide) (by decide)]; exact el7766) ((bt_z ql7786 ql7784).mp (by omega)) hv7790) (by omega))
                · refine WP_aload_n dX2_sleep_64 rfl ?_
                  refine WP_getr dX2_sleep_65 fX2_18 rfl (lyx_is hy 43 2 rfl) (rfx hr 43 4 45 (by decide)) ?_
                  refine WP_iload dX2_sleep_68 rfl ?_
                  refine WP_dup2 dX2_sleep_70 rfl rfl ?_
                  refine WQ_laldx dX2_sleep_71 (lyx_is hy 45 14 rfl) (lyx_n hy 45 168 rfl) (by omega) (by omega) (fun l7791 el7791 => ?_)
                  refine WP_lconst (1) dX2_sleep_72 rfl ?_
                  obtain ⟨l7792, hl7792, el7792⟩ : ∃ v : Int64, v.toInt = 1 ∧ (1 : Int64) = v := ⟨_, rfl, rfl⟩
                  rw [el7792]; clear el7792
                  refine WP_aload_n dX2_sleep_73 rfl ?_
                  refine WP_getr dX2_sleep_74 fX2_32 rfl (lyx_is hy 43 2 rfl) (rfx hr 43 2 5 (by decide)) ?_
                  refine WP_iload dX2_sleep_77 rfl ?_
                  refine WP_iload_n dX2_sleep_79 rfl ?_
                  refine WP_iload_n dX2_sleep_80 rfl ?_
                  refine WP_callV3 (k := 0) dX2_sleep_81 ⟨⟨⟨by decide, by decide⟩, zX0_coinsBehind⟩, lX2_116, by decide, rfl, vX0_coinsBehind.1, vX0_coinsBehind.2⟩ (lyx_is hy 5 0 rfl) (sx_cbx hy hr hI i7772 i7760 da (by omega) (by omega) (by omega) (by omega) (by omega) (by omega)) (Nat.le_of_ble_eq_true rfl) ?_
                  intro r Ia Ja Ra hq
                  obtain ⟨⟨ea, eb, ec⟩, v7793, rfl, av7793, bv7793, cv7793⟩ := hq
                  show WP _ _ _ _ (.int _ :: _) _ _ _ _
                  rw [ea, eb, ec]
                  clear ea eb ec Ia Ja Ra
                  refine WQ_lshl1 dX2_sleep_84 hl7792 (by omega) (by omega) (fun l7794 ql7794 => ?_)
                  refine WQ_lorx dX2_sleep_85 (fun l7795 ql7795 => ?_)
                  refine WQ_last dX2_sleep_86 (lyx_is hy 45 14 rfl) (lyx_n hy 45 168 rfl) (by omega) (by omega) (fun J7796 eJ7796 => ?_)
                  have fr7797 : fz 74 g [45] J J7796 := by rw [eJ7796]; exact fzx_pp hy fjJ7773 (by decide) (by decide)
                  have xJ7796 := eJ7796
                  rw [cl (x := v7770) (n := v7770.toInt.toNat) (by omega)] at xJ7796
                  have yJ7796 : ∀ b, bt l7795 b ↔ bt (J7773 (ad g 45) v7770.toInt.toNat) b ∨ bt l7794 b := by rw [el7791]; exact ql7795
                  have OJ7796 := OUT_pp (ah := ah.toInt) (sb := v7769.toInt) PO_I_7773 xJ7796 (by omega) (by omega) (by omega)
                  have SJ7796 := SLP_step PS_I_7773 xJ7796 yJ7796 ql7794 (by unfold SB; rw [← cl (x := i7760) (n := i7760.toInt.toNat) (by omega), ev7769]; omega) cv7793 (by omega)
                  clear eJ7796
                  refine WP_iinc (ls' := [(0, _), (1, _), (2, _), (3, _), (4, _), (6, _), (7, _)]) dX2_sleep_87 rfl (by decide) rfl ?_
                  have hv7798 : (i7772 + Int32.ofInt (1)).toInt = i7772.toInt + (1) := ia_n rfl (by omega) (by omega)
                  generalize i7772 + Int32.ofInt (1) = v7798 at hv7798 ⊢
                  refine WP_goto 35 dX2_sleep_90 rfl ?_
                  exact WP_sub (fc rfl (fc rfl (fc rfl (fc rfl (fc rfl (fc rfl (fc rfl fn))))))) (ihlp35_7774 v7798 J7796 fr7797 (by omega) (by omega) OJ7796 (by rw [hv7798]; exact SJ7796) (by omega))
        exact WP_sub (fc rfl (fc rfl (fc rfl (fc rfl (fc rfl (fc rfl (fc rfl fn))))))) (lp35_7774 _ v7771 J7761 fjJ7761 (by omega) (by omega) PO_I_7761 (by rw [hv7771]; exact PS_I_7761) (Nat.lt_succ_self _))
  exact WP_sub (fc rfl (fc rfl (fc rfl (fc rfl fn)))) (lp2_7762 _ v7759 J frj0 (by omega) (by omega) OUT_rf (SLP_0 hv7759) (Nat.lt_succ_self _))
