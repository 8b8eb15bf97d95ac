set_option maxHeartbeats 4000000 in
set_option maxRecDepth 100000 in
theorem sx_weighDayx_47_6 {g : GG} {n : Int} {L : Int32} (hy : LyX g)  {I : pI} {J : pJ} {R : pR} (hr : RfX g R) (hT : R (ad g 5) 0 = some (ad g 6)) (hI : XI g n L I) (ea : Int32) (so : Int32) (da : Int32) (ah : Int32) (ea_lo : 0 ≤ ea.toInt) (ea_hi : ea.toInt ≤ 20) (so_lo : 0 ≤ so.toInt) (so_hi : so.toInt ≤ 3) (da_lo : 0 ≤ da.toInt) (da_hi : da.toInt ≤ 6) (ah_lo : 0 ≤ ah.toInt) (ah_hi : ah.toInt ≤ 27) {K : Int} (hK : 0 ≤ K ∧ K ≤ 16038) (hL : R (ad g 43) 7 = some (ad g 47)) (hN : R (ad g 43) 6 = some (ad g 48)) (hml : 0 ≤ (I (ad g 43) 8).toInt ∧ (I (ad g 43) 8).toInt ≤ K) (hWD : WD (I (ad g 44)) (I (ad g 47)) (I (ad g 24)) (I (ad g 25)) (I (ad g 26)) (J (ad g 45)) K ah.toInt ea.toInt da.toInt) : SP g mX2_weighDay [.ref (ad g 43), .int ea, .int so, .int da, .int ah] I J R (fun r I' J' R' => (XI g n L I' ∧ R' = R ∧ fz 74 g [43, 48] I I' ∧ J' = J ∧ (VIS (J (ad g 45)) ah.toInt 6 0 (FV (I' (ad g 48)) (594 + K)) ∧ VIS (J (ad g 45)) ah.toInt 6 0 (FU (I (ad g 44)) (J (ad g 45)) ah.toInt ea.toInt (I' (ad g 43) 1).toInt))) ∧ ∃ v : Int32, r = some (.int v) ∧ 0 ≤ v.toInt ∧ v.toInt ≤ 17226 ∧ v.toInt ≤ 594 + K) := by
  refine SP_of ⟨by decide, rfl⟩ (Nat.le_of_ble_eq_true rfl) ?_
  have e12061 : I (ad g 1) 1 = L := hI.2
  have b12062 := BT_get hI.1 1 1 2 (0) (0) (900) (by decide) 1 (by decide) (by decide)
  rw [e12061] at b12062
  have fr0 : fz 74 g [43, 48] I I := fz_rf
  obtain ⟨w12063, ew12063⟩ : ∃ w : Int32, I (ad g 43) 8 = w := ⟨_, rfl⟩
  have hml0 := hml
  rw [ew12063] at hml0
  refine WP_aload_n dX2_weighDay_0 rfl ?_
  refine WP_getr dX2_weighDay_1 fX2_32 rfl (lyx_is hy 43 2 rfl) (rfx hr 43 2 5 (by decide)) ?_
  refine WP_getr dX2_weighDay_4 fX2_46 rfl (lyx_is hy 5 0 rfl) hT ?_
  refine WP_getr dX2_weighDay_7 fX2_120 rfl (lyx_is hy 6 7 rfl) (rfx hr 6 7 9 (by decide)) ?_
  refine WP_iload_n dX2_weighDay_10 rfl ?_
  refine WQ_iald dX2_weighDay_11 (lyx_is hy 9 13 rfl) (lyx_n hy 9 4 rfl) (by omega) (by omega) (fun q hq => BT_get hI.1 9 0 4 (0) (0) (1000) (by decide) q (Nat.zero_le _) hq) (fun v12064 av12064 bv12064 ev12064 => ?_)
  refine WP_istore (ls' := [(0, _), (1, _), (2, _), (3, _), (4, _), (5, _)]) dX2_weighDay_12 (by decide) rfl ?_
  refine WQ_iconst (0) (0) dX2_weighDay_14 rfl rfl (fun v12065 hv12065 => ?_)
  refine WP_istore (ls' := [(0, _), (1, _), (2, _), (3, _), (4, _), (5, _), (6, _)]) dX2_weighDay_15 (by decide) rfl ?_
  refine WQ_iconst (0) (0) dX2_weighDay_17 rfl rfl (fun v12066 hv12066 => ?_)
  refine WP_istore (ls' := [(0, _), (1, _), (2, _), (3, _), (4, _), (5, _), (6, _), (7, _)]) dX2_weighDay_18 (by decide) rfl ?_
  have lp20_12072 : ∀ (mz : Nat) (i12067 : Int32) (i12068 : Int32) (I12069 : pI), XI g n L I12069 → fz 74 g [43, 48] I I12069 → ∀ (w12071 : Int32), I12069 (ad g 43) 1 = w12071 → ∀ (w12072 : Int32), I12069 (ad g 43) 8 = w12072 → 0 ≤ i12067.toInt → i12067.toInt ≤ 17226 → 0 ≤ i12068.toInt → i12068.toInt ≤ 6 → i12067.toInt ≤ 594 + K → w12072.toInt = w12063.toInt → (VIS (J (ad g 45)) ah.toInt i12068.toInt 0 (FV (I12069 (ad g 48)) (594 + K))) → (VIS (J (ad g 45)) ah.toInt i12068.toInt 0 (FU (I (ad g 44)) (J (ad g 45)) ah.toInt ea.toInt w12071.toInt)) → (7 - i12068.toInt).toNat < mz → WP g mX2_weighDay 20 [(0, .ref (ad g 43)), (1, .int ea), (2, .int so), (3, .int da), (4, .int ah), (5, .int v12064), (6, .int i12067), (7, .int i12068)] [] I12069 J R (fun r I' J' R' => (XI g n L I' ∧ R' = R ∧ fz 74 g [43, 48] I I' ∧ J' = J ∧ (VIS (J (ad g 45)) ah.toInt 6 0 (FV (I' (ad g 48)) (594 + K)) ∧ VIS (J (ad g 45)) ah.toInt 6 0 (FU (I (ad g 44)) (J (ad g 45)) ah.toInt ea.toInt (I' (ad g 43) 1).toInt))) ∧ ∃ v : Int32, r = some (.int v) ∧ 0 ≤ v.toInt ∧ v.toInt ≤ 17226 ∧ v.toInt ≤ 594 + K) := by
    intro mz
    induction mz with
    | zero =>
      intro i12067 i12068 I12069 hI12069 fiI12069 w12071 ew12071 w12072 ew12072 ai12067 bi12067 ai12068 bi12068 j0_I12069_12069 j1_I12069_12069 PV_I12069_12069 PU_I12069_12069 hmlp20_12072
      exact absurd hmlp20_12072 (Nat.not_lt_zero _)
    | succ mz ihlp20_12072 =>
      intro i12067 i12068 I12069 hI12069 fiI12069 w12071 ew12071 w12072 ew12072 ai12067 bi12067 ai12068 bi12068 j0_I12069_12069 j1_I12069_12069 PV_I12069_12069 PU_I12069_12069 hmlp20_12072
      have bw12071 := BT_get hI12069.1 43 1 2 (0) (0) (47) (by decide) 1 (by decide) (by decide)
      rw [ew12071] at bw12071
      have e12074 : I12069 (ad g 1) 1 = L := hI12069.2
      have b12075 := BT_get hI12069.1 1 1 2 (0) (0) (900) (by decide) 1 (by decide) (by decide)
      rw [e12074] at b12075
      refine WP_iload dX2_weighDay_20 rfl ?_
      refine WQ_bipush (6) (6) dX2_weighDay_22 rfl rfl (fun v12076 hv12076 => ?_)
      refine WQ_icmp_ge 146 dX2_weighDay_24 rfl (fun c12076 => ?_) (fun c12076 => ?_)
      · refine WP_iload dX2_weighDay_146 rfl ?_
        exact WP_iret dX2_weighDay_148 rfl ⟨⟨hI12069, rfl, fiI12069, rfl, ⟨by rw [show (6 : Int) = i12068.toInt by omega]; exact PV_I12069_12069, by rw [show (6 : Int) = i12068.toInt by omega, ew12071]; exact PU_I12069_12069⟩⟩, _, rfl, by omega, by omega, by omega⟩
      · refine WP_aload_n dX2_weighDay_27 rfl ?_
        refine WP_getr dX2_weighDay_28 fX2_18 rfl (lyx_is hy 43 2 rfl) (rfx hr 43 4 45 (by decide)) ?_
        refine WP_iload dX2_weighDay_31 rfl ?_
        refine WQ_bipush (6) (6) dX2_weighDay_33 rfl rfl (fun v12078 hv12078 => ?_)
        refine WQ_imulk (6) dX2_weighDay_35 hv12078 (by omega) (by omega) (fun v12079 hv12079 => ?_)
        refine WP_iload dX2_weighDay_36 rfl ?_
        refine WQ_iadd dX2_weighDay_38 (by omega) (by omega) (fun v12080 hv12080 => ?_)
        refine WQ_laldx dX2_weighDay_39 (lyx_is hy 45 14 rfl) (lyx_n hy 45 168 rfl) (by omega) (by omega) (fun l12081 el12081 => ?_)
        refine WP_lstore (ls' := [(0, _), (1, _), (2, _), (3, _), (4, _), (5, _), (6, _), (7, _), (8, _)]) dX2_weighDay_40 (by decide) rfl ?_
        refine WQ_iconst (0) (0) dX2_weighDay_42 rfl rfl (fun v12082 hv12082 => ?_)
        refine WP_istore (ls' := [(0, _), (1, _), (2, _), (3, _), (4, _), (5, _), (6, _), (7, _), (8, _), (10, _)]) dX2_weighDay_43 (by decide) rfl ?_
        have lp45_12088 : ∀ (mz : Nat) (i12083 : Int32) (i12084 : Int32) (I12085 : pI), XI g n L I12085 → fz 74 g [43, 48] I I12085 → ∀ (w12087 : Int32), I12085 (ad g 43) 1 = w12087 → ∀ (w12088 : Int32), I12085 (ad g 43) 8 = w12088 → 0 ≤ i12083.toInt → i12083.toInt ≤ 17226 → 0 ≤ i12084.toInt → i12084.toInt ≤ 61 → i12083.toInt ≤ 594 + K → w12088.toInt = w12063.toInt → (VIS (J (ad g 45)) ah.toInt i12068.toInt i12084.toInt (FV (I12085 (ad g 48)) (594 + K))) → (VIS (J (ad g 45)) ah.toInt i12068.toInt i12084.toInt (FU (I (ad g 44)) (J (ad g 45)) ah.toInt ea.toInt w12087.toInt)) → (62 - i12084.toInt).toNat < mz → WP g mX2_weighDay 45 [(0, .ref (ad g 43)), (1, .int ea), (2, .int so), (3, .int da), (4, .int ah), (5, .int v12064), (6, .int i12083), (7, .int i12068), (8, .long l12081), (10, .int i12084)] [] I12085 J R (fun r I' J' R' => (XI g n L I' ∧ R' = R ∧ fz 74 g [43, 48] I I' ∧ J' = J ∧ (VIS (J (ad g 45)) ah.toInt 6 0 (FV (I' (ad g 48)) (594 + K)) ∧ VIS (J (ad g 45)) ah.toInt 6 0 (FU (I (ad g 44)) (J (ad g 45)) ah.toInt ea.toInt (I' (ad g 43) 1).toInt))) ∧ ∃ v : Int32, r = some (.int v) ∧ 0 ≤ v.toInt ∧ v.toInt ≤ 17226 ∧ v.toInt ≤ 594 + K) := by
          intro mz
          induction mz with
          | zero =>
            intro i12083 i12084 I12085 hI12085 fiI12085 w12087 ew12087 w12088 ew12088 ai12083 bi12083 ai12084 bi12084 j0_I12085_12085 j1_I12085_12085 PV_I12085_12085 PU_I12085_12085 hmlp45_12088
            exact absurd hmlp45_12088 (Nat.not_lt_zero _)
          | succ mz ihlp45_12088 =>
            intro i12083 i12084 I12085 hI12085 fiI12085 w12087 ew12087 w12088 ew12088 ai12083 bi12083 ai12084 bi12084 j0_I12085_12085 j1_I12085_12085 PV_I12085_12085 PU_I12085_12085 hmlp45_12088
            have bw12087 := BT_get hI12085.1 43 1 2 (0) (0) (47) (by decide) 1 (by decide) (by decide)
            rw [ew12087] at bw12087
            have e12090 : I12085 (ad g 1) 1 = L := hI12085.2
            have b12091 := BT_get hI12085.1 1 1 2 (0) (0) (900) (by decide) 1 (by decide) (by decide)
            rw [e12090] at b12091
            refine WP_iload dX2_weighDay_45 rfl ?_
            refine WQ_bipush (61) (61) dX2_weighDay_47 rfl rfl (fun v12092 hv12092 => ?_)
            refine WQ_icmp_ge 140 dX2_weighDay_49 rfl (fun c12092 => ?_) (fun c12092 => ?_)
            · refine WP_iinc (ls' := [(0, _), (1, _), (2, _), (3, _), (4, _), (5, _), (6, _), (7, _), (8, _), (10, _)]) dX2_weighDay_140 rfl (by decide) rfl ?_
              have hv12094 : (i12068 + Int32.ofInt (1)).toInt = i12068.toInt + (1) := ia_n rfl (by omega) (by omega)
              generalize i12068 + Int32.ofInt (1) = v12094 at hv12094 ⊢
              refine WP_goto 20 dX2_weighDay_143 rfl ?_
              exact WP_sub (fc rfl (fc rfl (fc rfl (fc rfl (fc rfl (fc rfl (fc rfl (fc rfl fn)))))))) (ihlp20_12072 i12083 v12094 I12085 hI12085 fiI12085 w12087 ew12087 w12088 ew12088 (by omega) (by omega) (by omega) (by omega) (by omega) (by omega) (VIS_next PV_I12085_12085 hv12094 (by omega)) (VIS_next PU_I12085_12085 hv12094 (by omega)) (by omega))
            · refine WP_lload dX2_weighDay_52 rfl ?_
              refine WP_iload dX2_weighDay_54 rfl ?_
              refine WQ_lushrx dX2_weighDay_56 (by omega) (by omega) (fun l12095 ql12095 => ?_)
              refine WP_lconst (0) dX2_weighDay_57 rfl ?_
              obtain ⟨l12096, hl12096, el12096⟩ : ∃ v : Int64, v.toInt = 0 ∧ (0 : Int64) = v := ⟨_, rfl, rfl⟩
              rw [el12096]; clear el12096
              refine WQ_lcmp dX2_weighDay_58 (fun v12097 av12097 bv12097 => ?_)
              refine WQ_if_eq 140 dX2_weighDay_59 rfl (fun c12097 => ?_) (fun c12097 => ?_)
              · refine WP_iinc (ls' := [(0, _), (1, _), (2, _), (3, _), (4, _), (5, _), (6, _), (7, _), (8, _), (10, _)]) dX2_weighDay_140 rfl (by decide) rfl ?_
                have hv12099 : (i12068 + Int32.ofInt (1)).toInt = i12068.toInt + (1) := ia_n rfl (by omega) (by omega)
                generalize i12068 + Int32.ofInt (1) = v12099 at hv12099 ⊢
                refine WP_goto 20 dX2_weighDay_143 rfl ?_
                exact WP_sub (fc rfl (fc rfl (fc rfl (fc rfl (fc rfl (fc rfl (fc rfl (fc rfl fn)))))))) (ihlp20_12072 i12083 v12099 I12085 hI12085 fiI12085 w12087 ew12087 w12088 ew12088 (by omega) (by omega) (by omega) (by omega) (by omega) (by omega) (VIS_exit PV_I12085_12085 hv12099 (by rw [show (6 * ah.toInt + i12068.toInt).toNat = v12080.toInt.toNat by omega]; exact el12081) ql12095 (by omega)) (VIS_exit PU_I12085_12085 hv12099 (by rw [show (6 * ah.toInt + i12068.toInt).toNat = v12080.toInt.toNat by omega]; exact el12081) ql12095 (by omega)) (by omega))
              · refine WP_lload dX2_weighDay_62 rfl ?_
                refine WP_iload dX2_weighDay_64 rfl ?_
                refine WQ_lushrx dX2_weighDay_66 (by omega) (by omega) (fun l12100 ql12100 => ?_)
                refine WP_lconst (1) dX2_weighDay_67 rfl ?_
                obtain ⟨l12101, hl12101, el12101⟩ : ∃ v : Int64, v.toInt = 1 ∧ (1 : Int64) = v := ⟨_, rfl, rfl⟩
                rw [el12101]; clear el12101
                refine WQ_land1 dX2_weighDay_68 hl12101 (fun l12102 ql12102 => ?_)
                refine WP_lconst (0) dX2_weighDay_69 rfl ?_
                obtain ⟨l12103, hl12103, el12103⟩ : ∃ v : Int64, v.toInt = 0 ∧ (0 : Int64) = v := ⟨_, rfl, rfl⟩
                rw [el12103]; clear el12103
                refine WQ_lcmp dX2_weighDay_70 (fun v12104 av12104 bv12104 => ?_)
                refine WQ_if_eq 134 dX2_weighDay_71 rfl (fun c12104 => ?_) (fun c12104 => ?_)
                · refine WP_iinc (ls' := [(0, _), (1, _), (2, _), (3, _), (4, _), (5, _), (6, _), (7, _), (8, _), (10, _)]) dX2_weighDay_134 rfl (by decide) rfl ?_
                  have hv12106 : (i12084 + Int32.ofInt (1)).toInt = i12084.toInt + (1) := ia_n rfl (by omega) (by omega)
                  generalize i12084 + Int32.ofInt (1) = v12106 at hv12106 ⊢
                  refine WP_goto 45 dX2_weighDay_137 rfl ?_
                  exact WP_sub (fc rfl (fc rfl (fc rfl (fc rfl (fc rfl (fc rfl (fc rfl (fc rfl (fc rfl (fc rfl fn)))))))))) (ihlp45_12088 i12083 v12106 I12085 hI12085 fiI12085 w12087 ew12087 w12088 ew12088 (by omega) (by omega) (by omega) (by omega) (by omega) (by omega) (VIS_skip PV_I12085_12085 (by rw [show (6 * ah.toInt + i12068.toInt).toNat = v12080.toInt.toNat by omega]; exact el12081) ((bt_z ql12102 ql12100).mp (by omega)) hv12106) (VIS_skip PU_I12085_12085 (by rw [show (6 * ah.toInt + i12068.toInt).toNat = v12080.toInt.toNat by omega]; exact el12081) ((bt_z ql12102 ql12100).mp (by omega)) hv12106) (by omega))
                · have bk : bt l12081 i12084.toInt := Classical.byContradiction (fun hn => absurd ((bt_z ql12102 ql12100).mpr hn) (by omega))
                  have bj12106 : bt (J (ad g 45) (6 * ah.toInt + i12068.toInt).toNat) i12084.toInt := by rw [show (6 * ah.toInt + i12068.toInt).toNat = v12080.toInt.toNat by omega, el12081]; exact bk
                  clear bk
                  refine WP_aload_n dX2_weighDay_74 rfl ?_
                  refine WQ_bipush (60) (60) dX2_weighDay_75 rfl rfl (fun v12108 hv12108 => ?_)
                  refine WP_iload dX2_weighDay_77 rfl ?_
                  refine WP_iload_n dX2_weighDay_79 rfl ?_
                  refine WQ_iadd dX2_weighDay_80 (by omega) (by omega) (fun v12109 hv12109 => ?_)
                  refine WQ_min dX2_weighDay_81 lX2_101 ⟨by decide, Nat.le_of_ble_eq_true rfl⟩ (fun v12110 av12110 bv12110 cv12110 => ?_)
                  refine WP_iload dX2_weighDay_84 rfl ?_
                  refine WP_iload_n dX2_weighDay_86 rfl ?_
                  have cev12110 : CE i12084.toInt v12110.toInt ea.toInt := by unfold CE; omega
                  refine WP_callV3 (k := 2) dX2_weighDay_87 ⟨⟨⟨by decide, by decide⟩, zX2_weigh⟩, lX2_123, by decide, rfl, vX2_weigh.1, vX2_weigh.2⟩ (lyx_is hy 43 2 rfl) (sx_weighx_47 hy hr hI12085 v12110 i12068 da (by omega) (by omega) (by omega) (by omega) (by omega) (by omega) (K := K) (by omega) hL (by rw [ew12088]; omega) (by rw [fz_at fiI12085 44 (by decide) (by decide), fz_at fiI12085 47 (by decide) (by decide), fz_at fiI12085 24 (by decide) (by decide), fz_at fiI12085 25 (by decide) (by decide), fz_at fiI12085 26 (by decide) (by decide)]; exact hWD _ _ _ (by omega) (by omega) (by omega) (by omega) bj12106 cev12110)) (Nat.le_of_ble_eq_true rfl) ?_
                  intro r I12111 J12112 Ra hq
                  obtain ⟨⟨hI12111, ec, fiI12111, ejI12111, pI12111⟩, rfl⟩ := hq
                  rw [ec]
                  clear ec Ra
                  have fr12113 : fz 74 g [43, 48] I I12111 := fz_tr fiI12085 (fz_mono fiI12111 (by decide))
                  rw [ejI12111]
                  clear ejI12111 J12112
                  have VI12111 := PV_I12085_12085
                  rw [← fz_at fiI12111 48 (by decide) (by decide)] at VI12111
                  obtain ⟨paI12111, pbI12111, pcI12111, pdI12111⟩ := pI12111
                  rw [fz_at fiI12085 44 (by decide) (by decide)] at pcI12111
                  have UI12111 := FU_step PU_I12085_12085 (by omega) (by omega) bj12106 cev12110 pcI12111
                  have e12114 : I12111 (ad g 1) 1 = L := hI12111.2
                  have b12115 := BT_get hI12111.1 1 1 2 (0) (0) (900) (by decide) 1 (by decide) (by decide)
                  rw [e12114] at b12115
                  obtain ⟨w12116, ew12116⟩ : ∃ w : Int32, I12111 (ad g 43) 0 = w := ⟨_, rfl⟩
                  obtain ⟨w12117, ew12117⟩ : ∃ w : Int32, I12111 (ad g 43) 1 = w := ⟨_, rfl⟩
                  have bw12117 := BT_get hI12111.1 43 1 2 (0) (0) (47) (by decide) 1 (by decide) (by decide)
                  rw [ew12117] at bw12117
                  obtain ⟨w12118, ew12118⟩ : ∃ w : Int32, I12111 (ad g 43) 8 = w := ⟨_, rfl⟩
                  rw [ew12116] at paI12111 pbI12111
                  rw [ew12118] at pdI12111
                  rw [ew12088] at pdI12111
                  have peI12111 : w12118.toInt = w12088.toInt := by rw [pdI12111]
                  have WI12111 := UI12111
                  rw [ew12117] at WI12111
                  refine WP_aload_n dX2_weighDay_90 rfl ?_
                  refine WP_getr dX2_weighDay_91 fX2_25 rfl (lyx_is hy 43 2 rfl) hN ?_
                  refine WP_iload dX2_weighDay_94 rfl ?_
                  refine WQ_bipush (61) (61) dX2_weighDay_96 rfl rfl (fun v12119 hv12119 => ?_)
                  refine WQ_imulk (61) dX2_weighDay_98 hv12119 (by omega) (by omega) (fun v12120 hv12120 => ?_)
                  refine WP_iload dX2_weighDay_99 rfl ?_
                  refine WQ_iadd dX2_weighDay_101 (by omega) (by omega) (fun v12121 hv12121 => ?_)
                  refine WP_aload_n dX2_weighDay_102 rfl ?_
                  refine WQ_getim dX2_weighDay_103 fX2_127 rfl (lyx_is hy 43 2 rfl) ew12116 ?_
                  refine WP_iload dX2_weighDay_106 rfl ?_
                  refine WQ_imulb (17226) (1000) dX2_weighDay_108 ⟨by omega, by omega⟩ ⟨by omega, by omega⟩ (by decide) (fun v12122 pv12122 av12122 bv12122 cv12122 => ?_)
                  refine WQ_sipush (1000) (1000) dX2_weighDay_109 rfl rfl (fun v12123 hv12123 => ?_)
                  refine WQ_idivk (1000) dX2_weighDay_112 hv12123 (by decide) (by omega) (fun v12124 hv12124 => ?_)
                  refine WQ_iast dX2_weighDay_113 (lyx_is hy 48 13 rfl) (lyx_n hy 48 366 rfl) (by omega) (by omega) (fun I12125 eI12125 => ?_)
                  have hI12125 : XI g n L I12125 := by rw [eI12125]; exact (xi_r0 hy hI12111 (c := 48) (by decide) (Or.inl (by decide)) (by decide))
                  have e12126 : I12125 (ad g 1) 1 = L := by rw [eI12125, pp_ne _ _ (Or.inl (lyx_ne hy (by decide) (by decide) (by decide)))]; exact e12114
                  have e12127 : I12125 (ad g 43) 0 = w12116 := by rw [eI12125, pp_ne _ _ (Or.inl (lyx_ne hy (by decide) (by decide) (by decide)))]; exact ew12116
                  have e12128 : I12125 (ad g 43) 1 = w12117 := by rw [eI12125, pp_ne _ _ (Or.inl (lyx_ne hy (by decide) (by decide) (by decide)))]; exact ew12117
                  have e12129 : I12125 (ad g 43) 8 = w12118 := by rw [eI12125, pp_ne _ _ (Or.inl (lyx_ne hy (by decide) (by decide) (by decide)))]; exact ew12118
                  have fr12130 : fz 74 g [43, 48] I I12125 := by rw [eI12125]; exact fzx_pp hy fr12113 (by decide) (by decide)
                  have xI12125 := eI12125
                  rw [cl (x := v12121) (n := v12121.toInt.toNat) (by omega)] at xI12125
                  have VI12125 := FV_step VI12111 xI12125 (by omega) (by omega) (by omega) (by omega) (by omega)
                  have rvI12125 : I12125 (ad g 48) v12121.toInt.toNat = v12124 := by rw [xI12125]; exact pp_self _ _ _ _
                  clear eI12125
                  refine WP_iload dX2_weighDay_114 rfl ?_
                  refine WP_aload_n dX2_weighDay_116 rfl ?_
                  refine WP_getr dX2_weighDay_117 fX2_25 rfl (lyx_is hy 43 2 rfl) hN ?_
                  refine WP_iload dX2_weighDay_120 rfl ?_
                  refine WQ_bipush (61) (61) dX2_weighDay_122 rfl rfl (fun v12131 hv12131 => ?_)
                  refine WQ_imulk (61) dX2_weighDay_124 hv12131 (by omega) (by omega) (fun v12132 hv12132 => ?_)
                  refine WP_iload dX2_weighDay_125 rfl ?_
                  refine WQ_iadd dX2_weighDay_127 (by omega) (by omega) (fun v12133 hv12133 => ?_)
                  refine WQ_ialdx dX2_weighDay_128 (lyx_is hy 48 13 rfl) (lyx_n hy 48 366 rfl) (by omega) (by omega) (fun v12134 zv12134 => ?_)
                  have tv12134 : v12134.toInt = v12124.toInt := by rw [← zv12134, show v12133.toInt.toNat = v12121.toInt.toNat by omega, rvI12125]
                  refine WQ_max dX2_weighDay_129 lX2_130 ⟨by decide, Nat.le_of_ble_eq_true rfl⟩ (fun v12135 av12135 bv12135 cv12135 => ?_)
                  refine WP_istore (ls' := [(0, _), (1, _), (2, _), (3, _), (4, _), (5, _), (6, _), (7, _), (8, _), (10, _)]) dX2_weighDay_132 (by decide) rfl ?_
                  refine WP_iinc (ls' := [(0, _), (1, _), (2, _), (3, _), (4, _), (5, _), (6, _), (7, _), (8, _), (10, _)]) dX2_weighDay_134 rfl (by decide) rfl ?_
                  have hv12136 : (i12084 + Int32.ofInt (1)).toInt = i12084.toInt + (1) := ia_n rfl (by omega) (by omega)
                  generalize i12084 + Int32.ofInt (1) = v12136 at hv12136 ⊢
                  refine WP_goto 45 dX2_weighDay_137 rfl ?_
                  exact WP_sub (fc rfl (fc rfl (fc rfl (fc rfl (fc rfl (fc rfl (fc rfl (fc rfl (fc rfl (fc rfl fn)))))))))) (ihlp45_12088 v12135 v12136 I12125 hI12125 fr12130 w12117 e12128 w12118 e12129 (by omega) (by omega) (by omega) (by omega) (by omega) (by omega) (by rw [hv12136]; exact VI12125) (by rw [hv12136]; exact WI12111) (by omega))
        exact WP_sub (fc rfl (fc rfl (fc rfl (fc rfl (fc rfl (fc rfl (fc rfl (fc rfl (fc rfl (fc rfl fn)))))))))) (lp45_12088 _ i12067 v12082 I12069 hI12069 fiI12069 w12071 ew12071 w12072 ew12072 (by omega) (by omega) (by omega) (by omega) (by omega) (by omega) (VIS_c0 PV_I12069_12069 (by omega)) (VIS_c0 PU_I12069_12069 (by omega)) (Nat.lt_succ_self _))
  obtain ⟨w12137, ew12137⟩ : ∃ w : Int32, I (ad g 43) 1 = w := ⟨_, rfl⟩
  have bw12137 := BT_get hI.1 43 1 2 (0) (0) (47) (by decide) 1 (by decide) (by decide)
  rw [ew12137] at bw12137
  exact WP_sub (fc rfl (fc rfl (fc rfl (fc rfl (fc rfl (fc rfl (fc rfl (fc rfl fn)))))))) (lp20_12072 _ v12065 v12066 I hI fr0 w12137 ew12137 w12063 ew12063 (by omega) (by omega) (by omega) (by omega) (by omega) (by omega) (VIS_0 (by omega) rfl) (VIS_0 (by omega) rfl) (Nat.lt_succ_self _))
set_option maxHeartbeats 4000000 in
set_option maxRecDepth 100000 in
theorem sx_weighDayx_47_27 {g : GG} {n : Int} {L : Int32} (hy : LyX g)  {I : pI} {J : pJ} {R : pR} (hr : RfX g R) (hT : R (ad g 5) 0 = some (ad g 27)) (hI : XI g n L I) (ea : Int32) (so : Int32) (da : Int32) (ah : Int32) (ea_lo : 0 ≤ ea.toInt) (ea_hi : ea.toInt ≤ 20) (so_lo : 0 ≤ so.toInt) (so_hi : so.toInt ≤ 3) (da_lo : 0 ≤ da.toInt) (da_hi : da.toInt ≤ 6) (ah_lo : 0 ≤ ah.toInt) (ah_hi : ah.toInt ≤ 27) {K : Int} (hK : 0 ≤ K ∧ K ≤ 16038) (hL : R (ad g 43) 7 = some (ad g 47)) (hN : R (ad g 43) 6 = some (ad g 48)) (hml : 0 ≤ (I (ad g 43) 8).toInt ∧ (I (ad g 43) 8).toInt ≤ K) (hWD : WD (I (ad g 44)) (I (ad g 47)) (I (ad g 24)) (I (ad g 25)) (I (ad g 26)) (J (ad g 45)) K ah.toInt ea.toInt da.toInt) : SP g mX2_weighDay [.ref (ad g 43), .int ea, .int so, .int da, .int ah] I J R (fun r I' J' R' => (XI g n L I' ∧ R' = R ∧ fz 74 g [43, 48] I I' ∧ J' = J ∧ (VIS (J (ad g 45)) ah.toInt 6 0 (FV (I' (ad g 48)) (594 + K)) ∧ VIS (J (ad g 45)) ah.toInt 6 0 (FU (I (ad g 44)) (J (ad g 45)) ah.toInt ea.toInt (I' (ad g 43) 1).toInt))) ∧ ∃ v : Int32, r = some (.int v) ∧ 0 ≤ v.toInt ∧ v.toInt ≤ 17226 ∧ v.toInt ≤ 594 + K) := by
  refine SP_of ⟨by decide, rfl⟩ (Nat.le_of_ble_eq_true rfl) ?_
  have e12138 : I (ad g 1) 1 = L := hI.2
  have b12139 := BT_get hI.1 1 1 2 (0) (0) (900) (by decide) 1 (by decide) (by decide)
  rw [e12138] at b12139
  have fr0 : fz 74 g [43, 48] I I := fz_rf
  obtain ⟨w12140, ew12140⟩ : ∃ w : Int32, I (ad g 43) 8 = w := ⟨_, rfl⟩
  have hml0 := hml
  rw [ew12140] at hml0
  refine WP_aload_n dX2_weighDay_0 rfl ?_
  refine WP_getr dX2_weighDay_1 fX2_32 rfl (lyx_is hy 43 2 rfl) (rfx hr 43 2 5 (by decide)) ?_
  refine WP_getr dX2_weighDay_4 fX2_46 rfl (lyx_is hy 5 0 rfl) hT ?_
  refine WP_getr dX2_weighDay_7 fX2_120 rfl (lyx_is hy 27 7 rfl) (rfx hr 27 7 30 (by decide)) ?_
  refine WP_iload_n dX2_weighDay_10 rfl ?_
  refine WQ_iald dX2_weighDay_11 (lyx_is hy 30 13 rfl) (lyx_n hy 30 4 rfl) (by omega) (by omega) (fun q hq => BT_get hI.1 30 0 4 (0) (0) (1000) (by decide) q (Nat.zero_le _) hq) (fun v12141 av12141 bv12141 ev12141 => ?_)
  refine WP_istore (ls' := [(0, _), (1, _), (2, _), (3, _), (4, _), (5, _)]) dX2_weighDay_12 (by decide) rfl ?_
  refine WQ_iconst (0) (0) dX2_weighDay_14 rfl rfl (fun v12142 hv12142 => ?_)
  refine WP_istore (ls' := [(0, _), (1, _), (2, _), (3, _), (4, _), (5, _), (6, _)]) dX2_weighDay_15 (by decide) rfl ?_
  refine WQ_iconst (0) (0) dX2_weighDay_17 rfl rfl (fun v12143 hv12143 => ?_)
  refine WP_istore (ls' := [(0, _), (1, _), (2, _), (3, _), (4, _), (5, _), (6, _), (7, _)]) dX2_weighDay_18 (by decide) rfl ?_
  have lp20_12149 : ∀ (mz : Nat) (i12144 : Int32) (i12145 : Int32) (I12146 : pI), XI g n L I12146 → fz 74 g [43, 48] I I12146 → ∀ (w12148 : Int32), I12146 (ad g 43) 1 = w12148 → ∀ (w12149 : Int32), I12146 (ad g 43) 8 = w12149 → 0 ≤ i12144.toInt → i12144.toInt ≤ 17226 → 0 ≤ i12145.toInt → i12145.toInt ≤ 6 → i12144.toInt ≤ 594 + K → w12149.toInt = w12140.toInt → (VIS (J (ad g 45)) ah.toInt i12145.toInt 0 (FV (I12146 (ad g 48)) (594 + K))) → (VIS (J (ad g 45)) ah.toInt i12145.toInt 0 (FU (I (ad g 44)) (J (ad g 45)) ah.toInt ea.toInt w12148.toInt)) → (7 - i12145.toInt).toNat < mz → WP g mX2_weighDay 20 [(0, .ref (ad g 43)), (1, .int ea), (2, .int so), (3, .int da), (4, .int ah), (5, .int v12141), (6, .int i12144), (7, .int i12145)] [] I12146 J R (fun r I' J' R' => (XI g n L I' ∧ R' = R ∧ fz 74 g [43, 48] I I' ∧ J' = J ∧ (VIS (J (ad g 45)) ah.toInt 6 0 (FV (I' (ad g 48)) (594 + K)) ∧ VIS (J (ad g 45)) ah.toInt 6 0 (FU (I (ad g 44)) (J (ad g 45)) ah.toInt ea.toInt (I' (ad g 43) 1).toInt))) ∧ ∃ v : Int32, r = some (.int v) ∧ 0 ≤ v.toInt ∧ v.toInt ≤ 17226 ∧ v.toInt ≤ 594 + K) := by
    intro mz
    induction mz with
    | zero =>
      intro i12144 i12145 I12146 hI12146 fiI12146 w12148 ew12148 w12149 ew12149 ai12144 bi12144 ai12145 bi12145 j0_I12146_12146 j1_I12146_12146 PV_I12146_12146 PU_I12146_12146 hmlp20_12149
      exact absurd hmlp20_12149 (Nat.not_lt_zero _)
    | succ mz ihlp20_12149 =>
      intro i12144 i12145 I12146 hI12146 fiI12146 w12148 ew12148 w12149 ew12149 ai12144 bi12144 ai12145 bi12145 j0_I12146_12146 j1_I12146_12146 PV_I12146_12146 PU_I12146_12146 hmlp20_12149
      have bw12148 := BT_get hI12146.1 43 1 2 (0) (0) (47) (by decide) 1 (by decide) (by decide)
      rw [ew12148] at bw12148
      have e12151 : I12146 (ad g 1) 1 = L := hI12146.2
      have b12152 := BT_get hI12146.1 1 1 2 (0) (0) (900) (by decide) 1 (by decide) (by decide)
      rw [e12151] at b12152
      refine WP_iload dX2_weighDay_20 rfl ?_
      refine WQ_bipush (6) (6) dX2_weighDay_22 rfl rfl (fun v12153 hv12153 => ?_)
      refine WQ_icmp_ge 146 dX2_weighDay_24 rfl (fun c12153 => ?_) (fun c12153 => ?_)
      · refine WP_iload dX2_weighDay_146 rfl ?_
        exact WP_iret dX2_weighDay_148 rfl ⟨⟨hI12146, rfl, fiI12146, rfl, ⟨by rw [show (6 : Int) = i12145.toInt by omega]; exact PV_I12146_12146, by rw [show (6 : Int) = i12145.toInt by omega, ew12148]; exact PU_I12146_12146⟩⟩, _, rfl, by omega, by omega, by omega⟩
      · refine WP_aload_n dX2_weighDay_27 rfl ?_
        refine WP_getr dX2_weighDay_28 fX2_18 rfl (lyx_is hy 43 2 rfl) (rfx hr 43 4 45 (by decide)) ?_
        refine WP_iload dX2_weighDay_31 rfl ?_
        refine WQ_bipush (6) (6) dX2_weighDay_33 rfl rfl (fun v12155 hv12155 => ?_)
        refine WQ_imulk (6) dX2_weighDay_35 hv12155 (by omega) (by omega) (fun v12156 hv12156 => ?_)
        refine WP_iload dX2_weighDay_36 rfl ?_
        refine WQ_iadd dX2_weighDay_38 (by omega) (by omega) (fun v12157 hv12157 => ?_)
        refine WQ_laldx dX2_weighDay_39 (lyx_is hy 45 14 rfl) (lyx_n hy 45 168 rfl) (by omega) (by omega) (fun l12158 el12158 => ?_)
        refine WP_lstore (ls' := [(0, _), (1, _), (2, _), (3, _), (4, _), (5, _), (6, _), (7, _), (8, _)]) dX2_weighDay_40 (by decide) rfl ?_
        refine WQ_iconst (0) (0) dX2_weighDay_42 rfl rfl (fun v12159 hv12159 => ?_)
        refine WP_istore (ls' := [(0, _), (1, _), (2, _), (3, _), (4, _), (5, _), (6, _), (7, _), (8, _), (10, _)]) dX2_weighDay_43 (by decide) rfl ?_
        have lp45_12165 : ∀ (mz : Nat) (i12160 : Int32) (i12161 : Int32) (I12162 : pI), XI g n L I12162 → fz 74 g [43, 48] I I12162 → ∀ (w12164 : Int32), I12162 (ad g 43) 1 = w12164 → ∀ (w12165 : Int32), I12162 (ad g 43) 8 = w12165 → 0 ≤ i12160.toInt → i12160.toInt ≤ 17226 → 0 ≤ i12161.toInt → i12161.toInt ≤ 61 → i12160.toInt ≤ 594 + K → w12165.toInt = w12140.toInt → (VIS (J (ad g 45)) ah.toInt i12145.toInt i12161.toInt (FV (I12162 (ad g 48)) (594 + K))) → (VIS (J (ad g 45)) ah.toInt i12145.toInt i12161.toInt (FU (I (ad g 44)) (J (ad g 45)) ah.toInt ea.toInt w12164.toInt)) → (62 - i12161.toInt).toNat < mz → WP g mX2_weighDay 45 [(0, .ref (ad g 43)), (1, .int ea), (2, .int so), (3, .int da), (4, .int ah), (5, .int v12141), (6, .int i12160), (7, .int i12145), (8, .long l12158), (10, .int i12161)] [] I12162 J R (fun r I' J' R' => (XI g n L I' ∧ R' = R ∧ fz 74 g [43, 48] I I' ∧ J' = J ∧ (VIS (J (ad g 45)) ah.toInt 6 0 (FV (I' (ad g 48)) (594 + K)) ∧ VIS (J (ad g 45)) ah.toInt 6 0 (FU (I (ad g 44)) (J (ad g 45)) ah.toInt ea.toInt (I' (ad g 43) 1).toInt))) ∧ ∃ v : Int32, r = some (.int v) ∧ 0 ≤ v.toInt ∧ v.toInt ≤ 17226 ∧ v.toInt ≤ 594 + K) := by
          intro mz
          induction mz with
          | zero =>
            intro i12160 i12161 I12162 hI12162 fiI12162 w12164 ew12164 w12165 ew12165 ai12160 bi12160 ai12161 bi12161 j0_I12162_12162 j1_I12162_12162 PV_I12162_12162 PU_I12162_12162 hmlp45_12165
            exact absurd hmlp45_12165 (Nat.not_lt_zero _)
          | succ mz ihlp45_12165 =>
            intro i12160 i12161 I12162 hI12162 fiI12162 w12164 ew12164 w12165 ew12165 ai12160 bi12160 ai12161 bi12161 j0_I12162_12162 j1_I12162_12162 PV_I12162_12162 PU_I12162_12162 hmlp45_12165
            have bw12164 := BT_get hI12162.1 43 1 2 (0) (0) (47) (by decide) 1 (by decide) (by decide)
            rw [ew12164] at bw12164
            have e12167 : I12162 (ad g 1) 1 = L := hI12162.2
            have b12168 := BT_get hI12162.1 1 1 2 (0) (0) (900) (by decide) 1 (by decide) (by decide)
            rw [e12167] at b12168
            refine WP_iload dX2_weighDay_45 rfl ?_
            refine WQ_bipush (61) (61) dX2_weighDay_47 rfl rfl (fun v12169 hv12169 => ?_)
            refine WQ_icmp_ge 140 dX2_weighDay_49 rfl (fun c12169 => ?_) (fun c12169 => ?_)
            · refine WP_iinc (ls' := [(0, _), (1, _), (2, _), (3, _), (4, _), (5, _), (6, _), (7, _), (8, _), (10, _)]) dX2_weighDay_140 rfl (by decide) rfl ?_
              have hv12171 : (i12145 + Int32.ofInt (1)).toInt = i12145.toInt + (1) := ia_n rfl (by omega) (by omega)
              generalize i12145 + Int32.ofInt (1) = v12171 at hv12171 ⊢
              refine WP_goto 20 dX2_weighDay_143 rfl ?_
              exact WP_sub (fc rfl (fc rfl (fc rfl (fc rfl (fc rfl (fc rfl (fc rfl (fc rfl fn)))))))) (ihlp20_12149 i12160 v12171 I12162 hI12162 fiI12162 w12164 ew12164 w12165 ew12165 (by omega) (by omega) (by omega) (by omega) (by omega) (by omega) (VIS_next PV_I12162_12162 hv12171 (by omega)) (VIS_next PU_I12162_12162 hv12171 (by omega)) (by omega))
            · refine WP_lload dX2_weighDay_52 rfl ?_
              refine WP_iload dX2_weighDay_54 rfl ?_
              refine WQ_lushrx dX2_weighDay_56 (by omega) (by omega) (fun l12172 ql12172 => ?_)
              refine WP_lconst (0) dX2_weighDay_57 rfl ?_
              obtain ⟨l12173, hl12173, el12173⟩ : ∃ v : Int64, v.toInt = 0 ∧ (0 : Int64) = v := ⟨_, rfl, rfl⟩
              rw [el12173]; clear el12173
              refine WQ_lcmp dX2_weighDay_58 (fun v12174 av12174 bv12174 => ?_)
              refine WQ_if_eq 140 dX2_weighDay_59 rfl (fun c12174 => ?_) (fun c12174 => ?_)
              · refine WP_iinc (ls' := [(0, _), (1, _), (2, _), (3, _), (4, _), (5, _), (6, _), (7, _), (8, _), (10, _)]) dX2_weighDay_140 rfl (by decide) rfl ?_
                have hv12176 : (i12145 + Int32.ofInt (1)).toInt = i12145.toInt + (1) := ia_n rfl (by omega) (by omega)
                generalize i12145 + Int32.ofInt (1) = v12176 at hv12176 ⊢
                refine WP_goto 20 dX2_weighDay_143 rfl ?_
                exact WP_sub (fc rfl (fc rfl (fc rfl (fc rfl (fc rfl (fc rfl (fc rfl (fc rfl fn)))))))) (ihlp20_12149 i12160 v12176 I12162 hI12162 fiI12162 w12164 ew12164 w12165 ew12165 (by omega) (by omega) (by omega) (by omega) (by omega) (by omega) (VIS_exit PV_I12162_12162 hv12176 (by rw [show (6 * ah.toInt + i12145.toInt).toNat = v12157.toInt.toNat by omega]; exact el12158) ql12172 (by omega)) (VIS_exit PU_I12162_12162 hv12176 (by rw [show (6 * ah.toInt + i12145.toInt).toNat = v12157.toInt.toNat by omega]; exact el12158) ql12172 (by omega)) (by omega))
              · refine WP_lload dX2_weighDay_62 rfl ?_
                refine WP_iload dX2_weighDay_64 rfl ?_
                refine WQ_lushrx dX2_weighDay_66 (by omega) (by omega) (fun l12177 ql12177 => ?_)
                refine WP_lconst (1) dX2_weighDay_67 rfl ?_
                obtain ⟨l12178, hl12178, el12178⟩ : ∃ v : Int64, v.toInt = 1 ∧ (1 : Int64) = v := ⟨_, rfl, rfl⟩
                rw [el12178]; clear el12178
                refine WQ_land1 dX2_weighDay_68 hl12178 (fun l12179 ql12179 => ?_)
                refine WP_lconst (0) dX2_weighDay_69 rfl ?_
                obtain ⟨l12180, hl12180, el12180⟩ : ∃ v : Int64, v.toInt = 0 ∧ (0 : Int64) = v := ⟨_, rfl, rfl⟩
                rw [el12180]; clear el12180
                refine WQ_lcmp dX2_weighDay_70 (fun v12181 av12181 bv12181 => ?_)
                refine WQ_if_eq 134 dX2_weighDay_71 rfl (fun c12181 => ?_) (fun c12181 => ?_)
                · refine WP_iinc (ls' := [(0, _), (1, _), (2, _), (3, _), (4, _), (5, _), (6, _), (7, _), (8, _), (10, _)]) dX2_weighDay_134 rfl (by decide) rfl ?_
                  have hv12183 : (i12161 + Int32.ofInt (1)).toInt = i12161.toInt + (1) := ia_n rfl (by omega) (by omega)
                  generalize i12161 + Int32.ofInt (1) = v12183 at hv12183 ⊢
                  refine WP_goto 45 dX2_weighDay_137 rfl ?_
                  exact WP_sub (fc rfl (fc rfl (fc rfl (fc rfl (fc rfl (fc rfl (fc rfl (fc rfl (fc rfl (fc rfl fn)))))))))) (ihlp45_12165 i12160 v12183 I12162 hI12162 fiI12162 w12164 ew12164 w12165 ew12165 (by omega) (by omega) (by omega) (by omega) (by omega) (by omega) (VIS_skip PV_I12162_12162 (by rw [show (6 * ah.toInt + i12145.toInt).toNat = v12157.toInt.toNat by omega]; exact el12158) ((bt_z ql12179 ql12177).mp (by omega)) hv12183) (VIS_skip PU_I12162_12162 (by rw [show (6 * ah.toInt + i12145.toInt).toNat = v12157.toInt.toNat by omega]; exact el12158) ((bt_z ql12179 ql12177).mp (by omega)) hv12183) (by omega))
                · have bk : bt l12158 i12161.toInt := Classical.byContradiction (fun hn => absurd ((bt_z ql12179 ql12177).mpr hn) (by omega))
                  have bj12183 : bt (J (ad g 45) (6 * ah.toInt + i12145.toInt).toNat) i12161.toInt := by rw [show (6 * ah.toInt + i12145.toInt).toNat = v12157.toInt.toNat by omega, el12158]; exact bk
                  clear bk
                  refine WP_aload_n dX2_weighDay_74 rfl ?_
                  refine WQ_bipush (60) (60) dX2_weighDay_75 rfl rfl (fun v12185 hv12185 => ?_)
                  refine WP_iload dX2_weighDay_77 rfl ?_
                  refine WP_iload_n dX2_weighDay_79 rfl ?_
                  refine WQ_iadd dX2_weighDay_80 (by omega) (by omega) (fun v12186 hv12186 => ?_)
                  refine WQ_min dX2_weighDay_81 lX2_101 ⟨by decide, Nat.le_of_ble_eq_true rfl⟩ (fun v12187 av12187 bv12187 cv12187 => ?_)
                  refine WP_iload dX2_weighDay_84 rfl ?_
                  refine WP_iload_n dX2_weighDay_86 rfl ?_
                  have cev12187 : CE i12161.toInt v12187.toInt ea.toInt := by unfold CE; omega
                  refine WP_callV3 (k := 2) dX2_weighDay_87 ⟨⟨⟨by decide, by decide⟩, zX2_weigh⟩, lX2_123, by decide, rfl, vX2_weigh.1, vX2_weigh.2⟩ (lyx_is hy 43 2 rfl) (sx_weighx_47 hy hr hI12162 v12187 i12145 da (by omega) (by omega) (by omega) (by omega) (by omega) (by omega) (K := K) (by omega) hL (by rw [ew12165]; omega) (by rw [fz_at fiI12162 44 (by decide) (by decide), fz_at fiI12162 47 (by decide) (by decide), fz_at fiI12162 24 (by decide) (by decide), fz_at fiI12162 25 (by decide) (by decide), fz_at fiI12162 26 (by decide) (by decide)]; exact hWD _ _ _ (by omega) (by omega) (by omega) (by omega) bj12183 cev12187)) (Nat.le_of_ble_eq_true rfl) ?_
                  intro r I12188 J12189 Ra hq
                  obtain ⟨⟨hI12188, ec, fiI12188, ejI12188, pI12188⟩, rfl⟩ := hq
                  rw [ec]
                  clear ec Ra
                  have fr12190 : fz 74 g [43, 48] I I12188 := fz_tr fiI12162 (fz_mono fiI12188 (by decide))
                  rw [ejI12188]
                  clear ejI12188 J12189
                  have VI12188 := PV_I12162_12162
                  rw [← fz_at fiI12188 48 (by decide) (by decide)] at VI12188
                  obtain ⟨paI12188, pbI12188, pcI12188, pdI12188⟩ := pI12188
                  rw [fz_at fiI12162 44 (by decide) (by decide)] at pcI12188
                  have UI12188 := FU_step PU_I12162_12162 (by omega) (by omega) bj12183 cev12187 pcI12188
                  have e12191 : I12188 (ad g 1) 1 = L := hI12188.2
                  have b12192 := BT_get hI12188.1 1 1 2 (0) (0) (900) (by decide) 1 (by decide) (by decide)
                  rw [e12191] at b12192
                  obtain ⟨w12193, ew12193⟩ : ∃ w : Int32, I12188 (ad g 43) 0 = w := ⟨_, rfl⟩
                  obtain ⟨w12194, ew12194⟩ : ∃ w : Int32, I12188 (ad g 43) 1 = w := ⟨_, rfl⟩
                  have bw12194 := BT_get hI12188.1 43 1 2 (0) (0) (47) (by decide) 1 (by decide) (by decide)
                  rw [ew12194] at bw12194
                  obtain ⟨w12195, ew12195⟩ : ∃ w : Int32, I12188 (ad g 43) 8 = w := ⟨_, rfl⟩
                  rw [ew12193] at paI12188 pbI12188
                  rw [ew12195] at pdI12188
                  rw [ew12165] at pdI12188
                  have peI12188 : w12195.toInt = w12165.toInt := by rw [pdI12188]
                  have WI12188 := UI12188
                  rw [ew12194] at WI12188
                  refine WP_aload_n dX2_weighDay_90 rfl ?_
                  refine WP_getr dX2_weighDay_91 fX2_25 rfl (lyx_is hy 43 2 rfl) hN ?_
                  refine WP_iload dX2_weighDay_94 rfl ?_
                  refine WQ_bipush (61) (61) dX2_weighDay_96 rfl rfl (fun v12196 hv12196 => ?_)
                  refine WQ_imulk (61) dX2_weighDay_98 hv12196 (by omega) (by omega) (fun v12197 hv12197 => ?_)
                  refine WP_iload dX2_weighDay_99 rfl ?_
                  refine WQ_iadd dX2_weighDay_101 (by omega) (by omega) (fun v12198 hv12198 => ?_)
                  refine WP_aload_n dX2_weighDay_102 rfl ?_
                  refine WQ_getim dX2_weighDay_103 fX2_127 rfl (lyx_is hy 43 2 rfl) ew12193 ?_
                  refine WP_iload dX2_weighDay_106 rfl ?_
                  refine WQ_imulb (17226) (1000) dX2_weighDay_108 ⟨by omega, by omega⟩ ⟨by omega, by omega⟩ (by decide) (fun v12199 pv12199 av12199 bv12199 cv12199 => ?_)
                  refine WQ_sipush (1000) (1000) dX2_weighDay_109 rfl rfl (fun v12200 hv12200 => ?_)
                  refine WQ_idivk (1000) dX2_weighDay_112 hv12200 (by decide) (by omega) (fun v12201 hv12201 => ?_)
                  refine WQ_iast dX2_weighDay_113 (lyx_is hy 48 13 rfl) (lyx_n hy 48 366 rfl) (by omega) (by omega) (fun I12202 eI12202 => ?_)
                  have hI12202 : XI g n L I12202 := by rw [eI12202]; exact (xi_r0 hy hI12188 (c := 48) (by decide) (Or.inl (by decide)) (by decide))
                  have e12203 : I12202 (ad g 1) 1 = L := by rw [eI12202, pp_ne _ _ (Or.inl (lyx_ne hy (by decide) (by decide) (by decide)))]; exact e12191
                  have e12204 : I12202 (ad g 43) 0 = w12193 := by rw [eI12202, pp_ne _ _ (Or.inl (lyx_ne hy (by decide) (by decide) (by decide)))]; exact ew12193
                  have e12205 : I12202 (ad g 43) 1 = w12194 := by rw [eI12202, pp_ne _ _ (Or.inl (lyx_ne hy (by decide) (by decide) (by decide)))]; exact ew12194
                  have e12206 : I12202 (ad g 43) 8 = w12195 := by rw [eI12202, pp_ne _ _ (Or.inl (lyx_ne hy (by decide) (by decide) (by decide)))]; exact ew12195
                  have fr12207 : fz 74 g [43, 48] I I12202 := by rw [eI12202]; exact fzx_pp hy fr12190 (by decide) (by decide)
                  have xI12202 := eI12202
                  rw [cl (x := v12198) (n := v12198.toInt.toNat) (by omega)] at xI12202
                  have VI12202 := FV_step VI12188 xI12202 (by omega) (by omega) (by omega) (by omega) (by omega)
                  have rvI12202 : I12202 (ad g 48) v12198.toInt.toNat = v12201 := by rw [xI12202]; exact pp_self _ _ _ _
                  clear eI12202
                  refine WP_iload dX2_weighDay_114 rfl ?_
                  refine WP_aload_n dX2_weighDay_116 rfl ?_
                  refine WP_getr dX2_weighDay_117 fX2_25 rfl (lyx_is hy 43 2 rfl) hN ?_
                  refine WP_iload dX2_weighDay_120 rfl ?_
                  refine WQ_bipush (61) (61) dX2_weighDay_122 rfl rfl (fun v12208 hv12208 => ?_)
                  refine WQ_imulk (61) dX2_weighDay_124 hv12208 (by omega) (by omega) (fun v12209 hv12209 => ?_)
                  refine WP_iload dX2_weighDay_125 rfl ?_
                  refine WQ_iadd dX2_weighDay_127 (by omega) (by omega) (fun v12210 hv12210 => ?_)
                  refine WQ_ialdx dX2_weighDay_128 (lyx_is hy 48 13 rfl) (lyx_n hy 48 366 rfl) (by omega) (by omega) (fun v12211 zv12211 => ?_)
                  have tv12211 : v12211.toInt = v12201.toInt := by rw [← zv12211, show v12210.toInt.toNat = v12198.toInt.toNat by omega, rvI12202]
                  refine WQ_max dX2_weighDay_129 lX2_130 ⟨by decide, Nat.le_of_ble_eq_true rfl⟩ (fun v12212 av12212 bv12212 cv12212 => ?_)
                  refine WP_istore (ls' := [(0, _), (1, _), (2, _), (3, _), (4, _), (5, _), (6, _), (7, _), (8, _), (10, _)]) dX2_weighDay_132 (by decide) rfl ?_
                  refine WP_iinc (ls' := [(0, _), (1, _), (2, _), (3, _), (4, _), (5, _), (6, _), (7, _), (8, _), (10, _)]) dX2_weighDay_134 rfl (by decide) rfl ?_
                  have hv12213 : (i12161 + Int32.ofInt (1)).toInt = i12161.toInt + (1) := ia_n rfl (by omega) (by omega)
                  generalize i12161 + Int32.ofInt (1) = v12213 at hv12213 ⊢
                  refine WP_goto 45 dX2_weighDay_137 rfl ?_
                  exact WP_sub (fc rfl (fc rfl (fc rfl (fc rfl (fc rfl (fc rfl (fc rfl (fc rfl (fc rfl (fc rfl fn)))))))))) (ihlp45_12165 v12212 v12213 I12202 hI12202 fr12207 w12194 e12205 w12195 e12206 (by omega) (by omega) (by omega) (by omega) (by omega) (by omega) (by rw [hv12213]; exact VI12202) (by rw [hv12213]; exact WI12188) (by omega))
        exact WP_sub (fc rfl (fc rfl (fc rfl (fc rfl (fc rfl (fc rfl (fc rfl (fc rfl (fc rfl (fc rfl fn)))))))))) (lp45_12165 _ i12144 v12159 I12146 hI12146 fiI12146 w12148 ew12148 w12149 ew12149 (by omega) (by omega) (by omega) (by omega) (by omega) (by omega) (VIS_c0 PV_I12146_12146 (by omega)) (VIS_c0 PU_I12146_12146 (by omega)) (Nat.lt_succ_self _))
  obtain ⟨w12214, ew12214⟩ : ∃ w : Int32, I (ad g 43) 1 = w := ⟨_, rfl⟩
  have bw12214 := BT_get hI.1 43 1 2 (0) (0) (47) (by decide) 1 (by decide) (by decide)
  rw [ew12214] at bw12214
  exact WP_sub (fc rfl (fc rfl (fc rfl (fc rfl (fc rfl (fc rfl (fc rfl (fc rfl fn)))))))) (lp20_12149 _ v12142 v12143 I hI fr0 w12214 ew12214 w12140 ew12140 (by omega) (by omega) (by omega) (by omega) (by omega) (by omega) (VIS_0 (by omega) rfl) (VIS_0 (by omega) rfl) (Nat.lt_succ_self _))
set_option maxHeartbeats 4000000 in
set_option maxRecDepth 100000 in
theorem sx_weighDayx_48_6 {g : GG} {n : Int} {L : Int32} (hy : LyX g)  {I : pI} {J : pJ} {R : pR} (hr : RfX g R) (hT : R (ad g 5) 0 = some (ad g 6)) (hI : XI g n L I) (ea : Int32) (so : Int32) (da : Int32) (ah : Int32) (ea_lo : 0 ≤ ea.toInt) (ea_hi : ea.toInt ≤ 20) (so_lo : 0 ≤ so.toInt) (so_hi : so.toInt ≤ 3) (da_lo : 0 ≤ da.toInt) (da_hi : da.toInt ≤ 6) (ah_lo : 0 ≤ ah.toInt) (ah_hi : ah.toInt ≤ 27) {K : Int} (hK : 0 ≤ K ∧ K ≤ 16038) (hL : R (ad g 43) 7 = some (ad g 48)) (hN : R (ad g 43) 6 = some (ad g 47)) (hml : 0 ≤ (I (ad g 43) 8).toInt ∧ (I (ad g 43) 8).toInt ≤ K) (hWD : WD (I (ad g 44)) (I (ad g 48)) (I (ad g 24)) (I (ad g 25)) (I (ad g 26)) (J (ad g 45)) K ah.toInt ea.toInt da.toInt) : SP g mX2_weighDay [.ref (ad g 43), .int ea, .int so, .int da, .int ah] I J R (fun r I' J' R' => (XI g n L I' ∧ R' = R ∧ fz 74 g [43, 47] I I' ∧ J' = J ∧ (VIS (J (ad g 45)) ah.toInt 6 0 (FV (I' (ad g 47)) (594 + K)) ∧ VIS (J (ad g 45)) ah.toInt 6 0 (FU (I (ad g 44)) (J (ad g 45)) ah.toInt ea.toInt (I' (ad g 43) 1).toInt))) ∧ ∃ v : Int32, r = some (.int v) ∧ 0 ≤ v.toInt ∧ v.toInt ≤ 17226 ∧ v.toInt ≤ 594 + K) := by
  refine SP_of ⟨by decide, rfl⟩ (Nat.le_of_ble_eq_true rfl) ?_
  have e12215 : I (ad g 1) 1 = L := hI.2
  have b12216 := BT_get hI.1 1 1 2 (0) (0) (900) (by decide) 1 (by decide) (by decide)
  rw [e12215] at b12216
  have fr0 : fz 74 g [43, 47] I I := fz_rf
  obtain ⟨w12217, ew12217⟩ : ∃ w : Int32, I (ad g 43) 8 = w := ⟨_, rfl⟩
  have hml0 := hml
  rw [ew12217] at hml0
  refine WP_aload_n dX2_weighDay_0 rfl ?_
  refine WP_getr dX2_weighDay_1 fX2_32 rfl (lyx_is hy 43 2 rfl) (rfx hr 43 2 5 (by decide)) ?_
  refine WP_getr dX2_weighDay_4 fX2_46 rfl (lyx_is hy 5 0 rfl) hT ?_
  refine WP_getr dX2_weighDay_7 fX2_120 rfl (lyx_is hy 6 7 rfl) (rfx hr 6 7 9 (by decide)) ?_
  refine WP_iload_n dX2_weighDay_10 rfl ?_
  refine WQ_iald dX2_weighDay_11 (lyx_is hy 9 13 rfl) (lyx_n hy 9 4 rfl) (by omega) (by omega) (fun q hq => BT_get hI.1 9 0 4 (0) (0) (1000) (by decide) q (Nat.zero_le _) hq) (fun v12218 av12218 bv12218 ev12218 => ?_)
  refine WP_istore (ls' := [(0, _), (1, _), (2, _), (3, _), (4, _), (5, _)]) dX2_weighDay_12 (by decide) rfl ?_
  refine WQ_iconst (0) (0) dX2_weighDay_14 rfl rfl (fun v12219 hv12219 => ?_)
  refine WP_istore (ls' := [(0, _), (1, _), (2, _), (3, _), (4, _), (5, _), (6, _)]) dX2_weighDay_15 (by decide) rfl ?_
  refine WQ_iconst (0) (0) dX2_weighDay_17 rfl rfl (fun v12220 hv12220 => ?_)
  refine WP_istore (ls' := [(0, _), (1, _), (2, _), (3, _), (4, _), (5, _), (6, _), (7, _)]) dX2_weighDay_18 (by decide) rfl ?_
  have lp20_12226 : ∀ (mz : Nat) (i12221 : Int32) (i12222 : Int32) (I12223 : pI), XI g n L I12223 → fz 74 g [43, 47] I I12223 → ∀ (w12225 : Int32), I12223 (ad g 43) 1 = w12225 → ∀ (w12226 : Int32), I12223 (ad g 43) 8 = w12226 → 0 ≤ i12221.toInt → i12221.toInt ≤ 17226 → 0 ≤ i12222.toInt → i12222.toInt ≤ 6 → i12221.toInt ≤ 594 + K → w12226.toInt = w12217.toInt → (VIS (J (ad g 45)) ah.toInt i12222.toInt 0 (FV (I12223 (ad g 47)) (594 + K))) → (VIS (J (ad g 45)) ah.toInt i12222.toInt 0 (FU (I (ad g 44)) (J (ad g 45)) ah.toInt ea.toInt w12225.toInt)) → (7 - i12222.toInt).toNat < mz → WP g mX2_weighDay 20 [(0, .ref (ad g 43)), (1, .int ea), (2, .int so), (3, .int da), (4, .int ah), (5, .int v12218), (6, .int i12221), (7, .int i12222)] [] I12223 J R (fun r I' J' R' => (XI g n L I' ∧ R' = R ∧ fz 74 g [43, 47] I I' ∧ J' = J ∧ (VIS (J (ad g 45)) ah.toInt 6 0 (FV (I' (ad g 47)) (594 + K)) ∧ VIS (J (ad g 45)) ah.toInt 6 0 (FU (I (ad g 44)) (J (ad g 45)) ah.toInt ea.toInt (I' (ad g 43) 1).toInt))) ∧ ∃ v : Int32, r = some (.int v) ∧ 0 ≤ v.toInt ∧ v.toInt ≤ 17226 ∧ v.toInt ≤ 594 + K) := by
    intro mz
    induction mz with
    | zero =>
      intro i12221 i12222 I12223 hI12223 fiI12223 w12225 ew12225 w12226 ew12226 ai12221 bi12221 ai12222 bi12222 j0_I12223_12223 j1_I12223_12223 PV_I12223_12223 PU_I12223_12223 hmlp20_12226
      exact absurd hmlp20_12226 (Nat.not_lt_zero _)
    | succ mz ihlp20_12226 =>
      intro i12221 i12222 I12223 hI12223 fiI12223 w12225 ew12225 w12226 ew12226 ai12221 bi12221 ai12222 bi12222 j0_I12223_12223 j1_I12223_12223 PV_I12223_12223 PU_I12223_12223 hmlp20_12226
      have bw12225 := BT_get hI12223.1 43 1 2 (0) (0) (47) (by decide) 1 (by decide) (by decide)
      rw [ew12225] at bw12225
      have e12228 : I12223 (ad g 1) 1 = L := hI12223.2
      have b12229 := BT_get hI12223.1 1 1 2 (0) (0) (900) (by decide) 1 (by decide) (by decide)
      rw [e12228] at b12229
      refine WP_iload dX2_weighDay_20 rfl ?_
      refine WQ_bipush (6) (6) dX2_weighDay_22 rfl rfl (fun v12230 hv12230 => ?_)
      refine WQ_icmp_ge 146 dX2_weighDay_24 rfl (fun c12230 => ?_) (fun c12230 => ?_)
      · refine WP_iload dX2_weighDay_146 rfl ?_
        exact WP_iret dX2_weighDay_148 rfl ⟨⟨hI12223, rfl, fiI12223, rfl, ⟨by rw [show (6 : Int) = i12222.toInt by omega]; exact PV_I12223_12223, by rw [show (6 : Int) = i12222.toInt by omega, ew12225]; exact PU_I12223_12223⟩⟩, _, rfl, by omega, by omega, by omega⟩
      · refine WP_aload_n dX2_weighDay_27 rfl ?_
        refine WP_getr dX2_weighDay_28 fX2_18 rfl (lyx_is hy 43 2 rfl) (rfx hr 43 4 45 (by decide)) ?_
        refine WP_iload dX2_weighDay_31 rfl ?_
        refine WQ_bipush (6) (6) dX2_weighDay_33 rfl rfl (fun v12232 hv12232 => ?_)
        refine WQ_imulk (6) dX2_weighDay_35 hv12232 (by omega) (by omega) (fun v12233 hv12233 => ?_)
        refine WP_iload dX2_weighDay_36 rfl ?_
        refine WQ_iadd dX2_weighDay_38 (by omega) (by omega) (fun v12234 hv12234 => ?_)
        refine WQ_laldx dX2_weighDay_39 (lyx_is hy 45 14 rfl) (lyx_n hy 45 168 rfl) (by omega) (by omega) (fun l12235 el12235 => ?_)
        refine WP_lstore (ls' := [(0, _), (1, _), (2, _), (3, _), (4, _), (5, _), (6, _), (7, _), (8, _)]) dX2_weighDay_40 (by decide) rfl ?_
        refine WQ_iconst (0) (0) dX2_weighDay_42 rfl rfl (fun v12236 hv12236 => ?_)
        refine WP_istore (ls' := [(0, _), (1, _), (2, _), (3, _), (4, _), (5, _), (6, _), (7, _), (8, _), (10, _)]) dX2_weighDay_43 (by decide) rfl ?_
        have lp45_12242 : ∀ (mz : Nat) (i12237 : Int32) (i12238 : Int32) (I12239 : pI), XI g n L I12239 → fz 74 g [43, 47] I I12239 → ∀ (w12241 : Int32), I12239 (ad g 43) 1 = w12241 → ∀ (w12242 : Int32), I12239 (ad g 43) 8 = w12242 → 0 ≤ i12237.toInt → i12237.toInt ≤ 17226 → 0 ≤ i12238.toInt → i12238.toInt ≤ 61 → i12237.toInt ≤ 594 + K → w12242.toInt = w12217.toInt → (VIS (J (ad g 45)) ah.toInt i12222.toInt i12238.toInt (FV (I12239 (ad g 47)) (594 + K))) → (VIS (J (ad g 45)) ah.toInt i12222.toInt i12238.toInt (FU (I (ad g 44)) (J (ad g 45)) ah.toInt ea.toInt w12241.toInt)) → (62 - i12238.toInt).toNat < mz → WP g mX2_weighDay 45 [(0, .ref (ad g 43)), (1, .int ea), (2, .int so), (3, .int da), (4, .int ah), (5, .int v12218), (6, .int i12237), (7, .int i12222), (8, .long l12235), (10, .int i12238)] [] I12239 J R (fun r I' J' R' => (XI g n L I' ∧ R' = R ∧ fz 74 g [43, 47] I I' ∧ J' = J ∧ (VIS (J (ad g 45)) ah.toInt 6 0 (FV (I' (ad g 47)) (594 + K)) ∧ VIS (J (ad g 45)) ah.toInt 6 0 (FU (I (ad g 44)) (J (ad g 45)) ah.toInt ea.toInt (I' (ad g 43) 1).toInt))) ∧ ∃ v : Int32, r = some (.int v) ∧ 0 ≤ v.toInt ∧ v.toInt ≤ 17226 ∧ v.toInt ≤ 594 + K) := by
          intro mz
          induction mz with
          | zero =>
            intro i12237 i12238 I12239 hI12239 fiI12239 w12241 ew12241 w12242 ew12242 ai12237 bi12237 ai12238 bi12238 j0_I12239_12239 j1_I12239_12239 PV_I12239_12239 PU_I12239_12239 hmlp45_12242
            exact absurd hmlp45_12242 (Nat.not_lt_zero _)
          | succ mz ihlp45_12242 =>
            intro i12237 i12238 I12239 hI12239 fiI12239 w12241 ew12241 w12242 ew12242 ai12237 bi12237 ai12238 bi12238 j0_I12239_12239 j1_I12239_12239 PV_I12239_12239 PU_I12239_12239 hmlp45_12242
            have bw12241 := BT_get hI12239.1 43 1 2 (0) (0) (47) (by decide) 1 (by decide) (by decide)
            rw [ew12241] at bw12241
            have e12244 : I12239 (ad g 1) 1 = L := hI12239.2
            have b12245 := BT_get hI12239.1 1 1 2 (0) (0) (900) (by decide) 1 (by decide) (by decide)
            rw [e12244] at b12245
            refine WP_iload dX2_weighDay_45 rfl ?_
            refine WQ_bipush (61) (61) dX2_weighDay_47 rfl rfl (fun v12246 hv12246 => ?_)
            refine WQ_icmp_ge 140 dX2_weighDay_49 rfl (fun c12246 => ?_) (fun c12246 => ?_)
            · refine WP_iinc (ls' := [(0, _), (1, _), (2, _), (3, _), (4, _), (5, _), (6, _), (7, _), (8, _), (10, _)]) dX2_weighDay_140 rfl (by decide) rfl ?_
              have hv12248 : (i12222 + Int32.ofInt (1)).toInt = i12222.toInt + (1) := ia_n rfl (by omega) (by omega)
              generalize i12222 + Int32.ofInt (1) = v12248 at hv12248 ⊢
              refine WP_goto 20 dX2_weighDay_143 rfl ?_
              exact WP_sub (fc rfl (fc rfl (fc rfl (fc rfl (fc rfl (fc rfl (fc rfl (fc rfl fn)))))))) (ihlp20_12226 i12237 v12248 I12239 hI12239 fiI12239 w12241 ew12241 w12242 ew12242 (by omega) (by omega) (by omega) (by omega) (by omega) (by omega) (VIS_next PV_I12239_12239 hv12248 (by omega)) (VIS_next PU_I12239_12239 hv12248 (by omega)) (by omega))
            · refine WP_lload dX2_weighDay_52 rfl ?_
              refine WP_iload dX2_weighDay_54 rfl ?_
              refine WQ_lushrx dX2_weighDay_56 (by omega) (by omega) (fun l12249 ql12249 => ?_)
              refine WP_lconst (0) dX2_weighDay_57 rfl ?_
              obtain ⟨l12250, hl12250, el12250⟩ : ∃ v : Int64, v.toInt = 0 ∧ (0 : Int64) = v := ⟨_, rfl, rfl⟩
              rw [el12250]; clear el12250
              refine WQ_lcmp dX2_weighDay_58 (fun v12251 av12251 bv12251 => ?_)
              refine WQ_if_eq 140 dX2_weighDay_59 rfl (fun c12251 => ?_) (fun c12251 => ?_)
              · refine WP_iinc (ls' := [(0, _), (1, _), (2, _), (3, _), (4, _), (5, _), (6, _), (7, _), (8, _), (10, _)]) dX2_weighDay_140 rfl (by decide) rfl ?_
                have hv12253 : (i12222 + Int32.ofInt (1)).toInt = i12222.toInt + (1) := ia_n rfl (by omega) (by omega)
                generalize i12222 + Int32.ofInt (1) = v12253 at hv12253 ⊢
                refine WP_goto 20 dX2_weighDay_143 rfl ?_
                exact WP_sub (fc rfl (fc rfl (fc rfl (fc rfl (fc rfl (fc rfl (fc rfl (fc rfl fn)))))))) (ihlp20_12226 i12237 v12253 I12239 hI12239 fiI12239 w12241 ew12241 w12242 ew12242 (by omega) (by omega) (by omega) (by omega) (by omega) (by omega) (VIS_exit PV_I12239_12239 hv12253 (by rw [show (6 * ah.toInt + i12222.toInt).toNat = v12234.toInt.toNat by omega]; exact el12235) ql12249 (by omega)) (VIS_exit PU_I12239_12239 hv12253 (by rw [show (6 * ah.toInt + i12222.toInt).toNat = v12234.toInt.toNat by omega]; exact el12235) ql12249 (by omega)) (by omega))
              · refine WP_lload dX2_weighDay_62 rfl ?_
                refine WP_iload dX2_weighDay_64 rfl ?_
                refine WQ_lushrx dX2_weighDay_66 (by omega) (by omega) (fun l12254 ql12254 => ?_)
                refine WP_lconst (1) dX2_weighDay_67 rfl ?_
                obtain ⟨l12255, hl12255, el12255⟩ : ∃ v : Int64, v.toInt = 1 ∧ (1 : Int64) = v := ⟨_, rfl, rfl⟩
                rw [el12255]; clear el12255
                refine WQ_land1 dX2_weighDay_68 hl12255 (fun l12256 ql12256 => ?_)
                refine WP_lconst (0) dX2_weighDay_69 rfl ?_
                obtain ⟨l12257, hl12257, el12257⟩ : ∃ v : Int64, v.toInt = 0 ∧ (0 : Int64) = v := ⟨_, rfl, rfl⟩
                rw [el12257]; clear el12257
                refine WQ_lcmp dX2_weighDay_70 (fun v12258 av12258 bv12258 => ?_)
                refine WQ_if_eq 134 dX2_weighDay_71 rfl (fun c12258 => ?_) (fun c12258 => ?_)
                · refine WP_iinc (ls' := [(0, _), (1, _), (2, _), (3, _), (4, _), (5, _), (6, _), (7, _), (8, _), (10, _)]) dX2_weighDay_134 rfl (by decide) rfl ?_
                  have hv12260 : (i12238 + Int32.ofInt (1)).toInt = i12238.toInt + (1) := ia_n rfl (by omega) (by omega)
                  generalize i12238 + Int32.ofInt (1) = v12260 at hv12260 ⊢
                  refine WP_goto 45 dX2_weighDay_137 rfl ?_
                  exact WP_sub (fc rfl (fc rfl (fc rfl (fc rfl (fc rfl (fc rfl (fc rfl (fc rfl (fc rfl (fc rfl fn)))))))))) (ihlp45_12242 i12237 v12260 I12239 hI12239 fiI12239 w12241 ew12241 w12242 ew12242 (by omega) (by omega) (by omega) (by omega) (by omega) (by omega) (VIS_skip PV_I12239_12239 (by rw [show (6 * ah.toInt + i12222.toInt).toNat = v12234.toInt.toNat by omega]; exact el12235) ((bt_z ql12256 ql12254).mp (by omega)) hv12260) (VIS_skip PU_I12239_12239 (by rw [show (6 * ah.toInt + i12222.toInt).toNat = v12234.toInt.toNat by omega]; exact el12235) ((bt_z ql12256 ql12254).mp (by omega)) hv12260) (by omega))
                · have bk : bt l12235 i12238.toInt := Classical.byContradiction (fun hn => absurd ((bt_z ql12256 ql12254).mpr hn) (by omega))
                  have bj12260 : bt (J (ad g 45) (6 * ah.toInt + i12222.toInt).toNat) i12238.toInt := by rw [show (6 * ah.toInt + i12222.toInt).toNat = v12234.toInt.toNat by omega, el12235]; exact bk
                  clear bk
                  refine WP_aload_n dX2_weighDay_74 rfl ?_
                  refine WQ_bipush (60) (60) dX2_weighDay_75 rfl rfl (fun v12262 hv12262 => ?_)
                  refine WP_iload dX2_weighDay_77 rfl ?_
                  refine WP_iload_n dX2_weighDay_79 rfl ?_
                  refine WQ_iadd dX2_weighDay_80 (by omega) (by omega) (fun v12263 hv12263 => ?_)
                  refine WQ_min dX2_weighDay_81 lX2_101 ⟨by decide, Nat.le_of_ble_eq_true rfl⟩ (fun v12264 av12264 bv12264 cv12264 => ?_)
                  refine WP_iload dX2_weighDay_84 rfl ?_
                  refine WP_iload_n dX2_weighDay_86 rfl ?_
                  have cev12264 : CE i12238.toInt v12264.toInt ea.toInt := by unfold CE; omega
                  refine WP_callV3 (k := 2) dX2_weighDay_87 ⟨⟨⟨by decide, by decide⟩, zX2_weigh⟩, lX2_123, by decide, rfl, vX2_weigh.1, vX2_weigh.2⟩ (lyx_is hy 43 2 rfl) (sx_weighx_48 hy hr hI12239 v12264 i12222 da (by omega) (by omega) (by omega) (by omega) (by omega) (by omega) (K := K) (by omega) hL (by rw [ew12242]; omega) (by rw [fz_at fiI12239 44 (by decide) (by decide), fz_at fiI12239 48 (by decide) (by decide), fz_at fiI12239 24 (by decide) (by decide), fz_at fiI12239 25 (by decide) (by decide), fz_at fiI12239 26 (by decide) (by decide)]; exact hWD _ _ _ (by omega) (by omega) (by omega) (by omega) bj12260 cev12264)) (Nat.le_of_ble_eq_true rfl) ?_
                  intro r I12265 J12266 Ra hq
                  obtain ⟨⟨hI12265, ec, fiI12265, ejI12265, pI12265⟩, rfl⟩ := hq
                  rw [ec]
                  clear ec Ra
                  have fr12267 : fz 74 g [43, 47] I I12265 := fz_tr fiI12239 (fz_mono fiI12265 (by decide))
                  rw [ejI12265]
                  clear ejI12265 J12266
                  have VI12265 := PV_I12239_12239
                  rw [← fz_at fiI12265 47 (by decide) (by decide)] at VI12265
                  obtain ⟨paI12265, pbI12265, pcI12265, pdI12265⟩ := pI12265
                  rw [fz_at fiI12239 44 (by decide) (by decide)] at pcI12265
                  have UI12265 := FU_step PU_I12239_12239 (by omega) (by omega) bj12260 cev12264 pcI12265
                  have e12268 : I12265 (ad g 1) 1 = L := hI12265.2
                  have b12269 := BT_get hI12265.1 1 1 2 (0) (0) (900) (by decide) 1 (by decide) (by decide)
                  rw [e12268] at b12269
                  obtain ⟨w12270, ew12270⟩ : ∃ w : Int32, I12265 (ad g 43) 0 = w := ⟨_, rfl⟩
                  obtain ⟨w12271, ew12271⟩ : ∃ w : Int32, I12265 (ad g 43) 1 = w := ⟨_, rfl⟩
                  have bw12271 := BT_get hI12265.1 43 1 2 (0) (0) (47) (by decide) 1 (by decide) (by decide)
                  rw [ew12271] at bw12271
                  obtain ⟨w12272, ew12272⟩ : ∃ w : Int32, I12265 (ad g 43) 8 = w := ⟨_, rfl⟩
                  rw [ew12270] at paI12265 pbI12265
                  rw [ew12272] at pdI12265
                  rw [ew12242] at pdI12265
                  have peI12265 : w12272.toInt = w12242.toInt := by rw [pdI12265]
                  have WI12265 := UI12265
                  rw [ew12271] at WI12265
                  refine WP_aload_n dX2_weighDay_90 rfl ?_
                  refine WP_getr dX2_weighDay_91 fX2_25 rfl (lyx_is hy 43 2 rfl) hN ?_
                  refine WP_iload dX2_weighDay_94 rfl ?_
                  refine WQ_bipush (61) (61) dX2_weighDay_96 rfl rfl (fun v12273 hv12273 => ?_)
                  refine WQ_imulk (61) dX2_weighDay_98 hv12273 (by omega) (by omega) (fun v12274 hv12274 => ?_)
                  refine WP_iload dX2_weighDay_99 rfl ?_
                  refine WQ_iadd dX2_weighDay_101 (by omega) (by omega) (fun v12275 hv12275 => ?_)
                  refine WP_aload_n dX2_weighDay_102 rfl ?_
                  refine WQ_getim dX2_weighDay_103 fX2_127 rfl (lyx_is hy 43 2 rfl) ew12270 ?_
                  refine WP_iload dX2_weighDay_106 rfl ?_
                  refine WQ_imulb (17226) (1000) dX2_weighDay_108 ⟨by omega, by omega⟩ ⟨by omega, by omega⟩ (by decide) (fun v12276 pv12276 av12276 bv12276 cv12276 => ?_)
                  refine WQ_sipush (1000) (1000) dX2_weighDay_109 rfl rfl (fun v12277 hv12277 => ?_)
                  refine WQ_idivk (1000) dX2_weighDay_112 hv12277 (by decide) (by omega) (fun v12278 hv12278 => ?_)
                  refine WQ_iast dX2_weighDay_113 (lyx_is hy 47 13 rfl) (lyx_n hy 47 366 rfl) (by omega) (by omega) (fun I12279 eI12279 => ?_)
                  have hI12279 : XI g n L I12279 := by rw [eI12279]; exact (xi_r0 hy hI12265 (c := 47) (by decide) (Or.inl (by decide)) (by decide))
                  have e12280 : I12279 (ad g 1) 1 = L := by rw [eI12279, pp_ne _ _ (Or.inl (lyx_ne hy (by decide) (by decide) (by decide)))]; exact e12268
                  have e12281 : I12279 (ad g 43) 0 = w12270 := by rw [eI12279, pp_ne _ _ (Or.inl (lyx_ne hy (by decide) (by decide) (by decide)))]; exact ew12270
                  have e12282 : I12279 (ad g 43) 1 = w12271 := by rw [eI12279, pp_ne _ _ (Or.inl (lyx_ne hy (by decide) (by decide) (by decide)))]; exact ew12271
                  have e12283 : I12279 (ad g 43) 8 = w12272 := by rw [eI12279, pp_ne _ _ (Or.inl (lyx_ne hy (by decide) (by decide) (by decide)))]; exact ew12272
                  have fr12284 : fz 74 g [43, 47] I I12279 := by rw [eI12279]; exact fzx_pp hy fr12267 (by decide) (by decide)
                  have xI12279 := eI12279
                  rw [cl (x := v12275) (n := v12275.toInt.toNat) (by omega)] at xI12279
                  have VI12279 := FV_step VI12265 xI12279 (by omega) (by omega) (by omega) (by omega) (by omega)
                  have rvI12279 : I12279 (ad g 47) v12275.toInt.toNat = v12278 := by rw [xI12279]; exact pp_self _ _ _ _
                  clear eI12279
                  refine WP_iload dX2_weighDay_114 rfl ?_
                  refine WP_aload_n dX2_weighDay_116 rfl ?_
                  refine WP_getr dX2_weighDay_117 fX2_25 rfl (lyx_is hy 43 2 rfl) hN ?_
                  refine WP_iload dX2_weighDay_120 rfl ?_
                  refine WQ_bipush (61) (61) dX2_weighDay_122 rfl rfl (fun v12285 hv12285 => ?_)
                  refine WQ_imulk (61) dX2_weighDay_124 hv12285 (by omega) (by omega) (fun v12286 hv12286 => ?_)
                  refine WP_iload dX2_weighDay_125 rfl ?_
                  refine WQ_iadd dX2_weighDay_127 (by omega) (by omega) (fun v12287 hv12287 => ?_)
                  refine WQ_ialdx dX2_weighDay_128 (lyx_is hy 47 13 rfl) (lyx_n hy 47 366 rfl) (by omega) (by omega) (fun v12288 zv12288 => ?_)
                  have tv12288 : v12288.toInt = v12278.toInt := by rw [← zv12288, show v12287.toInt.toNat = v12275.toInt.toNat by omega, rvI12279]
                  refine WQ_max dX2_weighDay_129 lX2_130 ⟨by decide, Nat.le_of_ble_eq_true rfl⟩ (fun v12289 av12289 bv12289 cv12289 => ?_)
                  refine WP_istore (ls' := [(0, _), (1, _), (2, _), (3, _), (4, _), (5, _), (6, _), (7, _), (8, _), (10, _)]) dX2_weighDay_132 (by decide) rfl ?_
                  refine WP_iinc (ls' := [(0, _), (1, _), (2, _), (3, _), (4, _), (5, _), (6, _), (7, _), (8, _), (10, _)]) dX2_weighDay_134 rfl (by decide) rfl ?_
                  have hv12290 : (i12238 + Int32.ofInt (1)).toInt = i12238.toInt + (1) := ia_n rfl (by omega) (by omega)
                  generalize i12238 + Int32.ofInt (1) = v12290 at hv12290 ⊢
                  refine WP_goto 45 dX2_weighDay_137 rfl ?_
                  exact WP_sub (fc rfl (fc rfl (fc rfl (fc rfl (fc rfl (fc rfl (fc rfl (fc rfl (fc rfl (fc rfl fn)))))))))) (ihlp45_12242 v12289 v12290 I12279 hI12279 fr12284 w12271 e12282 w12272 e12283 (by omega) (by omega) (by omega) (by omega) (by omega) (by omega) (by rw [hv12290]; exact VI12279) (by rw [hv12290]; exact WI12265) (by omega))
        exact WP_sub (fc rfl (fc rfl (fc rfl (fc rfl (fc rfl (fc rfl (fc rfl (fc rfl (fc rfl (fc rfl fn)))))))))) (lp45_12242 _ i12221 v12236 I12223 hI12223 fiI12223 w12225 ew12225 w12226 ew12226 (by omega) (by omega) (by omega) (by omega) (by omega) (by omega) (VIS_c0 PV_I12223_12223 (by omega)) (VIS_c0 PU_I12223_12223 (by omega)) (Nat.lt_succ_self _))
  obtain ⟨w12291, ew12291⟩ : ∃ w : Int32, I (ad g 43) 1 = w := ⟨_, rfl⟩
  have bw12291 := BT_get hI.1 43 1 2 (0) (0) (47) (by decide) 1 (by decide) (by decide)
  rw [ew12291] at bw12291
  exact WP_sub (fc rfl (fc rfl (fc rfl (fc rfl (fc rfl (fc rfl (fc rfl (fc rfl fn)))))))) (lp20_12226 _ v12219 v12220 I hI fr0 w12291 ew12291 w12217 ew12217 (by omega) (by omega) (by omega) (by omega) (by omega) (by omega) (VIS_0 (by omega) rfl) (VIS_0 (by omega) rfl) (Nat.lt_succ_self _))
set_option maxHeartbeats 4000000 in
set_option maxRecDepth 100000 in
theorem sx_weighDayx_48_27 {g : GG} {n : Int} {L : Int32} (hy : LyX g)  {I : pI} {J : pJ} {R : pR} (hr : RfX g R) (hT : R (ad g 5) 0 = some (ad g 27)) (hI : XI g n L I) (ea : Int32) (so : Int32) (da : Int32) (ah : Int32) (ea_lo : 0 ≤ ea.toInt) (ea_hi : ea.toInt ≤ 20) (so_lo : 0 ≤ so.toInt) (so_hi : so.toInt ≤ 3) (da_lo : 0 ≤ da.toInt) (da_hi : da.toInt ≤ 6) (ah_lo : 0 ≤ ah.toInt) (ah_hi : ah.toInt ≤ 27) {K : Int} (hK : 0 ≤ K ∧ K ≤ 16038) (hL : R (ad g 43) 7 = some (ad g 48)) (hN : R (ad g 43) 6 = some (ad g 47)) (hml : 0 ≤ (I (ad g 43) 8).toInt ∧ (I (ad g 43) 8).toInt ≤ K) (hWD : WD (I (ad g 44)) (I (ad g 48)) (I (ad g 24)) (I (ad g 25)) (I (ad g 26)) (J (ad g 45)) K ah.toInt ea.toInt da.toInt) : SP g mX2_weighDay [.ref (ad g 43), .int ea, .int so, .int da, .int ah] I J R (fun r I' J' R' => (XI g n L I' ∧ R' = R ∧ fz 74 g [43, 47] I I' ∧ J' = J ∧ (VIS (J (ad g 45)) ah.toInt 6 0 (FV (I' (ad g 47)) (594 + K)) ∧ VIS (J (ad g 45)) ah.toInt 6 0 (FU (I (ad g 44)) (J (ad g 45)) ah.toInt ea.toInt (I' (ad g 43) 1).toInt))) ∧ ∃ v : Int32, r = some (.int v) ∧ 0 ≤ v.toInt ∧ v.toInt ≤ 17226 ∧ v.toInt ≤ 594 + K) := by
  refine SP_of ⟨by decide, rfl⟩ (Nat.le_of_ble_eq_true rfl) ?_
  have e12292 : I (ad g 1) 1 = L := hI.2
  have b12293 := BT_get hI.1 1 1 2 (0) (0) (900) (by decide) 1 (by decide) (by decide)
  rw [e12292] at b12293
  have fr0 : fz 74 g [43, 47] I I := fz_rf
  obtain ⟨w12294, ew12294⟩ : ∃ w : Int32, I (ad g 43) 8 = w := ⟨_, rfl⟩
  have hml0 := hml
  rw [ew12294] at hml0
  refine WP_aload_n dX2_weighDay_0 rfl ?_
  refine WP_getr dX2_weighDay_1 fX2_32 rfl (lyx_is hy 43 2 rfl) (rfx hr 43 2 5 (by decide)) ?_
  refine WP_getr dX2_weighDay_4 fX2_46 rfl (lyx_is hy 5 0 rfl) hT ?_
  refine WP_getr dX2_weighDay_7 fX2_120 rfl (lyx_is hy 27 7 rfl) (rfx hr 27 7 30 (by decide)) ?_
  refine WP_iload_n dX2_weighDay_10 rfl ?_
  refine WQ_iald dX2_weighDay_11 (lyx_is hy 30 13 rfl) (lyx_n hy 30 4 rfl) (by omega) (by omega) (fun q hq => BT_get hI.1 30 0 4 (0) (0) (1000) (by decide) q (Nat.zero_le _) hq) (fun v12295 av12295 bv12295 ev12295 => ?_)
  refine WP_istore (ls' := [(0, _), (1, _), (2, _), (3, _), (4, _), (5, _)]) dX2_weighDay_12 (by decide) rfl ?_
  refine WQ_iconst (0) (0) dX2_weighDay_14 rfl rfl (fun v12296 hv12296 => ?_)
  refine WP_istore (ls' := [(0, _), (1, _), (2, _), (3, _), (4, _), (5, _), (6, _)]) dX2_weighDay_15 (by decide) rfl ?_
  refine WQ_iconst (0) (0) dX2_weighDay_17 rfl rfl (fun v12297 hv12297 => ?_)
  refine WP_istore (ls' := [(0, _), (1, _), (2, _), (3, _), (4, _), (5, _), (6, _), (7, _)]) dX2_weighDay_18 (by decide) rfl ?_
  have lp20_12303 : ∀ (mz : Nat) (i12298 : Int32) (i12299 : Int32) (I12300 : pI), XI g n L I12300 → fz 74 g [43, 47] I I12300 → ∀ (w12302 : Int32), I12300 (ad g 43) 1 = w12302 → ∀ (w12303 : Int32), I12300 (ad g 43) 8 = w12303 → 0 ≤ i12298.toInt → i12298.toInt ≤ 17226 → 0 ≤ i12299.toInt → i12299.toInt ≤ 6 → i12298.toInt ≤ 594 + K → w12303.toInt = w12294.toInt → (VIS (J (ad g 45)) ah.toInt i12299.toInt 0 (FV (I12300 (ad g 47)) (594 + K))) → (VIS (J (ad g 45)) ah.toInt i12299.toInt 0 (FU (I (ad g 44)) (J (ad g 45)) ah.toInt ea.toInt w12302.toInt)) → (7 - i12299.toInt).toNat < mz → WP g mX2_weighDay 20 [(0, .ref (ad g 43)), (1, .int ea), (2, .int so), (3, .int da), (4, .int ah), (5, .int v12295), (6, .int i12298), (7, .int i12299)] [] I12300 J R (fun r I' J' R' => (XI g n L I' ∧ R' = R ∧ fz 74 g [43, 47] I I' ∧ J' = J ∧ (VIS (J (ad g 45)) ah.toInt 6 0 (FV (I' (ad g 47)) (594 + K)) ∧ VIS (J (ad g 45)) ah.toInt 6 0 (FU (I (ad g 44)) (J (ad g 45)) ah.toInt ea.toInt (I' (ad g 43) 1).toInt))) ∧ ∃ v : Int32, r = some (.int v) ∧ 0 ≤ v.toInt ∧ v.toInt ≤ 17226 ∧ v.toInt ≤ 594 + K) := by
    intro mz
    induction mz with
    | zero =>
      intro i12298 i12299 I12300 hI12300 fiI12300 w12302 ew12302 w12303 ew12303 ai12298 bi12298 ai12299 bi12299 j0_I12300_12300 j1_I12300_12300 PV_I12300_12300 PU_I12300_12300 hmlp20_12303
      exact absurd hmlp20_12303 (Nat.not_lt_zero _)
    | succ mz ihlp20_12303 =>
      intro i12298 i12299 I12300 hI12300 fiI12300 w12302 ew12302 w12303 ew12303 ai12298 bi12298 ai12299 bi12299 j0_I12300_12300 j1_I12300_12300 PV_I12300_12300 PU_I12300_12300 hmlp20_12303
      have bw12302 := BT_get hI12300.1 43 1 2 (0) (0) (47) (by decide) 1 (by decide) (by decide)
      rw [ew12302] at bw12302
      have e12305 : I12300 (ad g 1) 1 = L := hI12300.2
      have b12306 := BT_get hI12300.1 1 1 2 (0) (0) (900) (by decide) 1 (by decide) (by decide)
      rw [e12305] at b12306
      refine WP_iload dX2_weighDay_20 rfl ?_
      refine WQ_bipush (6) (6) dX2_weighDay_22 rfl rfl (fun v12307 hv12307 => ?_)
      refine WQ_icmp_ge 146 dX2_weighDay_24 rfl (fun c12307 => ?_) (fun c12307 => ?_)
      · refine WP_iload dX2_weighDay_146 rfl ?_
        exact WP_iret dX2_weighDay_148 rfl ⟨⟨hI12300, rfl, fiI12300, rfl, ⟨by rw [show (6 : Int) = i12299.toInt by omega]; exact PV_I12300_12300, by rw [show (6 : Int) = i12299.toInt by omega, ew12302]; exact PU_I12300_12300⟩⟩, _, rfl, by omega, by omega, by omega⟩
      · refine WP_aload_n dX2_weighDay_27 rfl ?_
        refine WP_getr dX2_weighDay_28 fX2_18 rfl (lyx_is hy 43 2 rfl) (rfx hr 43 4 45 (by decide)) ?_
        refine WP_iload dX2_weighDay_31 rfl ?_
        refine WQ_bipush (6) (6) dX2_weighDay_33 rfl rfl (fun v12309 hv12309 => ?_)
        refine WQ_imulk (6) dX2_weighDay_35 hv12309 (by omega) (by omega) (fun v12310 hv12310 => ?_)
        refine WP_iload dX2_weighDay_36 rfl ?_
        refine WQ_iadd dX2_weighDay_38 (by omega) (by omega) (fun v12311 hv12311 => ?_)
        refine WQ_laldx dX2_weighDay_39 (lyx_is hy 45 14 rfl) (lyx_n hy 45 168 rfl) (by omega) (by omega) (fun l12312 el12312 => ?_)
        refine WP_lstore (ls' := [(0, _), (1, _), (2, _), (3, _), (4, _), (5, _), (6, _), (7, _), (8, _)]) dX2_weighDay_40 (by decide) rfl ?_
        refine WQ_iconst (0) (0) dX2_weighDay_42 rfl rfl (fun v12313 hv12313 => ?_)
        refine WP_istore (ls' := [(0, _), (1, _), (2, _), (3, _), (4, _), (5, _), (6, _), (7, _), (8, _), (10, _)]) dX2_weighDay_43 (by decide) rfl ?_
        have lp45_12319 : ∀ (mz : Nat) (i12314 : Int32) (i12315 : Int32) (I12316 : pI), XI g n L I12316 → fz 74 g [43, 47] I I12316 → ∀ (w12318 : Int32), I12316 (ad g 43) 1 = w12318 → ∀ (w12319 : Int32), I12316 (ad g 43) 8 = w12319 → 0 ≤ i12314.toInt → i12314.toInt ≤ 17226 → 0 ≤ i12315.toInt → i12315.toInt ≤ 61 → i12314.toInt ≤ 594 + K → w12319.toInt = w12294.toInt → (VIS (J (ad g 45)) ah.toInt i12299.toInt i12315.toInt (FV (I12316 (ad g 47)) (594 + K))) → (VIS (J (ad g 45)) ah.toInt i12299.toInt i12315.toInt (FU (I (ad g 44)) (J (ad g 45)) ah.toInt ea.toInt w12318.toInt)) → (62 - i12315.toInt).toNat < mz → WP g mX2_weighDay 45 [(0, .ref (ad g 43)), (1, .int ea), (2, .int so), (3, .int da), (4, .int ah), (5, .int v12295), (6, .int i12314), (7, .int i12299), (8, .long l12312), (10, .int i12315)] [] I12316 J R (fun r I' J' R' => (XI g n L I' ∧ R' = R ∧ fz 74 g [43, 47] I I' ∧ J' = J ∧ (VIS (J (ad g 45)) ah.toInt 6 0 (FV (I' (ad g 47)) (594 + K)) ∧ VIS (J (ad g 45)) ah.toInt 6 0 (FU (I (ad g 44)) (J (ad g 45)) ah.toInt ea.toInt (I' (ad g 43) 1).toInt))) ∧ ∃ v : Int32, r = some (.int v) ∧ 0 ≤ v.toInt ∧ v.toInt ≤ 17226 ∧ v.toInt ≤ 594 + K) := by
          intro mz
          induction mz with
          | zero =>
            intro i12314 i12315 I12316 hI12316 fiI12316 w12318 ew12318 w12319 ew12319 ai12314 bi12314 ai12315 bi12315 j0_I12316_12316 j1_I12316_12316 PV_I12316_12316 PU_I12316_12316 hmlp45_12319
            exact absurd hmlp45_12319 (Nat.not_lt_zero _)
          | succ mz ihlp45_12319 =>
            intro i12314 i12315 I12316 hI12316 fiI12316 w12318 ew12318 w12319 ew12319 ai12314 bi12314 ai12315 bi12315 j0_I12316_12316 j1_I12316_12316 PV_I12316_12316 PU_I12316_12316 hmlp45_12319
            have bw12318 := BT_get hI12316.1 43 1 2 (0) (0) (47) (by decide) 1 (by decide) (by decide)
            rw [ew12318] at bw12318
            have e12321 : I12316 (ad g 1) 1 = L := hI12316.2
            have b12322 := BT_get hI12316.1 1 1 2 (0) (0) (900) (by decide) 1 (by decide) (by decide)
            rw [e12321] at b12322
            refine WP_iload dX2_weighDay_45 rfl ?_
            refine WQ_bipush (61) (61) dX2_weighDay_47 rfl rfl (fun v12323 hv12323 => ?_)
            refine WQ_icmp_ge 140 dX2_weighDay_49 rfl (fun c12323 => ?_) (fun c12323 => ?_)
            · refine WP_iinc (ls' := [(0, _), (1, _), (2, _), (3, _), (4, _), (5, _), (6, _), (7, _), (8, _), (10, _)]) dX2_weighDay_140 rfl (by decide) rfl ?_
              have hv12325 : (i12299 + Int32.ofInt (1)).toInt = i12299.toInt + (1) := ia_n rfl (by omega) (by omega)
              generalize i12299 + Int32.ofInt (1) = v12325 at hv12325 ⊢
              refine WP_goto 20 dX2_weighDay_143 rfl ?_
              exact WP_sub (fc rfl (fc rfl (fc rfl (fc rfl (fc rfl (fc rfl (fc rfl (fc rfl fn)))))))) (ihlp20_12303 i12314 v12325 I12316 hI12316 fiI12316 w12318 ew12318 w12319 ew12319 (by omega) (by omega) (by omega) (by omega) (by omega) (by omega) (VIS_next PV_I12316_12316 hv12325 (by omega)) (VIS_next PU_I12316_12316 hv12325 (by omega)) (by omega))
            · refine WP_lload dX2_weighDay_52 rfl ?_
              refine WP_iload dX2_weighDay_54 rfl ?_
              refine WQ_lushrx dX2_weighDay_56 (by omega) (by omega) (fun l12326 ql12326 => ?_)
              refine WP_lconst (0) dX2_weighDay_57 rfl ?_
              obtain ⟨l12327, hl12327, el12327⟩ : ∃ v : Int64, v.toInt = 0 ∧ (0 : Int64) = v := ⟨_, rfl, rfl⟩
              rw [el12327]; clear el12327
              refine WQ_lcmp dX2_weighDay_58 (fun v12328 av12328 bv12328 => ?_)
              refine WQ_if_eq 140 dX2_weighDay_59 rfl (fun c12328 => ?_) (fun c12328 => ?_)
              · refine WP_iinc (ls' := [(0, _), (1, _), (2, _), (3, _), (4, _), (5, _), (6, _), (7, _), (8, _), (10, _)]) dX2_weighDay_140 rfl (by decide) rfl ?_
                have hv12330 : (i12299 + Int32.ofInt (1)).toInt = i12299.toInt + (1) := ia_n rfl (by omega) (by omega)
                generalize i12299 + Int32.ofInt (1) = v12330 at hv12330 ⊢
                refine WP_goto 20 dX2_weighDay_143 rfl ?_
                exact WP_sub (fc rfl (fc rfl (fc rfl (fc rfl (fc rfl (fc rfl (fc rfl (fc rfl fn)))))))) (ihlp20_12303 i12314 v12330 I12316 hI12316 fiI12316 w12318 ew12318 w12319 ew12319 (by omega) (by omega) (by omega) (by omega) (by omega) (by omega) (VIS_exit PV_I12316_12316 hv12330 (by rw [show (6 * ah.toInt + i12299.toInt).toNat = v12311.toInt.toNat by omega]; exact el12312) ql12326 (by omega)) (VIS_exit PU_I12316_12316 hv12330 (by rw [show (6 * ah.toInt + i12299.toInt).toNat = v12311.toInt.toNat by omega]; exact el12312) ql12326 (by omega)) (by omega))
              · refine WP_lload dX2_weighDay_62 rfl ?_
                refine WP_iload dX2_weighDay_64 rfl ?_
                refine WQ_lushrx dX2_weighDay_66 (by omega) (by omega) (fun l12331 ql12331 => ?_)
                refine WP_lconst (1) dX2_weighDay_67 rfl ?_
                obtain ⟨l12332, hl12332, el12332⟩ : ∃ v : Int64, v.toInt = 1 ∧ (1 : Int64) = v := ⟨_, rfl, rfl⟩
                rw [el12332]; clear el12332
                refine WQ_land1 dX2_weighDay_68 hl12332 (fun l12333 ql12333 => ?_)
                refine WP_lconst (0) dX2_weighDay_69 rfl ?_
                obtain ⟨l12334, hl12334, el12334⟩ : ∃ v : Int64, v.toInt = 0 ∧ (0 : Int64) = v := ⟨_, rfl, rfl⟩
                rw [el12334]; clear el12334
                refine WQ_lcmp dX2_weighDay_70 (fun v12335 av12335 bv12335 => ?_)
                refine WQ_if_eq 134 dX2_weighDay_71 rfl (fun c12335 => ?_) (fun c12335 => ?_)
                · refine WP_iinc (ls' := [(0, _), (1, _), (2, _), (3, _), (4, _), (5, _), (6, _), (7, _), (8, _), (10, _)]) dX2_weighDay_134 rfl (by decide) rfl ?_
                  have hv12337 : (i12315 + Int32.ofInt (1)).toInt = i12315.toInt + (1) := ia_n rfl (by omega) (by omega)
                  generalize i12315 + Int32.ofInt (1) = v12337 at hv12337 ⊢
                  refine WP_goto 45 dX2_weighDay_137 rfl ?_
                  exact WP_sub (fc rfl (fc rfl (fc rfl (fc rfl (fc rfl (fc rfl (fc rfl (fc rfl (fc rfl (fc rfl fn)))))))))) (ihlp45_12319 i12314 v12337 I12316 hI12316 fiI12316 w12318 ew12318 w12319 ew12319 (by omega) (by omega) (by omega) (by omega) (by omega) (by omega) (VIS_skip PV_I12316_12316 (by rw [show (6 * ah.toInt + i12299.toInt).toNat = v12311.toInt.toNat by omega]; exact el12312) ((bt_z ql12333 ql12331).mp (by omega)) hv12337) (VIS_skip PU_I12316_12316 (by rw [show (6 * ah.toInt + i12299.toInt).toNat = v12311.toInt.toNat by omega]; exact el12312) ((bt_z ql12333 ql12331).mp (by omega)) hv12337) (by omega))
                · have bk : bt l12312 i12315.toInt := Classical.byContradiction (fun hn => absurd ((bt_z ql12333 ql12331).mpr hn) (by omega))
                  have bj12337 : bt (J (ad g 45) (6 * ah.toInt + i12299.toInt).toNat) i12315.toInt := by rw [show (6 * ah.toInt + i12299.toInt).toNat = v12311.toInt.toNat by omega, el12312]; exact bk
                  clear bk
                  refine WP_aload_n dX2_weighDay_74 rfl ?_
                  refine WQ_bipush (60) (60) dX2_weighDay_75 rfl rfl (fun v12339 hv12339 => ?_)
                  refine WP_iload dX2_weighDay_77 rfl ?_
                  refine WP_iload_n dX2_weighDay_79 rfl ?_
                  refine WQ_iadd dX2_weighDay_80 (by omega) (by omega) (fun v12340 hv12340 => ?_)
                  refine WQ_min dX2_weighDay_81 lX2_101 ⟨by decide, Nat.le_of_ble_eq_true rfl⟩ (fun v12341 av12341 bv12341 cv12341 => ?_)
                  refine WP_iload dX2_weighDay_84 rfl ?_
                  refine WP_iload_n dX2_weighDay_86 rfl ?_
                  have cev12341 : CE i12315.toInt v12341.toInt ea.toInt := by unfold CE; omega
                  refine WP_callV3 (k := 2) dX2_weighDay_87 ⟨⟨⟨by decide, by decide⟩, zX2_weigh⟩, lX2_123, by decide, rfl, vX2_weigh.1, vX2_weigh.2⟩ (lyx_is hy 43 2 rfl) (sx_weighx_48 hy hr hI12316 v12341 i12299 da (by omega) (by omega) (by omega) (by omega) (by omega) (by omega) (K := K) (by omega) hL (by rw [ew12319]; omega) (by rw [fz_at fiI12316 44 (by decide) (by decide), fz_at fiI12316 48 (by decide) (by decide), fz_at fiI12316 24 (by decide) (by decide), fz_at fiI12316 25 (by decide) (by decide), fz_at fiI12316 26 (by decide) (by decide)]; exact hWD _ _ _ (by omega) (by omega) (by omega) (by omega) bj12337 cev12341)) (Nat.le_of_ble_eq_true rfl) ?_
                  intro r I12342 J12343 Ra hq
                  obtain ⟨⟨hI12342, ec, fiI12342, ejI12342, pI12342⟩, rfl⟩ := hq
                  rw [ec]
                  clear ec Ra
                  have fr12344 : fz 74 g [43, 47] I I12342 := fz_tr fiI12316 (fz_mono fiI12342 (by decide))
                  rw [ejI12342]
                  clear ejI12342 J12343
                  have VI12342 := PV_I12316_12316
                  rw [← fz_at fiI12342 47 (by decide) (by decide)] at VI12342
                  obtain ⟨paI12342, pbI12342, pcI12342, pdI12342⟩ := pI12342
                  rw [fz_at fiI12316 44 (by decide) (by decide)] at pcI12342
                  have UI12342 := FU_step PU_I12316_12316 (by omega) (by omega) bj12337 cev12341 pcI12342
                  have e12345 : I12342 (ad g 1) 1 = L := hI12342.2
                  have b12346 := BT_get hI12342.1 1 1 2 (0) (0) (900) (by decide) 1 (by decide) (by decide)
                  rw [e12345] at b12346
                  obtain ⟨w12347, ew12347⟩ : ∃ w : Int32, I12342 (ad g 43) 0 = w := ⟨_, rfl⟩
                  obtain ⟨w12348, ew12348⟩ : ∃ w : Int32, I12342 (ad g 43) 1 = w := ⟨_, rfl⟩
                  have bw12348 := BT_get hI12342.1 43 1 2 (0) (0) (47) (by decide) 1 (by decide) (by decide)
                  rw [ew12348] at bw12348
                  obtain ⟨w12349, ew12349⟩ : ∃ w : Int32, I12342 (ad g 43) 8 = w := ⟨_, rfl⟩
                  rw [ew12347] at paI12342 pbI12342
                  rw [ew12349] at pdI12342
                  rw [ew12319] at pdI12342
                  have peI12342 : w12349.toInt = w12319.toInt := by rw [pdI12342]
                  have WI12342 := UI12342
                  rw [ew12348] at WI12342
                  refine WP_aload_n dX2_weighDay_90 rfl ?_
                  refine WP_getr dX2_weighDay_91 fX2_25 rfl (lyx_is hy 43 2 rfl) hN ?_
                  refine WP_iload dX2_weighDay_94 rfl ?_
                  refine WQ_bipush (61) (61) dX2_weighDay_96 rfl rfl (fun v12350 hv12350 => ?_)
                  refine WQ_imulk (61) dX2_weighDay_98 hv12350 (by omega) (by omega) (fun v12351 hv12351 => ?_)
                  refine WP_iload dX2_weighDay_99 rfl ?_
                  refine WQ_iadd dX2_weighDay_101 (by omega) (by omega) (fun v12352 hv12352 => ?_)
                  refine WP_aload_n dX2_weighDay_102 rfl ?_
                  refine WQ_getim dX2_weighDay_103 fX2_127 rfl (lyx_is hy 43 2 rfl) ew12347 ?_
                  refine WP_iload dX2_weighDay_106 rfl ?_
                  refine WQ_imulb (17226) (1000) dX2_weighDay_108 ⟨by omega, by omega⟩ ⟨by omega, by omega⟩ (by decide) (fun v12353 pv12353 av12353 bv12353 cv12353 => ?_)
                  refine WQ_sipush (1000) (1000) dX2_weighDay_109 rfl rfl (fun v12354 hv12354 => ?_)
                  refine WQ_idivk (1000) dX2_weighDay_112 hv12354 (by decide) (by omega) (fun v12355 hv12355 => ?_)
                  refine WQ_iast dX2_weighDay_113 (lyx_is hy 47 13 rfl) (lyx_n hy 47 366 rfl) (by omega) (by omega) (fun I12356 eI12356 => ?_)
                  have hI12356 : XI g n L I12356 := by rw [eI12356]; exact (xi_r0 hy hI12342 (c := 47) (by decide) (Or.inl (by decide)) (by decide))
                  have e12357 : I12356 (ad g 1) 1 = L := by rw [eI12356, pp_ne _ _ (Or.inl (lyx_ne hy (by decide) (by decide) (by decide)))]; exact e12345
                  have e12358 : I12356 (ad g 43) 0 = w12347 := by rw [eI12356, pp_ne _ _ (Or.inl (lyx_ne hy (by decide) (by decide) (by decide)))]; exact ew12347
                  have e12359 : I12356 (ad g 43) 1 = w12348 := by rw [eI12356, pp_ne _ _ (Or.inl (lyx_ne hy (by decide) (by decide) (by decide)))]; exact ew12348
                  have e12360 : I12356 (ad g 43) 8 = w12349 := by rw [eI12356, pp_ne _ _ (Or.inl (lyx_ne hy (by decide) (by decide) (by decide)))]; exact ew12349
                  have fr12361 : fz 74 g [43, 47] I I12356 := by rw [eI12356]; exact fzx_pp hy fr12344 (by decide) (by decide)
                  have xI12356 := eI12356
                  rw [cl (x := v12352) (n := v12352.toInt.toNat) (by omega)] at xI12356
                  have VI12356 := FV_step VI12342 xI12356 (by omega) (by omega) (by omega) (by omega) (by omega)
                  have rvI12356 : I12356 (ad g 47) v12352.toInt.toNat = v12355 := by rw [xI12356]; exact pp_self _ _ _ _
                  clear eI12356
                  refine WP_iload dX2_weighDay_114 rfl ?_
                  refine WP_aload_n dX2_weighDay_116 rfl ?_
                  refine WP_getr dX2_weighDay_117 fX2_25 rfl (lyx_is hy 43 2 rfl) hN ?_
                  refine WP_iload dX2_weighDay_120 rfl ?_
                  refine WQ_bipush (61) (61) dX2_weighDay_122 rfl rfl (fun v12362 hv12362 => ?_)
                  refine WQ_imulk (61) dX2_weighDay_124 hv12362 (by omega) (by omega) (fun v12363 hv12363 => ?_)
                  refine WP_iload dX2_weighDay_125 rfl ?_
                  refine WQ_iadd dX2_weighDay_127 (by omega) (by omega) (fun v12364 hv12364 => ?_)
                  refine WQ_ialdx dX2_weighDay_128 (lyx_is hy 47 13 rfl) (lyx_n hy 47 366 rfl) (by omega) (by omega) (fun v12365 zv12365 => ?_)
                  have tv12365 : v12365.toInt = v12355.toInt := by rw [← zv12365, show v12364.toInt.toNat = v12352.toInt.toNat by omega, rvI12356]
                  refine WQ_max dX2_weighDay_129 lX2_130 ⟨by decide, Nat.le_of_ble_eq_true rfl⟩ (fun v12366 av12366 bv12366 cv12366 => ?_)
                  refine WP_istore (ls' := [(0, _), (1, _), (2, _), (3, _), (4, _), (5, _), (6, _), (7, _), (8, _), (10, _)]) dX2_weighDay_132 (by decide) rfl ?_
                  refine WP_iinc (ls' := [(0, _), (1, _), (2, _), (3, _), (4, _), (5, _), (6, _), (7, _), (8, _), (10, _)]) dX2_weighDay_134 rfl (by decide) rfl ?_
                  have hv12367 : (i12315 + Int32.ofInt (1)).toInt = i12315.toInt + (1) := ia_n rfl (by omega) (by omega)
                  generalize i12315 + Int32.ofInt (1) = v12367 at hv12367 ⊢
                  refine WP_goto 45 dX2_weighDay_137 rfl ?_
                  exact WP_sub (fc rfl (fc rfl (fc rfl (fc rfl (fc rfl (fc rfl (fc rfl (fc rfl (fc rfl (fc rfl fn)))))))))) (ihlp45_12319 v12366 v12367 I12356 hI12356 fr12361 w12348 e12359 w12349 e12360 (by omega) (by omega) (by omega) (by omega) (by omega) (by omega) (by rw [hv12367]; exact VI12356) (by rw [hv12367]; exact WI12342) (by omega))
        exact WP_sub (fc rfl (fc rfl (fc rfl (fc rfl (fc rfl (fc rfl (fc rfl (fc rfl (fc rfl (fc rfl fn)))))))))) (lp45_12319 _ i12298 v12313 I12300 hI12300 fiI12300 w12302 ew12302 w12303 ew12303 (by omega) (by omega) (by omega) (by omega) (by omega) (by omega) (VIS_c0 PV_I12300_12300 (by omega)) (VIS_c0 PU_I12300_12300 (by omega)) (Nat.lt_succ_self _))
  obtain ⟨w12368, ew12368⟩ : ∃ w : Int32, I (ad g 43) 1 = w := ⟨_, rfl⟩
  have bw12368 := BT_get hI.1 43 1 2 (0) (0) (47) (by decide) 1 (by decide) (by decide)
  rw [ew12368] at bw12368
  exact WP_sub (fc rfl (fc rfl (fc rfl (fc rfl (fc rfl (fc rfl (fc rfl (fc rfl fn)))))))) (lp20_12303 _ v12296 v12297 I hI fr0 w12368 ew12368 w12294 ew12294 (by omega) (by omega) (by omega) (by omega) (by omega) (by omega) (VIS_0 (by omega) rfl) (VIS_0 (by omega) rfl) (Nat.lt_succ_self _))
