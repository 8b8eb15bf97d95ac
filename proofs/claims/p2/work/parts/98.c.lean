set_option maxHeartbeats 4000000 in
set_option maxRecDepth 100000 in
theorem sx_weighDayx_47_6 {g : GG} {n : Int} {L : Int32} (hy : LyX g)  {I : pI} {J : pJ} {R : pR} (hr : RfX g R) (hT : R (ad g 5) 0 = some (ad g 6)) (hI : XI g n L I) (ea : Int32) (so : Int32) (da : Int32) (ah : Int32) (ea_lo : 0 ≤ ea.toInt) (ea_hi : ea.toInt ≤ 20) (so_lo : 0 ≤ so.toInt) (so_hi : so.toInt ≤ 3) (da_lo : 0 ≤ da.toInt) (da_hi : da.toInt ≤ 6) (ah_lo : 0 ≤ ah.toInt) (ah_hi : ah.toInt ≤ 27) {K : Int} (hK : 0 ≤ K ∧ K ≤ 16038) (hL : R (ad g 43) 7 = some (ad g 47)) (hN : R (ad g 43) 6 = some (ad g 48)) (hml : 0 ≤ (I (ad g 43) 8).toInt ∧ (I (ad g 43) 8).toInt ≤ K) (hWD : WD (I (ad g 44)) (I (ad g 47)) (I (ad g 24)) (I (ad g 25)) (I (ad g 26)) (J (ad g 45)) K ah.toInt ea.toInt da.toInt) : SP g mX2_weighDay [.ref (ad g 43), .int ea, .int so, .int da, .int ah] I J R (fun r I' J' R' => (XI g n L I' ∧ R' = R ∧ fz 74 g [43, 48] I I' ∧ J' = J ∧ (VIS (J (ad g 45)) ah.toInt 6 0 (FV (I' (ad g 48)) (594 + K)) ∧ VIS (J (ad g 45)) ah.toInt 6 0 (FU (I (ad g 44)) (J (ad g 45)) ah.toInt ea.toInt (I' (ad g 43) 1).toInt))) ∧ ∃ v : Int32, r = some (.int v) ∧ 0 ≤ v.toInt ∧ v.toInt ≤ 17226 ∧ v.toInt ≤ 594 + K) := by
  refine SP_of ⟨by decide, rfl⟩ (Nat.le_of_ble_eq_true rfl) ?_
  have e11505 : I (ad g 1) 1 = L := hI.2
  have b11506 := BT_get hI.1 1 1 2 (0) (0) (900) (by decide) 1 (by decide) (by decide)
  rw [e11505] at b11506
  have fr0 : fz 74 g [43, 48] I I := fz_rf
  obtain ⟨w11507, ew11507⟩ : ∃ w : Int32, I (ad g 43) 8 = w := ⟨_, rfl⟩
  have hml0 := hml
  rw [ew11507] at hml0
  refine WP_aload_n dX2_weighDay_0 rfl ?_
  refine WP_getr dX2_weighDay_1 fX2_32 rfl (lyx_is hy 43 2 rfl) (rfx hr 43 2 5 (by decide)) ?_
  refine WP_getr dX2_weighDay_4 fX2_46 rfl (lyx_is hy 5 0 rfl) hT ?_
  refine WP_getr dX2_weighDay_7 fX2_120 rfl (lyx_is hy 6 7 rfl) (rfx hr 6 7 9 (by decide)) ?_
  refine WP_iload_n dX2_weighDay_10 rfl ?_
  refine WQ_iald dX2_weighDay_11 (lyx_is hy 9 13 rfl) (lyx_n hy 9 4 rfl) (by omega) (by omega) (fun q hq => BT_get hI.1 9 0 4 (0) (0) (1000) (by decide) q (Nat.zero_le _) hq) (fun v11508 av11508 bv11508 ev11508 => ?_)
  refine WP_istore (ls' := [(0, _), (1, _), (2, _), (3, _), (4, _), (5, _)]) dX2_weighDay_12 (by decide) rfl ?_
  refine WQ_iconst (0) (0) dX2_weighDay_14 rfl rfl (fun v11509 hv11509 => ?_)
  refine WP_istore (ls' := [(0, _), (1, _), (2, _), (3, _), (4, _), (5, _), (6, _)]) dX2_weighDay_15 (by decide) rfl ?_
  refine WQ_iconst (0) (0) dX2_weighDay_17 rfl rfl (fun v11510 hv11510 => ?_)
  refine WP_istore (ls' := [(0, _), (1, _), (2, _), (3, _), (4, _), (5, _), (6, _), (7, _)]) dX2_weighDay_18 (by decide) rfl ?_
  have lp20_11516 : ∀ (mz : Nat) (i11511 : Int32) (i11512 : Int32) (I11513 : pI), XI g n L I11513 → fz 74 g [43, 48] I I11513 → ∀ (w11515 : Int32), I11513 (ad g 43) 1 = w11515 → ∀ (w11516 : Int32), I11513 (ad g 43) 8 = w11516 → 0 ≤ i11511.toInt → i11511.toInt ≤ 17226 → 0 ≤ i11512.toInt → i11512.toInt ≤ 6 → i11511.toInt ≤ 594 + K → w11516.toInt = w11507.toInt → (VIS (J (ad g 45)) ah.toInt i11512.toInt 0 (FV (I11513 (ad g 48)) (594 + K))) → (VIS (J (ad g 45)) ah.toInt i11512.toInt 0 (FU (I (ad g 44)) (J (ad g 45)) ah.toInt ea.toInt w11515.toInt)) → (7 - i11512.toInt).toNat < mz → WP g mX2_weighDay 20 [(0, .ref (ad g 43)), (1, .int ea), (2, .int so), (3, .int da), (4, .int ah), (5, .int v11508), (6, .int i11511), (7, .int i11512)] [] I11513 J R (fun r I' J' R' => (XI g n L I' ∧ R' = R ∧ fz 74 g [43, 48] I I' ∧ J' = J ∧ (VIS (J (ad g 45)) ah.toInt 6 0 (FV (I' (ad g 48)) (594 + K)) ∧ VIS (J (ad g 45)) ah.toInt 6 0 (FU (I (ad g 44)) (J (ad g 45)) ah.toInt ea.toInt (I' (ad g 43) 1).toInt))) ∧ ∃ v : Int32, r = some (.int v) ∧ 0 ≤ v.toInt ∧ v.toInt ≤ 17226 ∧ v.toInt ≤ 594 + K) := by
    intro mz
    induction mz with
    | zero =>
      intro i11511 i11512 I11513 hI11513 fiI11513 w11515 ew11515 w11516 ew11516 ai11511 bi11511 ai11512 bi11512 j0_I11513_11513 j1_I11513_11513 PV_I11513_11513 PU_I11513_11513 hmlp20_11516
      exact absurd hmlp20_11516 (Nat.not_lt_zero _)
    | succ mz ihlp20_11516 =>
      intro i11511 i11512 I11513 hI11513 fiI11513 w11515 ew11515 w11516 ew11516 ai11511 bi11511 ai11512 bi11512 j0_I11513_11513 j1_I11513_11513 PV_I11513_11513 PU_I11513_11513 hmlp20_11516
      have bw11515 := BT_get hI11513.1 43 1 2 (0) (0) (47) (by decide) 1 (by decide) (by decide)
      rw [ew11515] at bw11515
      have e11518 : I11513 (ad g 1) 1 = L := hI11513.2
      have b11519 := BT_get hI11513.1 1 1 2 (0) (0) (900) (by decide) 1 (by decide) (by decide)
      rw [e11518] at b11519
      refine WP_iload dX2_weighDay_20 rfl ?_
      refine WQ_bipush (6) (6) dX2_weighDay_22 rfl rfl (fun v11520 hv11520 => ?_)
      refine WQ_icmp_ge 146 dX2_weighDay_24 rfl (fun c11520 => ?_) (fun c11520 => ?_)
      · refine WP_iload dX2_weighDay_146 rfl ?_
        exact WP_iret dX2_weighDay_148 rfl ⟨⟨hI11513, rfl, fiI11513, rfl, ⟨by rw [show (6 : Int) = i11512.toInt by omega]; exact PV_I11513_11513, by rw [show (6 : Int) = i11512.toInt by omega, ew11515]; exact PU_I11513_11513⟩⟩, _, rfl, by omega, by omega, by omega⟩
      · refine WP_aload_n dX2_weighDay_27 rfl ?_
        refine WP_getr dX2_weighDay_28 fX2_18 rfl (lyx_is hy 43 2 rfl) (rfx hr 43 4 45 (by decide)) ?_
        refine WP_iload dX2_weighDay_31 rfl ?_
        refine WQ_bipush (6) (6) dX2_weighDay_33 rfl rfl (fun v11522 hv11522 => ?_)
        refine WQ_imulk (6) dX2_weighDay_35 hv11522 (by omega) (by omega) (fun v11523 hv11523 => ?_)
        refine WP_iload dX2_weighDay_36 rfl ?_
        refine WQ_iadd dX2_weighDay_38 (by omega) (by omega) (fun v11524 hv11524 => ?_)
        refine WQ_laldx dX2_weighDay_39 (lyx_is hy 45 14 rfl) (lyx_n hy 45 168 rfl) (by omega) (by omega) (fun l11525 el11525 => ?_)
        refine WP_lstore (ls' := [(0, _), (1, _), (2, _), (3, _), (4, _), (5, _), (6, _), (7, _), (8, _)]) dX2_weighDay_40 (by decide) rfl ?_
        refine WQ_iconst (0) (0) dX2_weighDay_42 rfl rfl (fun v11526 hv11526 => ?_)
        refine WP_istore (ls' := [(0, _), (1, _), (2, _), (3, _), (4, _), (5, _), (6, _), (7, _), (8, _), (10, _)]) dX2_weighDay_43 (by decide) rfl ?_
        have lp45_11532 : ∀ (mz : Nat) (i11527 : Int32) (i11528 : Int32) (I11529 : pI), XI g n L I11529 → fz 74 g [43, 48] I I11529 → ∀ (w11531 : Int32), I11529 (ad g 43) 1 = w11531 → ∀ (w11532 : Int32), I11529 (ad g 43) 8 = w11532 → 0 ≤ i11527.toInt → i11527.toInt ≤ 17226 → 0 ≤ i11528.toInt → i11528.toInt ≤ 61 → i11527.toInt ≤ 594 + K → w11532.toInt = w11507.toInt → (VIS (J (ad g 45)) ah.toInt i11512.toInt i11528.toInt (FV (I11529 (ad g 48)) (594 + K))) → (VIS (J (ad g 45)) ah.toInt i11512.toInt i11528.toInt (FU (I (ad g 44)) (J (ad g 45)) ah.toInt ea.toInt w11531.toInt)) → (62 - i11528.toInt).toNat < mz → WP g mX2_weighDay 45 [(0, .ref (ad g 43)), (1, .int ea), (2, .int so), (3, .int da), (4, .int ah), (5, .int v11508), (6, .int i11527), (7, .int i11512), (8, .long l11525), (10, .int i11528)] [] I11529 J R (fun r I' J' R' => (XI g n L I' ∧ R' = R ∧ fz 74 g [43, 48] I I' ∧ J' = J ∧ (VIS (J (ad g 45)) ah.toInt 6 0 (FV (I' (ad g 48)) (594 + K)) ∧ VIS (J (ad g 45)) ah.toInt 6 0 (FU (I (ad g 44)) (J (ad g 45)) ah.toInt ea.toInt (I' (ad g 43) 1).toInt))) ∧ ∃ v : Int32, r = some (.int v) ∧ 0 ≤ v.toInt ∧ v.toInt ≤ 17226 ∧ v.toInt ≤ 594 + K) := by
          intro mz
          induction mz with
          | zero =>
            intro i11527 i11528 I11529 hI11529 fiI11529 w11531 ew11531 w11532 ew11532 ai11527 bi11527 ai11528 bi11528 j0_I11529_11529 j1_I11529_11529 PV_I11529_11529 PU_I11529_11529 hmlp45_11532
            exact absurd hmlp45_11532 (Nat.not_lt_zero _)
          | succ mz ihlp45_11532 =>
            intro i11527 i11528 I11529 hI11529 fiI11529 w11531 ew11531 w11532 ew11532 ai11527 bi11527 ai11528 bi11528 j0_I11529_11529 j1_I11529_11529 PV_I11529_11529 PU_I11529_11529 hmlp45_11532
            have bw11531 := BT_get hI11529.1 43 1 2 (0) (0) (47) (by decide) 1 (by decide) (by decide)
            rw [ew11531] at bw11531
            have e11534 : I11529 (ad g 1) 1 = L := hI11529.2
            have b11535 := BT_get hI11529.1 1 1 2 (0) (0) (900) (by decide) 1 (by decide) (by decide)
            rw [e11534] at b11535
            refine WP_iload dX2_weighDay_45 rfl ?_
            refine WQ_bipush (61) (61) dX2_weighDay_47 rfl rfl (fun v11536 hv11536 => ?_)
            refine WQ_icmp_ge 140 dX2_weighDay_49 rfl (fun c11536 => ?_) (fun c11536 => ?_)
            · refine WP_iinc (ls' := [(0, _), (1, _), (2, _), (3, _), (4, _), (5, _), (6, _), (7, _), (8, _), (10, _)]) dX2_weighDay_140 rfl (by decide) rfl ?_
              have hv11538 : (i11512 + Int32.ofInt (1)).toInt = i11512.toInt + (1) := ia_n rfl (by omega) (by omega)
              generalize i11512 + Int32.ofInt (1) = v11538 at hv11538 ⊢
              refine WP_goto 20 dX2_weighDay_143 rfl ?_
              exact WP_sub (fc rfl (fc rfl (fc rfl (fc rfl (fc rfl (fc rfl (fc rfl (fc rfl fn)))))))) (ihlp20_11516 i11527 v11538 I11529 hI11529 fiI11529 w11531 ew11531 w11532 ew11532 (by omega) (by omega) (by omega) (by omega) (by omega) (by omega) (VIS_next PV_I11529_11529 hv11538 (by omega)) (VIS_next PU_I11529_11529 hv11538 (by omega)) (by omega))
            · refine WP_lload dX2_weighDay_52 rfl ?_
              refine WP_iload dX2_weighDay_54 rfl ?_
              refine WQ_lushrx dX2_weighDay_56 (by omega) (by omega) (fun l11539 ql11539 => ?_)
              refine WP_lconst (0) dX2_weighDay_57 rfl ?_
              obtain ⟨l11540, hl11540, el11540⟩ : ∃ v : Int64, v.toInt = 0 ∧ (0 : Int64) = v := ⟨_, rfl, rfl⟩
              rw [el11540]; clear el11540
              refine WQ_lcmp dX2_weighDay_58 (fun v11541 av11541 bv11541 => ?_)
              refine WQ_if_eq 140 dX2_weighDay_59 rfl (fun c11541 => ?_) (fun c11541 => ?_)
              · refine WP_iinc (ls' := [(0, _), (1, _), (2, _), (3, _), (4, _), (5, _), (6, _), (7, _), (8, _), (10, _)]) dX2_weighDay_140 rfl (by decide) rfl ?_
                have hv11543 : (i11512 + Int32.ofInt (1)).toInt = i11512.toInt + (1) := ia_n rfl (by omega) (by omega)
                generalize i11512 + Int32.ofInt (1) = v11543 at hv11543 ⊢
                refine WP_goto 20 dX2_weighDay_143 rfl ?_
                exact WP_sub (fc rfl (fc rfl (fc rfl (fc rfl (fc rfl (fc rfl (fc rfl (fc rfl fn)))))))) (ihlp20_11516 i11527 v11543 I11529 hI11529 fiI11529 w11531 ew11531 w11532 ew11532 (by omega) (by omega) (by omega) (by omega) (by omega) (by omega) (VIS_exit PV_I11529_11529 hv11543 (by rw [show (6 * ah.toInt + i11512.toInt).toNat = v11524.toInt.toNat by omega]; exact el11525) ql11539 (by omega)) (VIS_exit PU_I11529_11529 hv11543 (by rw [show (6 * ah.toInt + i11512.toInt).toNat = v11524.toInt.toNat by omega]; exact el11525) ql11539 (by omega)) (by omega))
              · refine WP_lload dX2_weighDay_62 rfl ?_
                refine WP_iload dX2_weighDay_64 rfl ?_
                refine WQ_lushrx dX2_weighDay_66 (by omega) (by omega) (fun l11544 ql11544 => ?_)
                refine WP_lconst (1) dX2_weighDay_67 rfl ?_
                obtain ⟨l11545, hl11545, el11545⟩ : ∃ v : Int64, v.toInt = 1 ∧ (1 : Int64) = v := ⟨_, rfl, rfl⟩
                rw [el11545]; clear el11545
                refine WQ_land1 dX2_weighDay_68 hl11545 (fun l11546 ql11546 => ?_)
                refine WP_lconst (0) dX2_weighDay_69 rfl ?_
                obtain ⟨l11547, hl11547, el11547⟩ : ∃ v : Int64, v.toInt = 0 ∧ (0 : Int64) = v := ⟨_, rfl, rfl⟩
                rw [el11547]; clear el11547
                refine WQ_lcmp dX2_weighDay_70 (fun v11548 av11548 bv11548 => ?_)
                refine WQ_if_eq 134 dX2_weighDay_71 rfl (fun c11548 => ?_) (fun c11548 => ?_)
                · refine WP_iinc (ls' := [(0, _), (1, _), (2, _), (3, _), (4, _), (5, _), (6, _), (7, _), (8, _), (10, _)]) dX2_weighDay_134 rfl (by decide) rfl ?_
                  have hv11550 : (i11528 + Int32.ofInt (1)).toInt = i11528.toInt + (1) := ia_n rfl (by omega) (by omega)
                  generalize i11528 + Int32.ofInt (1) = v11550 at hv11550 ⊢
                  refine WP_goto 45 dX2_weighDay_137 rfl ?_
                  exact WP_sub (fc rfl (fc rfl (fc rfl (fc rfl (fc rfl (fc rfl (fc rfl (fc rfl (fc rfl (fc rfl fn)))))))))) (ihlp45_11532 i11527 v11550 I11529 hI11529 fiI11529 w11531 ew11531 w11532 ew11532 (by omega) (by omega) (by omega) (by omega) (by omega) (by omega) (VIS_skip PV_I11529_11529 (by rw [show (6 * ah.toInt + i11512.toInt).toNat = v11524.toInt.toNat by omega]; exact el11525) ((bt_z ql11546 ql11544).mp (by omega)) hv11550) (VIS_skip PU_I11529_11529 (by rw [show (6 * ah.toInt + i11512.toInt).toNat = v11524.toInt.toNat by omega]; exact el11525) ((bt_z ql11546 ql11544).mp (by omega)) hv11550) (by omega))
                · have bk : bt l11525 i11528.toInt := Classical.byContradiction (fun hn => absurd ((bt_z ql11546 ql11544).mpr hn) (by omega))
                  have bj11550 : bt (J (ad g 45) (6 * ah.toInt + i11512.toInt).toNat) i11528.toInt := by rw [show (6 * ah.toInt + i11512.toInt).toNat = v11524.toInt.toNat by omega, el11525]; exact bk
                  clear bk
                  refine WP_aload_n dX2_weighDay_74 rfl ?_
                  refine WQ_bipush (60) (60) dX2_weighDay_75 rfl rfl (fun v11552 hv11552 => ?_)
                  refine WP_iload dX2_weighDay_77 rfl ?_
                  refine WP_iload_n dX2_weighDay_79 rfl ?_
                  refine WQ_iadd dX2_weighDay_80 (by omega) (by omega) (fun v11553 hv11553 => ?_)
                  refine WQ_min dX2_weighDay_81 lX2_101 ⟨by decide, Nat.le_of_ble_eq_true rfl⟩ (fun v11554 av11554 bv11554 cv11554 => ?_)
                  refine WP_iload dX2_weighDay_84 rfl ?_
                  refine WP_iload_n dX2_weighDay_86 rfl ?_
                  have cev11554 : CE i11528.toInt v11554.toInt ea.toInt := by unfold CE; omega
                  refine WP_callV3 (k := 2) dX2_weighDay_87 ⟨⟨⟨by decide, by decide⟩, zX2_weigh⟩, lX2_123, by decide, rfl, vX2_weigh.1, vX2_weigh.2⟩ (lyx_is hy 43 2 rfl) (sx_weighx_47 hy hr hI11529 v11554 i11512 da (by omega) (by omega) (by omega) (by omega) (by omega) (by omega) (K := K) (by omega) hL (by rw [ew11532]; omega) (by rw [fz_at fiI11529 44 (by decide) (by decide), fz_at fiI11529 47 (by decide) (by decide), fz_at fiI11529 24 (by decide) (by decide), fz_at fiI11529 25 (by decide) (by decide), fz_at fiI11529 26 (by decide) (by decide)]; exact hWD _ _ _ (by omega) (by omega) (by omega) (by omega) bj11550 cev11554)) (Nat.le_of_ble_eq_true rfl) ?_
                  intro r I11555 J11556 Ra hq
                  obtain ⟨⟨hI11555, ec, fiI11555, ejI11555, pI11555⟩, rfl⟩ := hq
                  rw [ec]
                  clear ec Ra
                  have fr11557 : fz 74 g [43, 48] I I11555 := fz_tr fiI11529 (fz_mono fiI11555 (by decide))
                  rw [ejI11555]
                  clear ejI11555 J11556
                  have VI11555 := PV_I11529_11529
                  rw [← fz_at fiI11555 48 (by decide) (by decide)] at VI11555
                  obtain ⟨paI11555, pbI11555, pcI11555, pdI11555⟩ := pI11555
                  rw [fz_at fiI11529 44 (by decide) (by decide)] at pcI11555
                  have UI11555 := FU_step PU_I11529_11529 (by omega) (by omega) bj11550 cev11554 pcI11555
                  have e11558 : I11555 (ad g 1) 1 = L := hI11555.2
                  have b11559 := BT_get hI11555.1 1 1 2 (0) (0) (900) (by decide) 1 (by decide) (by decide)
                  rw [e11558] at b11559
                  obtain ⟨w11560, ew11560⟩ : ∃ w : Int32, I11555 (ad g 43) 0 = w := ⟨_, rfl⟩
                  obtain ⟨w11561, ew11561⟩ : ∃ w : Int32, I11555 (ad g 43) 1 = w := ⟨_, rfl⟩
                  have bw11561 := BT_get hI11555.1 43 1 2 (0) (0) (47) (by decide) 1 (by decide) (by decide)
                  rw [ew11561] at bw11561
                  obtain ⟨w11562, ew11562⟩ : ∃ w : Int32, I11555 (ad g 43) 8 = w := ⟨_, rfl⟩
                  rw [ew11560] at paI11555 pbI11555
                  rw [ew11562] at pdI11555
                  rw [ew11532] at pdI11555
                  have peI11555 : w11562.toInt = w11532.toInt := by rw [pdI11555]
                  have WI11555 := UI11555
                  rw [ew11561] at WI11555
                  refine WP_aload_n dX2_weighDay_90 rfl ?_
                  refine WP_getr dX2_weighDay_91 fX2_25 rfl (lyx_is hy 43 2 rfl) hN ?_
                  refine WP_iload dX2_weighDay_94 rfl ?_
                  refine WQ_bipush (61) (61) dX2_weighDay_96 rfl rfl (fun v11563 hv11563 => ?_)
                  refine WQ_imulk (61) dX2_weighDay_98 hv11563 (by omega) (by omega) (fun v11564 hv11564 => ?_)
                  refine WP_iload dX2_weighDay_99 rfl ?_
                  refine WQ_iadd dX2_weighDay_101 (by omega) (by omega) (fun v11565 hv11565 => ?_)
                  refine WP_aload_n dX2_weighDay_102 rfl ?_
                  refine WQ_getim dX2_weighDay_103 fX2_127 rfl (lyx_is hy 43 2 rfl) ew11560 ?_
                  refine WP_iload dX2_weighDay_106 rfl ?_
                  refine WQ_imulb (17226) (1000) dX2_weighDay_108 ⟨by omega, by omega⟩ ⟨by omega, by omega⟩ (by decide) (fun v11566 pv11566 av11566 bv11566 cv11566 => ?_)
                  refine WQ_sipush (1000) (1000) dX2_weighDay_109 rfl rfl (fun v11567 hv11567 => ?_)
                  refine WQ_idivk (1000) dX2_weighDay_112 hv11567 (by decide) (by omega) (fun v11568 hv11568 => ?_)
                  refine WQ_iast dX2_weighDay_113 (lyx_is hy 48 13 rfl) (lyx_n hy 48 366 rfl) (by omega) (by omega) (fun I11569 eI11569 => ?_)
                  have hI11569 : XI g n L I11569 := by rw [eI11569]; exact (xi_r0 hy hI11555 (c := 48) (by decide) (Or.inl (by decide)) (by decide))
                  have e11570 : I11569 (ad g 1) 1 = L := by rw [eI11569, pp_ne _ _ (Or.inl (lyx_ne hy (by decide) (by decide) (by decide)))]; exact e11558
                  have e11571 : I11569 (ad g 43) 0 = w11560 := by rw [eI11569, pp_ne _ _ (Or.inl (lyx_ne hy (by decide) (by decide) (by decide)))]; exact ew11560
                  have e11572 : I11569 (ad g 43) 1 = w11561 := by rw [eI11569, pp_ne _ _ (Or.inl (lyx_ne hy (by decide) (by decide) (by decide)))]; exact ew11561
                  have e11573 : I11569 (ad g 43) 8 = w11562 := by rw [eI11569, pp_ne _ _ (Or.inl (lyx_ne hy (by decide) (by decide) (by decide)))]; exact ew11562
                  have fr11574 : fz 74 g [43, 48] I I11569 := by rw [eI11569]; exact fzx_pp hy fr11557 (by decide) (by decide)
                  have xI11569 := eI11569
                  rw [cl (x := v11565) (n := v11565.toInt.toNat) (by omega)] at xI11569
                  have VI11569 := FV_step VI11555 xI11569 (by omega) (by omega) (by omega) (by omega) (by omega)
                  have rvI11569 : I11569 (ad g 48) v11565.toInt.toNat = v11568 := by rw [xI11569]; exact pp_self _ _ _ _
                  clear eI11569
                  refine WP_iload dX2_weighDay_114 rfl ?_
                  refine WP_aload_n dX2_weighDay_116 rfl ?_
                  refine WP_getr dX2_weighDay_117 fX2_25 rfl (lyx_is hy 43 2 rfl) hN ?_
                  refine WP_iload dX2_weighDay_120 rfl ?_
                  refine WQ_bipush (61) (61) dX2_weighDay_122 rfl rfl (fun v11575 hv11575 => ?_)
                  refine WQ_imulk (61) dX2_weighDay_124 hv11575 (by omega) (by omega) (fun v11576 hv11576 => ?_)
                  refine WP_iload dX2_weighDay_125 rfl ?_
                  refine WQ_iadd dX2_weighDay_127 (by omega) (by omega) (fun v11577 hv11577 => ?_)
                  refine WQ_ialdx dX2_weighDay_128 (lyx_is hy 48 13 rfl) (lyx_n hy 48 366 rfl) (by omega) (by omega) (fun v11578 zv11578 => ?_)
                  have tv11578 : v11578.toInt = v11568.toInt := by rw [← zv11578, show v11577.toInt.toNat = v11565.toInt.toNat by omega, rvI11569]
                  refine WQ_max dX2_weighDay_129 lX2_130 ⟨by decide, Nat.le_of_ble_eq_true rfl⟩ (fun v11579 av11579 bv11579 cv11579 => ?_)
                  refine WP_istore (ls' := [(0, _), (1, _), (2, _), (3, _), (4, _), (5, _), (6, _), (7, _), (8, _), (10, _)]) dX2_weighDay_132 (by decide) rfl ?_
                  refine WP_iinc (ls' := [(0, _), (1, _), (2, _), (3, _), (4, _), (5, _), (6, _), (7, _), (8, _), (10, _)]) dX2_weighDay_134 rfl (by decide) rfl ?_
                  have hv11580 : (i11528 + Int32.ofInt (1)).toInt = i11528.toInt + (1) := ia_n rfl (by omega) (by omega)
                  generalize i11528 + Int32.ofInt (1) = v11580 at hv11580 ⊢
                  refine WP_goto 45 dX2_weighDay_137 rfl ?_
                  exact WP_sub (fc rfl (fc rfl (fc rfl (fc rfl (fc rfl (fc rfl (fc rfl (fc rfl (fc rfl (fc rfl fn)))))))))) (ihlp45_11532 v11579 v11580 I11569 hI11569 fr11574 w11561 e11572 w11562 e11573 (by omega) (by omega) (by omega) (by omega) (by omega) (by omega) (by rw [hv11580]; exact VI11569) (by rw [hv11580]; exact WI11555) (by omega))
        exact WP_sub (fc rfl (fc rfl (fc rfl (fc rfl (fc rfl (fc rfl (fc rfl (fc rfl (fc rfl (fc rfl fn)))))))))) (lp45_11532 _ i11511 v11526 I11513 hI11513 fiI11513 w11515 ew11515 w11516 ew11516 (by omega) (by omega) (by omega) (by omega) (by omega) (by omega) (VIS_c0 PV_I11513_11513 (by omega)) (VIS_c0 PU_I11513_11513 (by omega)) (Nat.lt_succ_self _))
  obtain ⟨w11581, ew11581⟩ : ∃ w : Int32, I (ad g 43) 1 = w := ⟨_, rfl⟩
  have bw11581 := BT_get hI.1 43 1 2 (0) (0) (47) (by decide) 1 (by decide) (by decide)
  rw [ew11581] at bw11581
  exact WP_sub (fc rfl (fc rfl (fc rfl (fc rfl (fc rfl (fc rfl (fc rfl (fc rfl fn)))))))) (lp20_11516 _ v11509 v11510 I hI fr0 w11581 ew11581 w11507 ew11507 (by omega) (by omega) (by omega) (by omega) (by omega) (by omega) (VIS_0 (by omega) rfl) (VIS_0 (by omega) rfl) (Nat.lt_succ_self _))
set_option maxHeartbeats 4000000 in
set_option maxRecDepth 100000 in
theorem sx_weighDayx_47_27 {g : GG} {n : Int} {L : Int32} (hy : LyX g)  {I : pI} {J : pJ} {R : pR} (hr : RfX g R) (hT : R (ad g 5) 0 = some (ad g 27)) (hI : XI g n L I) (ea : Int32) (so : Int32) (da : Int32) (ah : Int32) (ea_lo : 0 ≤ ea.toInt) (ea_hi : ea.toInt ≤ 20) (so_lo : 0 ≤ so.toInt) (so_hi : so.toInt ≤ 3) (da_lo : 0 ≤ da.toInt) (da_hi : da.toInt ≤ 6) (ah_lo : 0 ≤ ah.toInt) (ah_hi : ah.toInt ≤ 27) {K : Int} (hK : 0 ≤ K ∧ K ≤ 16038) (hL : R (ad g 43) 7 = some (ad g 47)) (hN : R (ad g 43) 6 = some (ad g 48)) (hml : 0 ≤ (I (ad g 43) 8).toInt ∧ (I (ad g 43) 8).toInt ≤ K) (hWD : WD (I (ad g 44)) (I (ad g 47)) (I (ad g 24)) (I (ad g 25)) (I (ad g 26)) (J (ad g 45)) K ah.toInt ea.toInt da.toInt) : SP g mX2_weighDay [.ref (ad g 43), .int ea, .int so, .int da, .int ah] I J R (fun r I' J' R' => (XI g n L I' ∧ R' = R ∧ fz 74 g [43, 48] I I' ∧ J' = J ∧ (VIS (J (ad g 45)) ah.toInt 6 0 (FV (I' (ad g 48)) (594 + K)) ∧ VIS (J (ad g 45)) ah.toInt 6 0 (FU (I (ad g 44)) (J (ad g 45)) ah.toInt ea.toInt (I' (ad g 43) 1).toInt))) ∧ ∃ v : Int32, r = some (.int v) ∧ 0 ≤ v.toInt ∧ v.toInt ≤ 17226 ∧ v.toInt ≤ 594 + K) := by
  refine SP_of ⟨by decide, rfl⟩ (Nat.le_of_ble_eq_true rfl) ?_
  have e11582 : I (ad g 1) 1 = L := hI.2
  have b11583 := BT_get hI.1 1 1 2 (0) (0) (900) (by decide) 1 (by decide) (by decide)
  rw [e11582] at b11583
  have fr0 : fz 74 g [43, 48] I I := fz_rf
  obtain ⟨w11584, ew11584⟩ : ∃ w : Int32, I (ad g 43) 8 = w := ⟨_, rfl⟩
  have hml0 := hml
  rw [ew11584] at hml0
  refine WP_aload_n dX2_weighDay_0 rfl ?_
  refine WP_getr dX2_weighDay_1 fX2_32 rfl (lyx_is hy 43 2 rfl) (rfx hr 43 2 5 (by decide)) ?_
  refine WP_getr dX2_weighDay_4 fX2_46 rfl (lyx_is hy 5 0 rfl) hT ?_
  refine WP_getr dX2_weighDay_7 fX2_120 rfl (lyx_is hy 27 7 rfl) (rfx hr 27 7 30 (by decide)) ?_
  refine WP_iload_n dX2_weighDay_10 rfl ?_
  refine WQ_iald dX2_weighDay_11 (lyx_is hy 30 13 rfl) (lyx_n hy 30 4 rfl) (by omega) (by omega) (fun q hq => BT_get hI.1 30 0 4 (0) (0) (1000) (by decide) q (Nat.zero_le _) hq) (fun v11585 av11585 bv11585 ev11585 => ?_)
  refine WP_istore (ls' := [(0, _), (1, _), (2, _), (3, _), (4, _), (5, _)]) dX2_weighDay_12 (by decide) rfl ?_
  refine WQ_iconst (0) (0) dX2_weighDay_14 rfl rfl (fun v11586 hv11586 => ?_)
  refine WP_istore (ls' := [(0, _), (1, _), (2, _), (3, _), (4, _), (5, _), (6, _)]) dX2_weighDay_15 (by decide) rfl ?_
  refine WQ_iconst (0) (0) dX2_weighDay_17 rfl rfl (fun v11587 hv11587 => ?_)
  refine WP_istore (ls' := [(0, _), (1, _), (2, _), (3, _), (4, _), (5, _), (6, _), (7, _)]) dX2_weighDay_18 (by decide) rfl ?_
  have lp20_11593 : ∀ (mz : Nat) (i11588 : Int32) (i11589 : Int32) (I11590 : pI), XI g n L I11590 → fz 74 g [43, 48] I I11590 → ∀ (w11592 : Int32), I11590 (ad g 43) 1 = w11592 → ∀ (w11593 : Int32), I11590 (ad g 43) 8 = w11593 → 0 ≤ i11588.toInt → i11588.toInt ≤ 17226 → 0 ≤ i11589.toInt → i11589.toInt ≤ 6 → i11588.toInt ≤ 594 + K → w11593.toInt = w11584.toInt → (VIS (J (ad g 45)) ah.toInt i11589.toInt 0 (FV (I11590 (ad g 48)) (594 + K))) → (VIS (J (ad g 45)) ah.toInt i11589.toInt 0 (FU (I (ad g 44)) (J (ad g 45)) ah.toInt ea.toInt w11592.toInt)) → (7 - i11589.toInt).toNat < mz → WP g mX2_weighDay 20 [(0, .ref (ad g 43)), (1, .int ea), (2, .int so), (3, .int da), (4, .int ah), (5, .int v11585), (6, .int i11588), (7, .int i11589)] [] I11590 J R (fun r I' J' R' => (XI g n L I' ∧ R' = R ∧ fz 74 g [43, 48] I I' ∧ J' = J ∧ (VIS (J (ad g 45)) ah.toInt 6 0 (FV (I' (ad g 48)) (594 + K)) ∧ VIS (J (ad g 45)) ah.toInt 6 0 (FU (I (ad g 44)) (J (ad g 45)) ah.toInt ea.toInt (I' (ad g 43) 1).toInt))) ∧ ∃ v : Int32, r = some (.int v) ∧ 0 ≤ v.toInt ∧ v.toInt ≤ 17226 ∧ v.toInt ≤ 594 + K) := by
    intro mz
    induction mz with
    | zero =>
      intro i11588 i11589 I11590 hI11590 fiI11590 w11592 ew11592 w11593 ew11593 ai11588 bi11588 ai11589 bi11589 j0_I11590_11590 j1_I11590_11590 PV_I11590_11590 PU_I11590_11590 hmlp20_11593
      exact absurd hmlp20_11593 (Nat.not_lt_zero _)
    | succ mz ihlp20_11593 =>
      intro i11588 i11589 I11590 hI11590 fiI11590 w11592 ew11592 w11593 ew11593 ai11588 bi11588 ai11589 bi11589 j0_I11590_11590 j1_I11590_11590 PV_I11590_11590 PU_I11590_11590 hmlp20_11593
      have bw11592 := BT_get hI11590.1 43 1 2 (0) (0) (47) (by decide) 1 (by decide) (by decide)
      rw [ew11592] at bw11592
      have e11595 : I11590 (ad g 1) 1 = L := hI11590.2
      have b11596 := BT_get hI11590.1 1 1 2 (0) (0) (900) (by decide) 1 (by decide) (by decide)
      rw [e11595] at b11596
      refine WP_iload dX2_weighDay_20 rfl ?_
      refine WQ_bipush (6) (6) dX2_weighDay_22 rfl rfl (fun v11597 hv11597 => ?_)
      refine WQ_icmp_ge 146 dX2_weighDay_24 rfl (fun c11597 => ?_) (fun c11597 => ?_)
      · refine WP_iload dX2_weighDay_146 rfl ?_
        exact WP_iret dX2_weighDay_148 rfl ⟨⟨hI11590, rfl, fiI11590, rfl, ⟨by rw [show (6 : Int) = i11589.toInt by omega]; exact PV_I11590_11590, by rw [show (6 : Int) = i11589.toInt by omega, ew11592]; exact PU_I11590_11590⟩⟩, _, rfl, by omega, by omega, by omega⟩
      · refine WP_aload_n dX2_weighDay_27 rfl ?_
        refine WP_getr dX2_weighDay_28 fX2_18 rfl (lyx_is hy 43 2 rfl) (rfx hr 43 4 45 (by decide)) ?_
        refine WP_iload dX2_weighDay_31 rfl ?_
        refine WQ_bipush (6) (6) dX2_weighDay_33 rfl rfl (fun v11599 hv11599 => ?_)
        refine WQ_imulk (6) dX2_weighDay_35 hv11599 (by omega) (by omega) (fun v11600 hv11600 => ?_)
        refine WP_iload dX2_weighDay_36 rfl ?_
        refine WQ_iadd dX2_weighDay_38 (by omega) (by omega) (fun v11601 hv11601 => ?_)
        refine WQ_laldx dX2_weighDay_39 (lyx_is hy 45 14 rfl) (lyx_n hy 45 168 rfl) (by omega) (by omega) (fun l11602 el11602 => ?_)
        refine WP_lstore (ls' := [(0, _), (1, _), (2, _), (3, _), (4, _), (5, _), (6, _), (7, _), (8, _)]) dX2_weighDay_40 (by decide) rfl ?_
        refine WQ_iconst (0) (0) dX2_weighDay_42 rfl rfl (fun v11603 hv11603 => ?_)
        refine WP_istore (ls' := [(0, _), (1, _), (2, _), (3, _), (4, _), (5, _), (6, _), (7, _), (8, _), (10, _)]) dX2_weighDay_43 (by decide) rfl ?_
        have lp45_11609 : ∀ (mz : Nat) (i11604 : Int32) (i11605 : Int32) (I11606 : pI), XI g n L I11606 → fz 74 g [43, 48] I I11606 → ∀ (w11608 : Int32), I11606 (ad g 43) 1 = w11608 → ∀ (w11609 : Int32), I11606 (ad g 43) 8 = w11609 → 0 ≤ i11604.toInt → i11604.toInt ≤ 17226 → 0 ≤ i11605.toInt → i11605.toInt ≤ 61 → i11604.toInt ≤ 594 + K → w11609.toInt = w11584.toInt → (VIS (J (ad g 45)) ah.toInt i11589.toInt i11605.toInt (FV (I11606 (ad g 48)) (594 + K))) → (VIS (J (ad g 45)) ah.toInt i11589.toInt i11605.toInt (FU (I (ad g 44)) (J (ad g 45)) ah.toInt ea.toInt w11608.toInt)) → (62 - i11605.toInt).toNat < mz → WP g mX2_weighDay 45 [(0, .ref (ad g 43)), (1, .int ea), (2, .int so), (3, .int da), (4, .int ah), (5, .int v11585), (6, .int i11604), (7, .int i11589), (8, .long l11602), (10, .int i11605)] [] I11606 J R (fun r I' J' R' => (XI g n L I' ∧ R' = R ∧ fz 74 g [43, 48] I I' ∧ J' = J ∧ (VIS (J (ad g 45)) ah.toInt 6 0 (FV (I' (ad g 48)) (594 + K)) ∧ VIS (J (ad g 45)) ah.toInt 6 0 (FU (I (ad g 44)) (J (ad g 45)) ah.toInt ea.toInt (I' (ad g 43) 1).toInt))) ∧ ∃ v : Int32, r = some (.int v) ∧ 0 ≤ v.toInt ∧ v.toInt ≤ 17226 ∧ v.toInt ≤ 594 + K) := by
          intro mz
          induction mz with
          | zero =>
            intro i11604 i11605 I11606 hI11606 fiI11606 w11608 ew11608 w11609 ew11609 ai11604 bi11604 ai11605 bi11605 j0_I11606_11606 j1_I11606_11606 PV_I11606_11606 PU_I11606_11606 hmlp45_11609
            exact absurd hmlp45_11609 (Nat.not_lt_zero _)
          | succ mz ihlp45_11609 =>
            intro i11604 i11605 I11606 hI11606 fiI11606 w11608 ew11608 w11609 ew11609 ai11604 bi11604 ai11605 bi11605 j0_I11606_11606 j1_I11606_11606 PV_I11606_11606 PU_I11606_11606 hmlp45_11609
            have bw11608 := BT_get hI11606.1 43 1 2 (0) (0) (47) (by decide) 1 (by decide) (by decide)
            rw [ew11608] at bw11608
            have e11611 : I11606 (ad g 1) 1 = L := hI11606.2
            have b11612 := BT_get hI11606.1 1 1 2 (0) (0) (900) (by decide) 1 (by decide) (by decide)
            rw [e11611] at b11612
            refine WP_iload dX2_weighDay_45 rfl ?_
            refine WQ_bipush (61) (61) dX2_weighDay_47 rfl rfl (fun v11613 hv11613 => ?_)
            refine WQ_icmp_ge 140 dX2_weighDay_49 rfl (fun c11613 => ?_) (fun c11613 => ?_)
            · refine WP_iinc (ls' := [(0, _), (1, _), (2, _), (3, _), (4, _), (5, _), (6, _), (7, _), (8, _), (10, _)]) dX2_weighDay_140 rfl (by decide) rfl ?_
              have hv11615 : (i11589 + Int32.ofInt (1)).toInt = i11589.toInt + (1) := ia_n rfl (by omega) (by omega)
              generalize i11589 + Int32.ofInt (1) = v11615 at hv11615 ⊢
              refine WP_goto 20 dX2_weighDay_143 rfl ?_
              exact WP_sub (fc rfl (fc rfl (fc rfl (fc rfl (fc rfl (fc rfl (fc rfl (fc rfl fn)))))))) (ihlp20_11593 i11604 v11615 I11606 hI11606 fiI11606 w11608 ew11608 w11609 ew11609 (by omega) (by omega) (by omega) (by omega) (by omega) (by omega) (VIS_next PV_I11606_11606 hv11615 (by omega)) (VIS_next PU_I11606_11606 hv11615 (by omega)) (by omega))
            · refine WP_lload dX2_weighDay_52 rfl ?_
              refine WP_iload dX2_weighDay_54 rfl ?_
              refine WQ_lushrx dX2_weighDay_56 (by omega) (by omega) (fun l11616 ql11616 => ?_)
              refine WP_lconst (0) dX2_weighDay_57 rfl ?_
              obtain ⟨l11617, hl11617, el11617⟩ : ∃ v : Int64, v.toInt = 0 ∧ (0 : Int64) = v := ⟨_, rfl, rfl⟩
              rw [el11617]; clear el11617
              refine WQ_lcmp dX2_weighDay_58 (fun v11618 av11618 bv11618 => ?_)
              refine WQ_if_eq 140 dX2_weighDay_59 rfl (fun c11618 => ?_) (fun c11618 => ?_)
              · refine WP_iinc (ls' := [(0, _), (1, _), (2, _), (3, _), (4, _), (5, _), (6, _), (7, _), (8, _), (10, _)]) dX2_weighDay_140 rfl (by decide) rfl ?_
                have hv11620 : (i11589 + Int32.ofInt (1)).toInt = i11589.toInt + (1) := ia_n rfl (by omega) (by omega)
                generalize i11589 + Int32.ofInt (1) = v11620 at hv11620 ⊢
                refine WP_goto 20 dX2_weighDay_143 rfl ?_
                exact WP_sub (fc rfl (fc rfl (fc rfl (fc rfl (fc rfl (fc rfl (fc rfl (fc rfl fn)))))))) (ihlp20_11593 i11604 v11620 I11606 hI11606 fiI11606 w11608 ew11608 w11609 ew11609 (by omega) (by omega) (by omega) (by omega) (by omega) (by omega) (VIS_exit PV_I11606_11606 hv11620 (by rw [show (6 * ah.toInt + i11589.toInt).toNat = v11601.toInt.toNat by omega]; exact el11602) ql11616 (by omega)) (VIS_exit PU_I11606_11606 hv11620 (by rw [show (6 * ah.toInt + i11589.toInt).toNat = v11601.toInt.toNat by omega]; exact el11602) ql11616 (by omega)) (by omega))
              · refine WP_lload dX2_weighDay_62 rfl ?_
                refine WP_iload dX2_weighDay_64 rfl ?_
                refine WQ_lushrx dX2_weighDay_66 (by omega) (by omega) (fun l11621 ql11621 => ?_)
                refine WP_lconst (1) dX2_weighDay_67 rfl ?_
                obtain ⟨l11622, hl11622, el11622⟩ : ∃ v : Int64, v.toInt = 1 ∧ (1 : Int64) = v := ⟨_, rfl, rfl⟩
                rw [el11622]; clear el11622
                refine WQ_land1 dX2_weighDay_68 hl11622 (fun l11623 ql11623 => ?_)
                refine WP_lconst (0) dX2_weighDay_69 rfl ?_
                obtain ⟨l11624, hl11624, el11624⟩ : ∃ v : Int64, v.toInt = 0 ∧ (0 : Int64) = v := ⟨_, rfl, rfl⟩
                rw [el11624]; clear el11624
                refine WQ_lcmp dX2_weighDay_70 (fun v11625 av11625 bv11625 => ?_)
                refine WQ_if_eq 134 dX2_weighDay_71 rfl (fun c11625 => ?_) (fun c11625 => ?_)
                · refine WP_iinc (ls' := [(0, _), (1, _), (2, _), (3, _), (4, _), (5, _), (6, _), (7, _), (8, _), (10, _)]) dX2_weighDay_134 rfl (by decide) rfl ?_
                  have hv11627 : (i11605 + Int32.ofInt (1)).toInt = i11605.toInt + (1) := ia_n rfl (by omega) (by omega)
                  generalize i11605 + Int32.ofInt (1) = v11627 at hv11627 ⊢
                  refine WP_goto 45 dX2_weighDay_137 rfl ?_
                  exact WP_sub (fc rfl (fc rfl (fc rfl (fc rfl (fc rfl (fc rfl (fc rfl (fc rfl (fc rfl (fc rfl fn)))))))))) (ihlp45_11609 i11604 v11627 I11606 hI11606 fiI11606 w11608 ew11608 w11609 ew11609 (by omega) (by omega) (by omega) (by omega) (by omega) (by omega) (VIS_skip PV_I11606_11606 (by rw [show (6 * ah.toInt + i11589.toInt).toNat = v11601.toInt.toNat by omega]; exact el11602) ((bt_z ql11623 ql11621).mp (by omega)) hv11627) (VIS_skip PU_I11606_11606 (by rw [show (6 * ah.toInt + i11589.toInt).toNat = v11601.toInt.toNat by omega]; exact el11602) ((bt_z ql11623 ql11621).mp (by omega)) hv11627) (by omega))
                · have bk : bt l11602 i11605.toInt := Classical.byContradiction (fun hn => absurd ((bt_z ql11623 ql11621).mpr hn) (by omega))
                  have bj11627 : bt (J (ad g 45) (6 * ah.toInt + i11589.toInt).toNat) i11605.toInt := by rw [show (6 * ah.toInt + i11589.toInt).toNat = v11601.toInt.toNat by omega, el11602]; exact bk
                  clear bk
                  refine WP_aload_n dX2_weighDay_74 rfl ?_
                  refine WQ_bipush (60) (60) dX2_weighDay_75 rfl rfl (fun v11629 hv11629 => ?_)
                  refine WP_iload dX2_weighDay_77 rfl ?_
                  refine WP_iload_n dX2_weighDay_79 rfl ?_
                  refine WQ_iadd dX2_weighDay_80 (by omega) (by omega) (fun v11630 hv11630 => ?_)
                  refine WQ_min dX2_weighDay_81 lX2_101 ⟨by decide, Nat.le_of_ble_eq_true rfl⟩ (fun v11631 av11631 bv11631 cv11631 => ?_)
                  refine WP_iload dX2_weighDay_84 rfl ?_
                  refine WP_iload_n dX2_weighDay_86 rfl ?_
                  have cev11631 : CE i11605.toInt v11631.toInt ea.toInt := by unfold CE; omega
                  refine WP_callV3 (k := 2) dX2_weighDay_87 ⟨⟨⟨by decide, by decide⟩, zX2_weigh⟩, lX2_123, by decide, rfl, vX2_weigh.1, vX2_weigh.2⟩ (lyx_is hy 43 2 rfl) (sx_weighx_47 hy hr hI11606 v11631 i11589 da (by omega) (by omega) (by omega) (by omega) (by omega) (by omega) (K := K) (by omega) hL (by rw [ew11609]; omega) (by rw [fz_at fiI11606 44 (by decide) (by decide), fz_at fiI11606 47 (by decide) (by decide), fz_at fiI11606 24 (by decide) (by decide), fz_at fiI11606 25 (by decide) (by decide), fz_at fiI11606 26 (by decide) (by decide)]; exact hWD _ _ _ (by omega) (by omega) (by omega) (by omega) bj11627 cev11631)) (Nat.le_of_ble_eq_true rfl) ?_
                  intro r I11632 J11633 Ra hq
                  obtain ⟨⟨hI11632, ec, fiI11632, ejI11632, pI11632⟩, rfl⟩ := hq
                  rw [ec]
                  clear ec Ra
                  have fr11634 : fz 74 g [43, 48] I I11632 := fz_tr fiI11606 (fz_mono fiI11632 (by decide))
                  rw [ejI11632]
                  clear ejI11632 J11633
                  have VI11632 := PV_I11606_11606
                  rw [← fz_at fiI11632 48 (by decide) (by decide)] at VI11632
                  obtain ⟨paI11632, pbI11632, pcI11632, pdI11632⟩ := pI11632
                  rw [fz_at fiI11606 44 (by decide) (by decide)] at pcI11632
                  have UI11632 := FU_step PU_I11606_11606 (by omega) (by omega) bj11627 cev11631 pcI11632
                  have e11635 : I11632 (ad g 1) 1 = L := hI11632.2
                  have b11636 := BT_get hI11632.1 1 1 2 (0) (0) (900) (by decide) 1 (by decide) (by decide)
                  rw [e11635] at b11636
                  obtain ⟨w11637, ew11637⟩ : ∃ w : Int32, I11632 (ad g 43) 0 = w := ⟨_, rfl⟩
                  obtain ⟨w11638, ew11638⟩ : ∃ w : Int32, I11632 (ad g 43) 1 = w := ⟨_, rfl⟩
                  have bw11638 := BT_get hI11632.1 43 1 2 (0) (0) (47) (by decide) 1 (by decide) (by decide)
                  rw [ew11638] at bw11638
                  obtain ⟨w11639, ew11639⟩ : ∃ w : Int32, I11632 (ad g 43) 8 = w := ⟨_, rfl⟩
                  rw [ew11637] at paI11632 pbI11632
                  rw [ew11639] at pdI11632
                  rw [ew11609] at pdI11632
                  have peI11632 : w11639.toInt = w11609.toInt := by rw [pdI11632]
                  have WI11632 := UI11632
                  rw [ew11638] at WI11632
                  refine WP_aload_n dX2_weighDay_90 rfl ?_
                  refine WP_getr dX2_weighDay_91 fX2_25 rfl (lyx_is hy 43 2 rfl) hN ?_
                  refine WP_iload dX2_weighDay_94 rfl ?_
                  refine WQ_bipush (61) (61) dX2_weighDay_96 rfl rfl (fun v11640 hv11640 => ?_)
                  refine WQ_imulk (61) dX2_weighDay_98 hv11640 (by omega) (by omega) (fun v11641 hv11641 => ?_)
                  refine WP_iload dX2_weighDay_99 rfl ?_
                  refine WQ_iadd dX2_weighDay_101 (by omega) (by omega) (fun v11642 hv11642 => ?_)
                  refine WP_aload_n dX2_weighDay_102 rfl ?_
                  refine WQ_getim dX2_weighDay_103 fX2_127 rfl (lyx_is hy 43 2 rfl) ew11637 ?_
                  refine WP_iload dX2_weighDay_106 rfl ?_
                  refine WQ_imulb (17226) (1000) dX2_weighDay_108 ⟨by omega, by omega⟩ ⟨by omega, by omega⟩ (by decide) (fun v11643 pv11643 av11643 bv11643 cv11643 => ?_)
                  refine WQ_sipush (1000) (1000) dX2_weighDay_109 rfl rfl (fun v11644 hv11644 => ?_)
                  refine WQ_idivk (1000) dX2_weighDay_112 hv11644 (by decide) (by omega) (fun v11645 hv11645 => ?_)
                  refine WQ_iast dX2_weighDay_113 (lyx_is hy 48 13 rfl) (lyx_n hy 48 366 rfl) (by omega) (by omega) (fun I11646 eI11646 => ?_)
                  have hI11646 : XI g n L I11646 := by rw [eI11646]; exact (xi_r0 hy hI11632 (c := 48) (by decide) (Or.inl (by decide)) (by decide))
                  have e11647 : I11646 (ad g 1) 1 = L := by rw [eI11646, pp_ne _ _ (Or.inl (lyx_ne hy (by decide) (by decide) (by decide)))]; exact e11635
                  have e11648 : I11646 (ad g 43) 0 = w11637 := by rw [eI11646, pp_ne _ _ (Or.inl (lyx_ne hy (by decide) (by decide) (by decide)))]; exact ew11637
                  have e11649 : I11646 (ad g 43) 1 = w11638 := by rw [eI11646, pp_ne _ _ (Or.inl (lyx_ne hy (by decide) (by decide) (by decide)))]; exact ew11638
                  have e11650 : I11646 (ad g 43) 8 = w11639 := by rw [eI11646, pp_ne _ _ (Or.inl (lyx_ne hy (by decide) (by decide) (by decide)))]; exact ew11639
                  have fr11651 : fz 74 g [43, 48] I I11646 := by rw [eI11646]; exact fzx_pp hy fr11634 (by decide) (by decide)
                  have xI11646 := eI11646
                  rw [cl (x := v11642) (n := v11642.toInt.toNat) (by omega)] at xI11646
                  have VI11646 := FV_step VI11632 xI11646 (by omega) (by omega) (by omega) (by omega) (by omega)
                  have rvI11646 : I11646 (ad g 48) v11642.toInt.toNat = v11645 := by rw [xI11646]; exact pp_self _ _ _ _
                  clear eI11646
                  refine WP_iload dX2_weighDay_114 rfl ?_
                  refine WP_aload_n dX2_weighDay_116 rfl ?_
                  refine WP_getr dX2_weighDay_117 fX2_25 rfl (lyx_is hy 43 2 rfl) hN ?_
                  refine WP_iload dX2_weighDay_120 rfl ?_
                  refine WQ_bipush (61) (61) dX2_weighDay_122 rfl rfl (fun v11652 hv11652 => ?_)
                  refine WQ_imulk (61) dX2_weighDay_124 hv11652 (by omega) (by omega) (fun v11653 hv11653 => ?_)
                  refine WP_iload dX2_weighDay_125 rfl ?_
                  refine WQ_iadd dX2_weighDay_127 (by omega) (by omega) (fun v11654 hv11654 => ?_)
                  refine WQ_ialdx dX2_weighDay_128 (lyx_is hy 48 13 rfl) (lyx_n hy 48 366 rfl) (by omega) (by omega) (fun v11655 zv11655 => ?_)
                  have tv11655 : v11655.toInt = v11645.toInt := by rw [← zv11655, show v11654.toInt.toNat = v11642.toInt.toNat by omega, rvI11646]
                  refine WQ_max dX2_weighDay_129 lX2_130 ⟨by decide, Nat.le_of_ble_eq_true rfl⟩ (fun v11656 av11656 bv11656 cv11656 => ?_)
                  refine WP_istore (ls' := [(0, _), (1, _), (2, _), (3, _), (4, _), (5, _), (6, _), (7, _), (8, _), (10, _)]) dX2_weighDay_132 (by decide) rfl ?_
                  refine WP_iinc (ls' := [(0, _), (1, _), (2, _), (3, _), (4, _), (5, _), (6, _), (7, _), (8, _), (10, _)]) dX2_weighDay_134 rfl (by decide) rfl ?_
                  have hv11657 : (i11605 + Int32.ofInt (1)).toInt = i11605.toInt + (1) := ia_n rfl (by omega) (by omega)
                  generalize i11605 + Int32.ofInt (1) = v11657 at hv11657 ⊢
                  refine WP_goto 45 dX2_weighDay_137 rfl ?_
                  exact WP_sub (fc rfl (fc rfl (fc rfl (fc rfl (fc rfl (fc rfl (fc rfl (fc rfl (fc rfl (fc rfl fn)))))))))) (ihlp45_11609 v11656 v11657 I11646 hI11646 fr11651 w11638 e11649 w11639 e11650 (by omega) (by omega) (by omega) (by omega) (by omega) (by omega) (by rw [hv11657]; exact VI11646) (by rw [hv11657]; exact WI11632) (by omega))
        exact WP_sub (fc rfl (fc rfl (fc rfl (fc rfl (fc rfl (fc rfl (fc rfl (fc rfl (fc rfl (fc rfl fn)))))))))) (lp45_11609 _ i11588 v11603 I11590 hI11590 fiI11590 w11592 ew11592 w11593 ew11593 (by omega) (by omega) (by omega) (by omega) (by omega) (by omega) (VIS_c0 PV_I11590_11590 (by omega)) (VIS_c0 PU_I11590_11590 (by omega)) (Nat.lt_succ_self _))
  obtain ⟨w11658, ew11658⟩ : ∃ w : Int32, I (ad g 43) 1 = w := ⟨_, rfl⟩
  have bw11658 := BT_get hI.1 43 1 2 (0) (0) (47) (by decide) 1 (by decide) (by decide)
  rw [ew11658] at bw11658
  exact WP_sub (fc rfl (fc rfl (fc rfl (fc rfl (fc rfl (fc rfl (fc rfl (fc rfl fn)))))))) (lp20_11593 _ v11586 v11587 I hI fr0 w11658 ew11658 w11584 ew11584 (by omega) (by omega) (by omega) (by omega) (by omega) (by omega) (VIS_0 (by omega) rfl) (VIS_0 (by omega) rfl) (Nat.lt_succ_self _))
set_option maxHeartbeats 4000000 in
set_option maxRecDepth 100000 in
theorem sx_weighDayx_48_6 {g : GG} {n : Int} {L : Int32} (hy : LyX g)  {I : pI} {J : pJ} {R : pR} (hr : RfX g R) (hT : R (ad g 5) 0 = some (ad g 6)) (hI : XI g n L I) (ea : Int32) (so : Int32) (da : Int32) (ah : Int32) (ea_lo : 0 ≤ ea.toInt) (ea_hi : ea.toInt ≤ 20) (so_lo : 0 ≤ so.toInt) (so_hi : so.toInt ≤ 3) (da_lo : 0 ≤ da.toInt) (da_hi : da.toInt ≤ 6) (ah_lo : 0 ≤ ah.toInt) (ah_hi : ah.toInt ≤ 27) {K : Int} (hK : 0 ≤ K ∧ K ≤ 16038) (hL : R (ad g 43) 7 = some (ad g 48)) (hN : R (ad g 43) 6 = some (ad g 47)) (hml : 0 ≤ (I (ad g 43) 8).toInt ∧ (I (ad g 43) 8).toInt ≤ K) (hWD : WD (I (ad g 44)) (I (ad g 48)) (I (ad g 24)) (I (ad g 25)) (I (ad g 26)) (J (ad g 45)) K ah.toInt ea.toInt da.toInt) : SP g mX2_weighDay [.ref (ad g 43), .int ea, .int so, .int da, .int ah] I J R (fun r I' J' R' => (XI g n L I' ∧ R' = R ∧ fz 74 g [43, 47] I I' ∧ J' = J ∧ (VIS (J (ad g 45)) ah.toInt 6 0 (FV (I' (ad g 47)) (594 + K)) ∧ VIS (J (ad g 45)) ah.toInt 6 0 (FU (I (ad g 44)) (J (ad g 45)) ah.toInt ea.toInt (I' (ad g 43) 1).toInt))) ∧ ∃ v : Int32, r = some (.int v) ∧ 0 ≤ v.toInt ∧ v.toInt ≤ 17226 ∧ v.toInt ≤ 594 + K) := by
  refine SP_of ⟨by decide, rfl⟩ (Nat.le_of_ble_eq_true rfl) ?_
  have e11659 : I (ad g 1) 1 = L := hI.2
  have b11660 := BT_get hI.1 1 1 2 (0) (0) (900) (by decide) 1 (by decide) (by decide)
  rw [e11659] at b11660
  have fr0 : fz 74 g [43, 47] I I := fz_rf
  obtain ⟨w11661, ew11661⟩ : ∃ w : Int32, I (ad g 43) 8 = w := ⟨_, rfl⟩
  have hml0 := hml
  rw [ew11661] at hml0
  refine WP_aload_n dX2_weighDay_0 rfl ?_
  refine WP_getr dX2_weighDay_1 fX2_32 rfl (lyx_is hy 43 2 rfl) (rfx hr 43 2 5 (by decide)) ?_
  refine WP_getr dX2_weighDay_4 fX2_46 rfl (lyx_is hy 5 0 rfl) hT ?_
  refine WP_getr dX2_weighDay_7 fX2_120 rfl (lyx_is hy 6 7 rfl) (rfx hr 6 7 9 (by decide)) ?_
  refine WP_iload_n dX2_weighDay_10 rfl ?_
  refine WQ_iald dX2_weighDay_11 (lyx_is hy 9 13 rfl) (lyx_n hy 9 4 rfl) (by omega) (by omega) (fun q hq => BT_get hI.1 9 0 4 (0) (0) (1000) (by decide) q (Nat.zero_le _) hq) (fun v11662 av11662 bv11662 ev11662 => ?_)
  refine WP_istore (ls' := [(0, _), (1, _), (2, _), (3, _), (4, _), (5, _)]) dX2_weighDay_12 (by decide) rfl ?_
  refine WQ_iconst (0) (0) dX2_weighDay_14 rfl rfl (fun v11663 hv11663 => ?_)
  refine WP_istore (ls' := [(0, _), (1, _), (2, _), (3, _), (4, _), (5, _), (6, _)]) dX2_weighDay_15 (by decide) rfl ?_
  refine WQ_iconst (0) (0) dX2_weighDay_17 rfl rfl (fun v11664 hv11664 => ?_)
  refine WP_istore (ls' := [(0, _), (1, _), (2, _), (3, _), (4, _), (5, _), (6, _), (7, _)]) dX2_weighDay_18 (by decide) rfl ?_
  have lp20_11670 : ∀ (mz : Nat) (i11665 : Int32) (i11666 : Int32) (I11667 : pI), XI g n L I11667 → fz 74 g [43, 47] I I11667 → ∀ (w11669 : Int32), I11667 (ad g 43) 1 = w11669 → ∀ (w11670 : Int32), I11667 (ad g 43) 8 = w11670 → 0 ≤ i11665.toInt → i11665.toInt ≤ 17226 → 0 ≤ i11666.toInt → i11666.toInt ≤ 6 → i11665.toInt ≤ 594 + K → w11670.toInt = w11661.toInt → (VIS (J (ad g 45)) ah.toInt i11666.toInt 0 (FV (I11667 (ad g 47)) (594 + K))) → (VIS (J (ad g 45)) ah.toInt i11666.toInt 0 (FU (I (ad g 44)) (J (ad g 45)) ah.toInt ea.toInt w11669.toInt)) → (7 - i11666.toInt).toNat < mz → WP g mX2_weighDay 20 [(0, .ref (ad g 43)), (1, .int ea), (2, .int so), (3, .int da), (4, .int ah), (5, .int v11662), (6, .int i11665), (7, .int i11666)] [] I11667 J R (fun r I' J' R' => (XI g n L I' ∧ R' = R ∧ fz 74 g [43, 47] I I' ∧ J' = J ∧ (VIS (J (ad g 45)) ah.toInt 6 0 (FV (I' (ad g 47)) (594 + K)) ∧ VIS (J (ad g 45)) ah.toInt 6 0 (FU (I (ad g 44)) (J (ad g 45)) ah.toInt ea.toInt (I' (ad g 43) 1).toInt))) ∧ ∃ v : Int32, r = some (.int v) ∧ 0 ≤ v.toInt ∧ v.toInt ≤ 17226 ∧ v.toInt ≤ 594 + K) := by
    intro mz
    induction mz with
    | zero =>
      intro i11665 i11666 I11667 hI11667 fiI11667 w11669 ew11669 w11670 ew11670 ai11665 bi11665 ai11666 bi11666 j0_I11667_11667 j1_I11667_11667 PV_I11667_11667 PU_I11667_11667 hmlp20_11670
      exact absurd hmlp20_11670 (Nat.not_lt_zero _)
    | succ mz ihlp20_11670 =>
      intro i11665 i11666 I11667 hI11667 fiI11667 w11669 ew11669 w11670 ew11670 ai11665 bi11665 ai11666 bi11666 j0_I11667_11667 j1_I11667_11667 PV_I11667_11667 PU_I11667_11667 hmlp20_11670
      have bw11669 := BT_get hI11667.1 43 1 2 (0) (0) (47) (by decide) 1 (by decide) (by decide)
      rw [ew11669] at bw11669
      have e11672 : I11667 (ad g 1) 1 = L := hI11667.2
      have b11673 := BT_get hI11667.1 1 1 2 (0) (0) (900) (by decide) 1 (by decide) (by decide)
      rw [e11672] at b11673
      refine WP_iload dX2_weighDay_20 rfl ?_
      refine WQ_bipush (6) (6) dX2_weighDay_22 rfl rfl (fun v11674 hv11674 => ?_)
      refine WQ_icmp_ge 146 dX2_weighDay_24 rfl (fun c11674 => ?_) (fun c11674 => ?_)
      · refine WP_iload dX2_weighDay_146 rfl ?_
        exact WP_iret dX2_weighDay_148 rfl ⟨⟨hI11667, rfl, fiI11667, rfl, ⟨by rw [show (6 : Int) = i11666.toInt by omega]; exact PV_I11667_11667, by rw [show (6 : Int) = i11666.toInt by omega, ew11669]; exact PU_I11667_11667⟩⟩, _, rfl, by omega, by omega, by omega⟩
      · refine WP_aload_n dX2_weighDay_27 rfl ?_
        refine WP_getr dX2_weighDay_28 fX2_18 rfl (lyx_is hy 43 2 rfl) (rfx hr 43 4 45 (by decide)) ?_
        refine WP_iload dX2_weighDay_31 rfl ?_
        refine WQ_bipush (6) (6) dX2_weighDay_33 rfl rfl (fun v11676 hv11676 => ?_)
        refine WQ_imulk (6) dX2_weighDay_35 hv11676 (by omega) (by omega) (fun v11677 hv11677 => ?_)
        refine WP_iload dX2_weighDay_36 rfl ?_
        refine WQ_iadd dX2_weighDay_38 (by omega) (by omega) (fun v11678 hv11678 => ?_)
        refine WQ_laldx dX2_weighDay_39 (lyx_is hy 45 14 rfl) (lyx_n hy 45 168 rfl) (by omega) (by omega) (fun l11679 el11679 => ?_)
        refine WP_lstore (ls' := [(0, _), (1, _), (2, _), (3, _), (4, _), (5, _), (6, _), (7, _), (8, _)]) dX2_weighDay_40 (by decide) rfl ?_
        refine WQ_iconst (0) (0) dX2_weighDay_42 rfl rfl (fun v11680 hv11680 => ?_)
        refine WP_istore (ls' := [(0, _), (1, _), (2, _), (3, _), (4, _), (5, _), (6, _), (7, _), (8, _), (10, _)]) dX2_weighDay_43 (by decide) rfl ?_
        have lp45_11686 : ∀ (mz : Nat) (i11681 : Int32) (i11682 : Int32) (I11683 : pI), XI g n L I11683 → fz 74 g [43, 47] I I11683 → ∀ (w11685 : Int32), I11683 (ad g 43) 1 = w11685 → ∀ (w11686 : Int32), I11683 (ad g 43) 8 = w11686 → 0 ≤ i11681.toInt → i11681.toInt ≤ 17226 → 0 ≤ i11682.toInt → i11682.toInt ≤ 61 → i11681.toInt ≤ 594 + K → w11686.toInt = w11661.toInt → (VIS (J (ad g 45)) ah.toInt i11666.toInt i11682.toInt (FV (I11683 (ad g 47)) (594 + K))) → (VIS (J (ad g 45)) ah.toInt i11666.toInt i11682.toInt (FU (I (ad g 44)) (J (ad g 45)) ah.toInt ea.toInt w11685.toInt)) → (62 - i11682.toInt).toNat < mz → WP g mX2_weighDay 45 [(0, .ref (ad g 43)), (1, .int ea), (2, .int so), (3, .int da), (4, .int ah), (5, .int v11662), (6, .int i11681), (7, .int i11666), (8, .long l11679), (10, .int i11682)] [] I11683 J R (fun r I' J' R' => (XI g n L I' ∧ R' = R ∧ fz 74 g [43, 47] I I' ∧ J' = J ∧ (VIS (J (ad g 45)) ah.toInt 6 0 (FV (I' (ad g 47)) (594 + K)) ∧ VIS (J (ad g 45)) ah.toInt 6 0 (FU (I (ad g 44)) (J (ad g 45)) ah.toInt ea.toInt (I' (ad g 43) 1).toInt))) ∧ ∃ v : Int32, r = some (.int v) ∧ 0 ≤ v.toInt ∧ v.toInt ≤ 17226 ∧ v.toInt ≤ 594 + K) := by
          intro mz
          induction mz with
          | zero =>
            intro i11681 i11682 I11683 hI11683 fiI11683 w11685 ew11685 w11686 ew11686 ai11681 bi11681 ai11682 bi11682 j0_I11683_11683 j1_I11683_11683 PV_I11683_11683 PU_I11683_11683 hmlp45_11686
            exact absurd hmlp45_11686 (Nat.not_lt_zero _)
          | succ mz ihlp45_11686 =>
            intro i11681 i11682 I11683 hI11683 fiI11683 w11685 ew11685 w11686 ew11686 ai11681 bi11681 ai11682 bi11682 j0_I11683_11683 j1_I11683_11683 PV_I11683_11683 PU_I11683_11683 hmlp45_11686
            have bw11685 := BT_get hI11683.1 43 1 2 (0) (0) (47) (by decide) 1 (by decide) (by decide)
            rw [ew11685] at bw11685
            have e11688 : I11683 (ad g 1) 1 = L := hI11683.2
            have b11689 := BT_get hI11683.1 1 1 2 (0) (0) (900) (by decide) 1 (by decide) (by decide)
            rw [e11688] at b11689
            refine WP_iload dX2_weighDay_45 rfl ?_
            refine WQ_bipush (61) (61) dX2_weighDay_47 rfl rfl (fun v11690 hv11690 => ?_)
            refine WQ_icmp_ge 140 dX2_weighDay_49 rfl (fun c11690 => ?_) (fun c11690 => ?_)
            · refine WP_iinc (ls' := [(0, _), (1, _), (2, _), (3, _), (4, _), (5, _), (6, _), (7, _), (8, _), (10, _)]) dX2_weighDay_140 rfl (by decide) rfl ?_
              have hv11692 : (i11666 + Int32.ofInt (1)).toInt = i11666.toInt + (1) := ia_n rfl (by omega) (by omega)
              generalize i11666 + Int32.ofInt (1) = v11692 at hv11692 ⊢
              refine WP_goto 20 dX2_weighDay_143 rfl ?_
              exact WP_sub (fc rfl (fc rfl (fc rfl (fc rfl (fc rfl (fc rfl (fc rfl (fc rfl fn)))))))) (ihlp20_11670 i11681 v11692 I11683 hI11683 fiI11683 w11685 ew11685 w11686 ew11686 (by omega) (by omega) (by omega) (by omega) (by omega) (by omega) (VIS_next PV_I11683_11683 hv11692 (by omega)) (VIS_next PU_I11683_11683 hv11692 (by omega)) (by omega))
            · refine WP_lload dX2_weighDay_52 rfl ?_
              refine WP_iload dX2_weighDay_54 rfl ?_
              refine WQ_lushrx dX2_weighDay_56 (by omega) (by omega) (fun l11693 ql11693 => ?_)
              refine WP_lconst (0) dX2_weighDay_57 rfl ?_
              obtain ⟨l11694, hl11694, el11694⟩ : ∃ v : Int64, v.toInt = 0 ∧ (0 : Int64) = v := ⟨_, rfl, rfl⟩
              rw [el11694]; clear el11694
              refine WQ_lcmp dX2_weighDay_58 (fun v11695 av11695 bv11695 => ?_)
              refine WQ_if_eq 140 dX2_weighDay_59 rfl (fun c11695 => ?_) (fun c11695 => ?_)
              · refine WP_iinc (ls' := [(0, _), (1, _), (2, _), (3, _), (4, _), (5, _), (6, _), (7, _), (8, _), (10, _)]) dX2_weighDay_140 rfl (by decide) rfl ?_
                have hv11697 : (i11666 + Int32.ofInt (1)).toInt = i11666.toInt + (1) := ia_n rfl (by omega) (by omega)
                generalize i11666 + Int32.ofInt (1) = v11697 at hv11697 ⊢
                refine WP_goto 20 dX2_weighDay_143 rfl ?_
                exact WP_sub (fc rfl (fc rfl (fc rfl (fc rfl (fc rfl (fc rfl (fc rfl (fc rfl fn)))))))) (ihlp20_11670 i11681 v11697 I11683 hI11683 fiI11683 w11685 ew11685 w11686 ew11686 (by omega) (by omega) (by omega) (by omega) (by omega) (by omega) (VIS_exit PV_I11683_11683 hv11697 (by rw [show (6 * ah.toInt + i11666.toInt).toNat = v11678.toInt.toNat by omega]; exact el11679) ql11693 (by omega)) (VIS_exit PU_I11683_11683 hv11697 (by rw [show (6 * ah.toInt + i11666.toInt).toNat = v11678.toInt.toNat by omega]; exact el11679) ql11693 (by omega)) (by omega))
              · refine WP_lload dX2_weighDay_62 rfl ?_
                refine WP_iload dX2_weighDay_64 rfl ?_
                refine WQ_lushrx dX2_weighDay_66 (by omega) (by omega) (fun l11698 ql11698 => ?_)
                refine WP_lconst (1) dX2_weighDay_67 rfl ?_
                obtain ⟨l11699, hl11699, el11699⟩ : ∃ v : Int64, v.toInt = 1 ∧ (1 : Int64) = v := ⟨_, rfl, rfl⟩
                rw [el11699]; clear el11699
                refine WQ_land1 dX2_weighDay_68 hl11699 (fun l11700 ql11700 => ?_)
                refine WP_lconst (0) dX2_weighDay_69 rfl ?_
                obtain ⟨l11701, hl11701, el11701⟩ : ∃ v : Int64, v.toInt = 0 ∧ (0 : Int64) = v := ⟨_, rfl, rfl⟩
                rw [el11701]; clear el11701
                refine WQ_lcmp dX2_weighDay_70 (fun v11702 av11702 bv11702 => ?_)
                refine WQ_if_eq 134 dX2_weighDay_71 rfl (fun c11702 => ?_) (fun c11702 => ?_)
                · refine WP_iinc (ls' := [(0, _), (1, _), (2, _), (3, _), (4, _), (5, _), (6, _), (7, _), (8, _), (10, _)]) dX2_weighDay_134 rfl (by decide) rfl ?_
                  have hv11704 : (i11682 + Int32.ofInt (1)).toInt = i11682.toInt + (1) := ia_n rfl (by omega) (by omega)
                  generalize i11682 + Int32.ofInt (1) = v11704 at hv11704 ⊢
                  refine WP_goto 45 dX2_weighDay_137 rfl ?_
                  exact WP_sub (fc rfl (fc rfl (fc rfl (fc rfl (fc rfl (fc rfl (fc rfl (fc rfl (fc rfl (fc rfl fn)))))))))) (ihlp45_11686 i11681 v11704 I11683 hI11683 fiI11683 w11685 ew11685 w11686 ew11686 (by omega) (by omega) (by omega) (by omega) (by omega) (by omega) (VIS_skip PV_I11683_11683 (by rw [show (6 * ah.toInt + i11666.toInt).toNat = v11678.toInt.toNat by omega]; exact el11679) ((bt_z ql11700 ql11698).mp (by omega)) hv11704) (VIS_skip PU_I11683_11683 (by rw [show (6 * ah.toInt + i11666.toInt).toNat = v11678.toInt.toNat by omega]; exact el11679) ((bt_z ql11700 ql11698).mp (by omega)) hv11704) (by omega))
                · have bk : bt l11679 i11682.toInt := Classical.byContradiction (fun hn => absurd ((bt_z ql11700 ql11698).mpr hn) (by omega))
                  have bj11704 : bt (J (ad g 45) (6 * ah.toInt + i11666.toInt).toNat) i11682.toInt := by rw [show (6 * ah.toInt + i11666.toInt).toNat = v11678.toInt.toNat by omega, el11679]; exact bk
                  clear bk
                  refine WP_aload_n dX2_weighDay_74 rfl ?_
                  refine WQ_bipush (60) (60) dX2_weighDay_75 rfl rfl (fun v11706 hv11706 => ?_)
                  refine WP_iload dX2_weighDay_77 rfl ?_
                  refine WP_iload_n dX2_weighDay_79 rfl ?_
                  refine WQ_iadd dX2_weighDay_80 (by omega) (by omega) (fun v11707 hv11707 => ?_)
                  refine WQ_min dX2_weighDay_81 lX2_101 ⟨by decide, Nat.le_of_ble_eq_true rfl⟩ (fun v11708 av11708 bv11708 cv11708 => ?_)
                  refine WP_iload dX2_weighDay_84 rfl ?_
                  refine WP_iload_n dX2_weighDay_86 rfl ?_
                  have cev11708 : CE i11682.toInt v11708.toInt ea.toInt := by unfold CE; omega
                  refine WP_callV3 (k := 2) dX2_weighDay_87 ⟨⟨⟨by decide, by decide⟩, zX2_weigh⟩, lX2_123, by decide, rfl, vX2_weigh.1, vX2_weigh.2⟩ (lyx_is hy 43 2 rfl) (sx_weighx_48 hy hr hI11683 v11708 i11666 da (by omega) (by omega) (by omega) (by omega) (by omega) (by omega) (K := K) (by omega) hL (by rw [ew11686]; omega) (by rw [fz_at fiI11683 44 (by decide) (by decide), fz_at fiI11683 48 (by decide) (by decide), fz_at fiI11683 24 (by decide) (by decide), fz_at fiI11683 25 (by decide) (by decide), fz_at fiI11683 26 (by decide) (by decide)]; exact hWD _ _ _ (by omega) (by omega) (by omega) (by omega) bj11704 cev11708)) (Nat.le_of_ble_eq_true rfl) ?_
                  intro r I11709 J11710 Ra hq
                  obtain ⟨⟨hI11709, ec, fiI11709, ejI11709, pI11709⟩, rfl⟩ := hq
                  rw [ec]
                  clear ec Ra
                  have fr11711 : fz 74 g [43, 47] I I11709 := fz_tr fiI11683 (fz_mono fiI11709 (by decide))
                  rw [ejI11709]
                  clear ejI11709 J11710
                  have VI11709 := PV_I11683_11683
                  rw [← fz_at fiI11709 47 (by decide) (by decide)] at VI11709
                  obtain ⟨paI11709, pbI11709, pcI11709, pdI11709⟩ := pI11709
                  rw [fz_at fiI11683 44 (by decide) (by decide)] at pcI11709
                  have UI11709 := FU_step PU_I11683_11683 (by omega) (by omega) bj11704 cev11708 pcI11709
                  have e11712 : I11709 (ad g 1) 1 = L := hI11709.2
                  have b11713 := BT_get hI11709.1 1 1 2 (0) (0) (900) (by decide) 1 (by decide) (by decide)
                  rw [e11712] at b11713
                  obtain ⟨w11714, ew11714⟩ : ∃ w : Int32, I11709 (ad g 43) 0 = w := ⟨_, rfl⟩
                  obtain ⟨w11715, ew11715⟩ : ∃ w : Int32, I11709 (ad g 43) 1 = w := ⟨_, rfl⟩
                  have bw11715 := BT_get hI11709.1 43 1 2 (0) (0) (47) (by decide) 1 (by decide) (by decide)
                  rw [ew11715] at bw11715
                  obtain ⟨w11716, ew11716⟩ : ∃ w : Int32, I11709 (ad g 43) 8 = w := ⟨_, rfl⟩
                  rw [ew11714] at paI11709 pbI11709
                  rw [ew11716] at pdI11709
                  rw [ew11686] at pdI11709
                  have peI11709 : w11716.toInt = w11686.toInt := by rw [pdI11709]
                  have WI11709 := UI11709
                  rw [ew11715] at WI11709
                  refine WP_aload_n dX2_weighDay_90 rfl ?_
                  refine WP_getr dX2_weighDay_91 fX2_25 rfl (lyx_is hy 43 2 rfl) hN ?_
                  refine WP_iload dX2_weighDay_94 rfl ?_
                  refine WQ_bipush (61) (61) dX2_weighDay_96 rfl rfl (fun v11717 hv11717 => ?_)
                  refine WQ_imulk (61) dX2_weighDay_98 hv11717 (by omega) (by omega) (fun v11718 hv11718 => ?_)
                  refine WP_iload dX2_weighDay_99 rfl ?_
                  refine WQ_iadd dX2_weighDay_101 (by omega) (by omega) (fun v11719 hv11719 => ?_)
                  refine WP_aload_n dX2_weighDay_102 rfl ?_
                  refine WQ_getim dX2_weighDay_103 fX2_127 rfl (lyx_is hy 43 2 rfl) ew11714 ?_
                  refine WP_iload dX2_weighDay_106 rfl ?_
                  refine WQ_imulb (17226) (1000) dX2_weighDay_108 ⟨by omega, by omega⟩ ⟨by omega, by omega⟩ (by decide) (fun v11720 pv11720 av11720 bv11720 cv11720 => ?_)
                  refine WQ_sipush (1000) (1000) dX2_weighDay_109 rfl rfl (fun v11721 hv11721 => ?_)
                  refine WQ_idivk (1000) dX2_weighDay_112 hv11721 (by decide) (by omega) (fun v11722 hv11722 => ?_)
                  refine WQ_iast dX2_weighDay_113 (lyx_is hy 47 13 rfl) (lyx_n hy 47 366 rfl) (by omega) (by omega) (fun I11723 eI11723 => ?_)
                  have hI11723 : XI g n L I11723 := by rw [eI11723]; exact (xi_r0 hy hI11709 (c := 47) (by decide) (Or.inl (by decide)) (by decide))
                  have e11724 : I11723 (ad g 1) 1 = L := by rw [eI11723, pp_ne _ _ (Or.inl (lyx_ne hy (by decide) (by decide) (by decide)))]; exact e11712
                  have e11725 : I11723 (ad g 43) 0 = w11714 := by rw [eI11723, pp_ne _ _ (Or.inl (lyx_ne hy (by decide) (by decide) (by decide)))]; exact ew11714
                  have e11726 : I11723 (ad g 43) 1 = w11715 := by rw [eI11723, pp_ne _ _ (Or.inl (lyx_ne hy (by decide) (by decide) (by decide)))]; exact ew11715
                  have e11727 : I11723 (ad g 43) 8 = w11716 := by rw [eI11723, pp_ne _ _ (Or.inl (lyx_ne hy (by decide) (by decide) (by decide)))]; exact ew11716
                  have fr11728 : fz 74 g [43, 47] I I11723 := by rw [eI11723]; exact fzx_pp hy fr11711 (by decide) (by decide)
                  have xI11723 := eI11723
                  rw [cl (x := v11719) (n := v11719.toInt.toNat) (by omega)] at xI11723
                  have VI11723 := FV_step VI11709 xI11723 (by omega) (by omega) (by omega) (by omega) (by omega)
                  have rvI11723 : I11723 (ad g 47) v11719.toInt.toNat = v11722 := by rw [xI11723]; exact pp_self _ _ _ _
                  clear eI11723
                  refine WP_iload dX2_weighDay_114 rfl ?_
                  refine WP_aload_n dX2_weighDay_116 rfl ?_
                  refine WP_getr dX2_weighDay_117 fX2_25 rfl (lyx_is hy 43 2 rfl) hN ?_
                  refine WP_iload dX2_weighDay_120 rfl ?_
                  refine WQ_bipush (61) (61) dX2_weighDay_122 rfl rfl (fun v11729 hv11729 => ?_)
                  refine WQ_imulk (61) dX2_weighDay_124 hv11729 (by omega) (by omega) (fun v11730 hv11730 => ?_)
                  refine WP_iload dX2_weighDay_125 rfl ?_
                  refine WQ_iadd dX2_weighDay_127 (by omega) (by omega) (fun v11731 hv11731 => ?_)
                  refine WQ_ialdx dX2_weighDay_128 (lyx_is hy 47 13 rfl) (lyx_n hy 47 366 rfl) (by omega) (by omega) (fun v11732 zv11732 => ?_)
                  have tv11732 : v11732.toInt = v11722.toInt := by rw [← zv11732, show v11731.toInt.toNat = v11719.toInt.toNat by omega, rvI11723]
                  refine WQ_max dX2_weighDay_129 lX2_130 ⟨by decide, Nat.le_of_ble_eq_true rfl⟩ (fun v11733 av11733 bv11733 cv11733 => ?_)
                  refine WP_istore (ls' := [(0, _), (1, _), (2, _), (3, _), (4, _), (5, _), (6, _), (7, _), (8, _), (10, _)]) dX2_weighDay_132 (by decide) rfl ?_
                  refine WP_iinc (ls' := [(0, _), (1, _), (2, _), (3, _), (4, _), (5, _), (6, _), (7, _), (8, _), (10, _)]) dX2_weighDay_134 rfl (by decide) rfl ?_
                  have hv11734 : (i11682 + Int32.ofInt (1)).toInt = i11682.toInt + (1) := ia_n rfl (by omega) (by omega)
                  generalize i11682 + Int32.ofInt (1) = v11734 at hv11734 ⊢
                  refine WP_goto 45 dX2_weighDay_137 rfl ?_
                  exact WP_sub (fc rfl (fc rfl (fc rfl (fc rfl (fc rfl (fc rfl (fc rfl (fc rfl (fc rfl (fc rfl fn)))))))))) (ihlp45_11686 v11733 v11734 I11723 hI11723 fr11728 w11715 e11726 w11716 e11727 (by omega) (by omega) (by omega) (by omega) (by omega) (by omega) (by rw [hv11734]; exact VI11723) (by rw [hv11734]; exact WI11709) (by omega))
        exact WP_sub (fc rfl (fc rfl (fc rfl (fc rfl (fc rfl (fc rfl (fc rfl (fc rfl (fc rfl (fc rfl fn)))))))))) (lp45_11686 _ i11665 v11680 I11667 hI11667 fiI11667 w11669 ew11669 w11670 ew11670 (by omega) (by omega) (by omega) (by omega) (by omega) (by omega) (VIS_c0 PV_I11667_11667 (by omega)) (VIS_c0 PU_I11667_11667 (by omega)) (Nat.lt_succ_self _))
  obtain ⟨w11735, ew11735⟩ : ∃ w : Int32, I (ad g 43) 1 = w := ⟨_, rfl⟩
  have bw11735 := BT_get hI.1 43 1 2 (0) (0) (47) (by decide) 1 (by decide) (by decide)
  rw [ew11735] at bw11735
  exact WP_sub (fc rfl (fc rfl (fc rfl (fc rfl (fc rfl (fc rfl (fc rfl (fc rfl fn)))))))) (lp20_11670 _ v11663 v11664 I hI fr0 w11735 ew11735 w11661 ew11661 (by omega) (by omega) (by omega) (by omega) (by omega) (by omega) (VIS_0 (by omega) rfl) (VIS_0 (by omega) rfl) (Nat.lt_succ_self _))
set_option maxHeartbeats 4000000 in
set_option maxRecDepth 100000 in
theorem sx_weighDayx_48_27 {g : GG} {n : Int} {L : Int32} (hy : LyX g)  {I : pI} {J : pJ} {R : pR} (hr : RfX g R) (hT : R (ad g 5) 0 = some (ad g 27)) (hI : XI g n L I) (ea : Int32) (so : Int32) (da : Int32) (ah : Int32) (ea_lo : 0 ≤ ea.toInt) (ea_hi : ea.toInt ≤ 20) (so_lo : 0 ≤ so.toInt) (so_hi : so.toInt ≤ 3) (da_lo : 0 ≤ da.toInt) (da_hi : da.toInt ≤ 6) (ah_lo : 0 ≤ ah.toInt) (ah_hi : ah.toInt ≤ 27) {K : Int} (hK : 0 ≤ K ∧ K ≤ 16038) (hL : R (ad g 43) 7 = some (ad g 48)) (hN : R (ad g 43) 6 = some (ad g 47)) (hml : 0 ≤ (I (ad g 43) 8).toInt ∧ (I (ad g 43) 8).toInt ≤ K) (hWD : WD (I (ad g 44)) (I (ad g 48)) (I (ad g 24)) (I (ad g 25)) (I (ad g 26)) (J (ad g 45)) K ah.toInt ea.toInt da.toInt) : SP g mX2_weighDay [.ref (ad g 43), .int ea, .int so, .int da, .int ah] I J R (fun r I' J' R' => (XI g n L I' ∧ R' = R ∧ fz 74 g [43, 47] I I' ∧ J' = J ∧ (VIS (J (ad g 45)) ah.toInt 6 0 (FV (I' (ad g 47)) (594 + K)) ∧ VIS (J (ad g 45)) ah.toInt 6 0 (FU (I (ad g 44)) (J (ad g 45)) ah.toInt ea.toInt (I' (ad g 43) 1).toInt))) ∧ ∃ v : Int32, r = some (.int v) ∧ 0 ≤ v.toInt ∧ v.toInt ≤ 17226 ∧ v.toInt ≤ 594 + K) := by
  refine SP_of ⟨by decide, rfl⟩ (Nat.le_of_ble_eq_true rfl) ?_
  have e11736 : I (ad g 1) 1 = L := hI.2
  have b11737 := BT_get hI.1 1 1 2 (0) (0) (900) (by decide) 1 (by decide) (by decide)
  rw [e11736] at b11737
  have fr0 : fz 74 g [43, 47] I I := fz_rf
  obtain ⟨w11738, ew11738⟩ : ∃ w : Int32, I (ad g 43) 8 = w := ⟨_, rfl⟩
  have hml0 := hml
  rw [ew11738] at hml0
  refine WP_aload_n dX2_weighDay_0 rfl ?_
  refine WP_getr dX2_weighDay_1 fX2_32 rfl (lyx_is hy 43 2 rfl) (rfx hr 43 2 5 (by decide)) ?_
  refine WP_getr dX2_weighDay_4 fX2_46 rfl (lyx_is hy 5 0 rfl) hT ?_
  refine WP_getr dX2_weighDay_7 fX2_120 rfl (lyx_is hy 27 7 rfl) (rfx hr 27 7 30 (by decide)) ?_
  refine WP_iload_n dX2_weighDay_10 rfl ?_
  refine WQ_iald dX2_weighDay_11 (lyx_is hy 30 13 rfl) (lyx_n hy 30 4 rfl) (by omega) (by omega) (fun q hq => BT_get hI.1 30 0 4 (0) (0) (1000) (by decide) q (Nat.zero_le _) hq) (fun v11739 av11739 bv11739 ev11739 => ?_)
  refine WP_istore (ls' := [(0, _), (1, _), (2, _), (3, _), (4, _), (5, _)]) dX2_weighDay_12 (by decide) rfl ?_
  refine WQ_iconst (0) (0) dX2_weighDay_14 rfl rfl (fun v11740 hv11740 => ?_)
  refine WP_istore (ls' := [(0, _), (1, _), (2, _), (3, _), (4, _), (5, _), (6, _)]) dX2_weighDay_15 (by decide) rfl ?_
  refine WQ_iconst (0) (0) dX2_weighDay_17 rfl rfl (fun v11741 hv11741 => ?_)
  refine WP_istore (ls' := [(0, _), (1, _), (2, _), (3, _), (4, _), (5, _), (6, _), (7, _)]) dX2_weighDay_18 (by decide) rfl ?_
  have lp20_11747 : ∀ (mz : Nat) (i11742 : Int32) (i11743 : Int32) (I11744 : pI), XI g n L I11744 → fz 74 g [43, 47] I I11744 → ∀ (w11746 : Int32), I11744 (ad g 43) 1 = w11746 → ∀ (w11747 : Int32), I11744 (ad g 43) 8 = w11747 → 0 ≤ i11742.toInt → i11742.toInt ≤ 17226 → 0 ≤ i11743.toInt → i11743.toInt ≤ 6 → i11742.toInt ≤ 594 + K → w11747.toInt = w11738.toInt → (VIS (J (ad g 45)) ah.toInt i11743.toInt 0 (FV (I11744 (ad g 47)) (594 + K))) → (VIS (J (ad g 45)) ah.toInt i11743.toInt 0 (FU (I (ad g 44)) (J (ad g 45)) ah.toInt ea.toInt w11746.toInt)) → (7 - i11743.toInt).toNat < mz → WP g mX2_weighDay 20 [(0, .ref (ad g 43)), (1, .int ea), (2, .int so), (3, .int da), (4, .int ah), (5, .int v11739), (6, .int i11742), (7, .int i11743)] [] I11744 J R (fun r I' J' R' => (XI g n L I' ∧ R' = R ∧ fz 74 g [43, 47] I I' ∧ J' = J ∧ (VIS (J (ad g 45)) ah.toInt 6 0 (FV (I' (ad g 47)) (594 + K)) ∧ VIS (J (ad g 45)) ah.toInt 6 0 (FU (I (ad g 44)) (J (ad g 45)) ah.toInt ea.toInt (I' (ad g 43) 1).toInt))) ∧ ∃ v : Int32, r = some (.int v) ∧ 0 ≤ v.toInt ∧ v.toInt ≤ 17226 ∧ v.toInt ≤ 594 + K) := by
    intro mz
    induction mz with
    | zero =>
      intro i11742 i11743 I11744 hI11744 fiI11744 w11746 ew11746 w11747 ew11747 ai11742 bi11742 ai11743 bi11743 j0_I11744_11744 j1_I11744_11744 PV_I11744_11744 PU_I11744_11744 hmlp20_11747
      exact absurd hmlp20_11747 (Nat.not_lt_zero _)
    | succ mz ihlp20_11747 =>
      intro i11742 i11743 I11744 hI11744 fiI11744 w11746 ew11746 w11747 ew11747 ai11742 bi11742 ai11743 bi11743 j0_I11744_11744 j1_I11744_11744 PV_I11744_11744 PU_I11744_11744 hmlp20_11747
      have bw11746 := BT_get hI11744.1 43 1 2 (0) (0) (47) (by decide) 1 (by decide) (by decide)
      rw [ew11746] at bw11746
      have e11749 : I11744 (ad g 1) 1 = L := hI11744.2
      have b11750 := BT_get hI11744.1 1 1 2 (0) (0) (900) (by decide) 1 (by decide) (by decide)
      rw [e11749] at b11750
      refine WP_iload dX2_weighDay_20 rfl ?_
      refine WQ_bipush (6) (6) dX2_weighDay_22 rfl rfl (fun v11751 hv11751 => ?_)
      refine WQ_icmp_ge 146 dX2_weighDay_24 rfl (fun c11751 => ?_) (fun c11751 => ?_)
      · refine WP_iload dX2_weighDay_146 rfl ?_
        exact WP_iret dX2_weighDay_148 rfl ⟨⟨hI11744, rfl, fiI11744, rfl, ⟨by rw [show (6 : Int) = i11743.toInt by omega]; exact PV_I11744_11744, by rw [show (6 : Int) = i11743.toInt by omega, ew11746]; exact PU_I11744_11744⟩⟩, _, rfl, by omega, by omega, by omega⟩
      · refine WP_aload_n dX2_weighDay_27 rfl ?_
        refine WP_getr dX2_weighDay_28 fX2_18 rfl (lyx_is hy 43 2 rfl) (rfx hr 43 4 45 (by decide)) ?_
        refine WP_iload dX2_weighDay_31 rfl ?_
        refine WQ_bipush (6) (6) dX2_weighDay_33 rfl rfl (fun v11753 hv11753 => ?_)
        refine WQ_imulk (6) dX2_weighDay_35 hv11753 (by omega) (by omega) (fun v11754 hv11754 => ?_)
        refine WP_iload dX2_weighDay_36 rfl ?_
        refine WQ_iadd dX2_weighDay_38 (by omega) (by omega) (fun v11755 hv11755 => ?_)
        refine WQ_laldx dX2_weighDay_39 (lyx_is hy 45 14 rfl) (lyx_n hy 45 168 rfl) (by omega) (by omega) (fun l11756 el11756 => ?_)
        refine WP_lstore (ls' := [(0, _), (1, _), (2, _), (3, _), (4, _), (5, _), (6, _), (7, _), (8, _)]) dX2_weighDay_40 (by decide) rfl ?_
        refine WQ_iconst (0) (0) dX2_weighDay_42 rfl rfl (fun v11757 hv11757 => ?_)
        refine WP_istore (ls' := [(0, _), (1, _), (2, _), (3, _), (4, _), (5, _), (6, _), (7, _), (8, _), (10, _)]) dX2_weighDay_43 (by decide) rfl ?_
        have lp45_11763 : ∀ (mz : Nat) (i11758 : Int32) (i11759 : Int32) (I11760 : pI), XI g n L I11760 → fz 74 g [43, 47] I I11760 → ∀ (w11762 : Int32), I11760 (ad g 43) 1 = w11762 → ∀ (w11763 : Int32), I11760 (ad g 43) 8 = w11763 → 0 ≤ i11758.toInt → i11758.toInt ≤ 17226 → 0 ≤ i11759.toInt → i11759.toInt ≤ 61 → i11758.toInt ≤ 594 + K → w11763.toInt = w11738.toInt → (VIS (J (ad g 45)) ah.toInt i11743.toInt i11759.toInt (FV (I11760 (ad g 47)) (594 + K))) → (VIS (J (ad g 45)) ah.toInt i11743.toInt i11759.toInt (FU (I (ad g 44)) (J (ad g 45)) ah.toInt ea.toInt w11762.toInt)) → (62 - i11759.toInt).toNat < mz → WP g mX2_weighDay 45 [(0, .ref (ad g 43)), (1, .int ea), (2, .int so), (3, .int da), (4, .int ah), (5, .int v11739), (6, .int i11758), (7, .int i11743), (8, .long l11756), (10, .int i11759)] [] I11760 J R (fun r I' J' R' => (XI g n L I' ∧ R' = R ∧ fz 74 g [43, 47] I I' ∧ J' = J ∧ (VIS (J (ad g 45)) ah.toInt 6 0 (FV (I' (ad g 47)) (594 + K)) ∧ VIS (J (ad g 45)) ah.toInt 6 0 (FU (I (ad g 44)) (J (ad g 45)) ah.toInt ea.toInt (I' (ad g 43) 1).toInt))) ∧ ∃ v : Int32, r = some (.int v) ∧ 0 ≤ v.toInt ∧ v.toInt ≤ 17226 ∧ v.toInt ≤ 594 + K) := by
          intro mz
          induction mz with
          | zero =>
            intro i11758 i11759 I11760 hI11760 fiI11760 w11762 ew11762 w11763 ew11763 ai11758 bi11758 ai11759 bi11759 j0_I11760_11760 j1_I11760_11760 PV_I11760_11760 PU_I11760_11760 hmlp45_11763
            exact absurd hmlp45_11763 (Nat.not_lt_zero _)
          | succ mz ihlp45_11763 =>
            intro i11758 i11759 I11760 hI11760 fiI11760 w11762 ew11762 w11763 ew11763 ai11758 bi11758 ai11759 bi11759 j0_I11760_11760 j1_I11760_11760 PV_I11760_11760 PU_I11760_11760 hmlp45_11763
            have bw11762 := BT_get hI11760.1 43 1 2 (0) (0) (47) (by decide) 1 (by decide) (by decide)
            rw [ew11762] at bw11762
            have e11765 : I11760 (ad g 1) 1 = L := hI11760.2
            have b11766 := BT_get hI11760.1 1 1 2 (0) (0) (900) (by decide) 1 (by decide) (by decide)
            rw [e11765] at b11766
            refine WP_iload dX2_weighDay_45 rfl ?_
            refine WQ_bipush (61) (61) dX2_weighDay_47 rfl rfl (fun v11767 hv11767 => ?_)
            refine WQ_icmp_ge 140 dX2_weighDay_49 rfl (fun c11767 => ?_) (fun c11767 => ?_)
            · refine WP_iinc (ls' := [(0, _), (1, _), (2, _), (3, _), (4, _), (5, _), (6, _), (7, _), (8, _), (10, _)]) dX2_weighDay_140 rfl (by decide) rfl ?_
              have hv11769 : (i11743 + Int32.ofInt (1)).toInt = i11743.toInt + (1) := ia_n rfl (by omega) (by omega)
              generalize i11743 + Int32.ofInt (1) = v11769 at hv11769 ⊢
              refine WP_goto 20 dX2_weighDay_143 rfl ?_
              exact WP_sub (fc rfl (fc rfl (fc rfl (fc rfl (fc rfl (fc rfl (fc rfl (fc rfl fn)))))))) (ihlp20_11747 i11758 v11769 I11760 hI11760 fiI11760 w11762 ew11762 w11763 ew11763 (by omega) (by omega) (by omega) (by omega) (by omega) (by omega) (VIS_next PV_I11760_11760 hv11769 (by omega)) (VIS_next PU_I11760_11760 hv11769 (by omega)) (by omega))
            · refine WP_lload dX2_weighDay_52 rfl ?_
              refine WP_iload dX2_weighDay_54 rfl ?_
              refine WQ_lushrx dX2_weighDay_56 (by omega) (by omega) (fun l11770 ql11770 => ?_)
              refine WP_lconst (0) dX2_weighDay_57 rfl ?_
              obtain ⟨l11771, hl11771, el11771⟩ : ∃ v : Int64, v.toInt = 0 ∧ (0 : Int64) = v := ⟨_, rfl, rfl⟩
              rw [el11771]; clear el11771
              refine WQ_lcmp dX2_weighDay_58 (fun v11772 av11772 bv11772 => ?_)
              refine WQ_if_eq 140 dX2_weighDay_59 rfl (fun c11772 => ?_) (fun c11772 => ?_)
              · refine WP_iinc (ls' := [(0, _), (1, _), (2, _), (3, _), (4, _), (5, _), (6, _), (7, _), (8, _), (10, _)]) dX2_weighDay_140 rfl (by decide) rfl ?_
                have hv11774 : (i11743 + Int32.ofInt (1)).toInt = i11743.toInt + (1) := ia_n rfl (by omega) (by omega)
                generalize i11743 + Int32.ofInt (1) = v11774 at hv11774 ⊢
                refine WP_goto 20 dX2_weighDay_143 rfl ?_
                exact WP_sub (fc rfl (fc rfl (fc rfl (fc rfl (fc rfl (fc rfl (fc rfl (fc rfl fn)))))))) (ihlp20_11747 i11758 v11774 I11760 hI11760 fiI11760 w11762 ew11762 w11763 ew11763 (by omega) (by omega) (by omega) (by omega) (by omega) (by omega) (VIS_exit PV_I11760_11760 hv11774 (by rw [show (6 * ah.toInt + i11743.toInt).toNat = v11755.toInt.toNat by omega]; exact el11756) ql11770 (by omega)) (VIS_exit PU_I11760_11760 hv11774 (by rw [show (6 * ah.toInt + i11743.toInt).toNat = v11755.toInt.toNat by omega]; exact el11756) ql11770 (by omega)) (by omega))
              · refine WP_lload dX2_weighDay_62 rfl ?_
                refine WP_iload dX2_weighDay_64 rfl ?_
                refine WQ_lushrx dX2_weighDay_66 (by omega) (by omega) (fun l11775 ql11775 => ?_)
                refine WP_lconst (1) dX2_weighDay_67 rfl ?_
                obtain ⟨l11776, hl11776, el11776⟩ : ∃ v : Int64, v.toInt = 1 ∧ (1 : Int64) = v := ⟨_, rfl, rfl⟩
                rw [el11776]; clear el11776
                refine WQ_land1 dX2_weighDay_68 hl11776 (fun l11777 ql11777 => ?_)
                refine WP_lconst (0) dX2_weighDay_69 rfl ?_
                obtain ⟨l11778, hl11778, el11778⟩ : ∃ v : Int64, v.toInt = 0 ∧ (0 : Int64) = v := ⟨_, rfl, rfl⟩
                rw [el11778]; clear el11778
                refine WQ_lcmp dX2_weighDay_70 (fun v11779 av11779 bv11779 => ?_)
                refine WQ_if_eq 134 dX2_weighDay_71 rfl (fun c11779 => ?_) (fun c11779 => ?_)
                · refine WP_iinc (ls' := [(0, _), (1, _), (2, _), (3, _), (4, _), (5, _), (6, _), (7, _), (8, _), (10, _)]) dX2_weighDay_134 rfl (by decide) rfl ?_
                  have hv11781 : (i11759 + Int32.ofInt (1)).toInt = i11759.toInt + (1) := ia_n rfl (by omega) (by omega)
                  generalize i11759 + Int32.ofInt (1) = v11781 at hv11781 ⊢
                  refine WP_goto 45 dX2_weighDay_137 rfl ?_
                  exact WP_sub (fc rfl (fc rfl (fc rfl (fc rfl (fc rfl (fc rfl (fc rfl (fc rfl (fc rfl (fc rfl fn)))))))))) (ihlp45_11763 i11758 v11781 I11760 hI11760 fiI11760 w11762 ew11762 w11763 ew11763 (by omega) (by omega) (by omega) (by omega) (by omega) (by omega) (VIS_skip PV_I11760_11760 (by rw [show (6 * ah.toInt + i11743.toInt).toNat = v11755.toInt.toNat by omega]; exact el11756) ((bt_z ql11777 ql11775).mp (by omega)) hv11781) (VIS_skip PU_I11760_11760 (by rw [show (6 * ah.toInt + i11743.toInt).toNat = v11755.toInt.toNat by omega]; exact el11756) ((bt_z ql11777 ql11775).mp (by omega)) hv11781) (by omega))
                · have bk : bt l11756 i11759.toInt := Classical.byContradiction (fun hn => absurd ((bt_z ql11777 ql11775).mpr hn) (by omega))
                  have bj11781 : bt (J (ad g 45) (6 * ah.toInt + i11743.toInt).toNat) i11759.toInt := by rw [show (6 * ah.toInt + i11743.toInt).toNat = v11755.toInt.toNat by omega, el11756]; exact bk
                  clear bk
                  refine WP_aload_n dX2_weighDay_74 rfl ?_
                  refine WQ_bipush (60) (60) dX2_weighDay_75 rfl rfl (fun v11783 hv11783 => ?_)
                  refine WP_iload dX2_weighDay_77 rfl ?_
                  refine WP_iload_n dX2_weighDay_79 rfl ?_
                  refine WQ_iadd dX2_weighDay_80 (by omega) (by omega) (fun v11784 hv11784 => ?_)
                  refine WQ_min dX2_weighDay_81 lX2_101 ⟨by decide, Nat.le_of_ble_eq_true rfl⟩ (fun v11785 av11785 bv11785 cv11785 => ?_)
                  refine WP_iload dX2_weighDay_84 rfl ?_
                  refine WP_iload_n dX2_weighDay_86 rfl ?_
                  have cev11785 : CE i11759.toInt v11785.toInt ea.toInt := by unfold CE; omega
                  refine WP_callV3 (k := 2) dX2_weighDay_87 ⟨⟨⟨by decide, by decide⟩, zX2_weigh⟩, lX2_123, by decide, rfl, vX2_weigh.1, vX2_weigh.2⟩ (lyx_is hy 43 2 rfl) (sx_weighx_48 hy hr hI11760 v11785 i11743 da (by omega) (by omega) (by omega) (by omega) (by omega) (by omega) (K := K) (by omega) hL (by rw [ew11763]; omega) (by rw [fz_at fiI11760 44 (by decide) (by decide), fz_at fiI11760 48 (by decide) (by decide), fz_at fiI11760 24 (by decide) (by decide), fz_at fiI11760 25 (by decide) (by decide), fz_at fiI11760 26 (by decide) (by decide)]; exact hWD _ _ _ (by omega) (by omega) (by omega) (by omega) bj11781 cev11785)) (Nat.le_of_ble_eq_true rfl) ?_
                  intro r I11786 J11787 Ra hq
                  obtain ⟨⟨hI11786, ec, fiI11786, ejI11786, pI11786⟩, rfl⟩ := hq
                  rw [ec]
                  clear ec Ra
                  have fr11788 : fz 74 g [43, 47] I I11786 := fz_tr fiI11760 (fz_mono fiI11786 (by decide))
                  rw [ejI11786]
                  clear ejI11786 J11787
                  have VI11786 := PV_I11760_11760
                  rw [← fz_at fiI11786 47 (by decide) (by decide)] at VI11786
                  obtain ⟨paI11786, pbI11786, pcI11786, pdI11786⟩ := pI11786
                  rw [fz_at fiI11760 44 (by decide) (by decide)] at pcI11786
                  have UI11786 := FU_step PU_I11760_11760 (by omega) (by omega) bj11781 cev11785 pcI11786
                  have e11789 : I11786 (ad g 1) 1 = L := hI11786.2
                  have b11790 := BT_get hI11786.1 1 1 2 (0) (0) (900) (by decide) 1 (by decide) (by decide)
                  rw [e11789] at b11790
                  obtain ⟨w11791, ew11791⟩ : ∃ w : Int32, I11786 (ad g 43) 0 = w := ⟨_, rfl⟩
                  obtain ⟨w11792, ew11792⟩ : ∃ w : Int32, I11786 (ad g 43) 1 = w := ⟨_, rfl⟩
                  have bw11792 := BT_get hI11786.1 43 1 2 (0) (0) (47) (by decide) 1 (by decide) (by decide)
                  rw [ew11792] at bw11792
                  obtain ⟨w11793, ew11793⟩ : ∃ w : Int32, I11786 (ad g 43) 8 = w := ⟨_, rfl⟩
                  rw [ew11791] at paI11786 pbI11786
                  rw [ew11793] at pdI11786
                  rw [ew11763] at pdI11786
                  have peI11786 : w11793.toInt = w11763.toInt := by rw [pdI11786]
                  have WI11786 := UI11786
                  rw [ew11792] at WI11786
                  refine WP_aload_n dX2_weighDay_90 rfl ?_
                  refine WP_getr dX2_weighDay_91 fX2_25 rfl (lyx_is hy 43 2 rfl) hN ?_
                  refine WP_iload dX2_weighDay_94 rfl ?_
                  refine WQ_bipush (61) (61) dX2_weighDay_96 rfl rfl (fun v11794 hv11794 => ?_)
                  refine WQ_imulk (61) dX2_weighDay_98 hv11794 (by omega) (by omega) (fun v11795 hv11795 => ?_)
                  refine WP_iload dX2_weighDay_99 rfl ?_
                  refine WQ_iadd dX2_weighDay_101 (by omega) (by omega) (fun v11796 hv11796 => ?_)
                  refine WP_aload_n dX2_weighDay_102 rfl ?_
                  refine WQ_getim dX2_weighDay_103 fX2_127 rfl (lyx_is hy 43 2 rfl) ew11791 ?_
                  refine WP_iload dX2_weighDay_106 rfl ?_
                  refine WQ_imulb (17226) (1000) dX2_weighDay_108 ⟨by omega, by omega⟩ ⟨by omega, by omega⟩ (by decide) (fun v11797 pv11797 av11797 bv11797 cv11797 => ?_)
                  refine WQ_sipush (1000) (1000) dX2_weighDay_109 rfl rfl (fun v11798 hv11798 => ?_)
                  refine WQ_idivk (1000) dX2_weighDay_112 hv11798 (by decide) (by omega) (fun v11799 hv11799 => ?_)
                  refine WQ_iast dX2_weighDay_113 (lyx_is hy 47 13 rfl) (lyx_n hy 47 366 rfl) (by omega) (by omega) (fun I11800 eI11800 => ?_)
                  have hI11800 : XI g n L I11800 := by rw [eI11800]; exact (xi_r0 hy hI11786 (c := 47) (by decide) (Or.inl (by decide)) (by decide))
                  have e11801 : I11800 (ad g 1) 1 = L := by rw [eI11800, pp_ne _ _ (Or.inl (lyx_ne hy (by decide) (by decide) (by decide)))]; exact e11789
                  have e11802 : I11800 (ad g 43) 0 = w11791 := by rw [eI11800, pp_ne _ _ (Or.inl (lyx_ne hy (by decide) (by decide) (by decide)))]; exact ew11791
                  have e11803 : I11800 (ad g 43) 1 = w11792 := by rw [eI11800, pp_ne _ _ (Or.inl (lyx_ne hy (by decide) (by decide) (by decide)))]; exact ew11792
                  have e11804 : I11800 (ad g 43) 8 = w11793 := by rw [eI11800, pp_ne _ _ (Or.inl (lyx_ne hy (by decide) (by decide) (by decide)))]; exact ew11793
                  have fr11805 : fz 74 g [43, 47] I I11800 := by rw [eI11800]; exact fzx_pp hy fr11788 (by decide) (by decide)
                  have xI11800 := eI11800
                  rw [cl (x := v11796) (n := v11796.toInt.toNat) (by omega)] at xI11800
                  have VI11800 := FV_step VI11786 xI11800 (by omega) (by omega) (by omega) (by omega) (by omega)
                  have rvI11800 : I11800 (ad g 47) v11796.toInt.toNat = v11799 := by rw [xI11800]; exact pp_self _ _ _ _
                  clear eI11800
                  refine WP_iload dX2_weighDay_114 rfl ?_
                  refine WP_aload_n dX2_weighDay_116 rfl ?_
                  refine WP_getr dX2_weighDay_117 fX2_25 rfl (lyx_is hy 43 2 rfl) hN ?_
                  refine WP_iload dX2_weighDay_120 rfl ?_
                  refine WQ_bipush (61) (61) dX2_weighDay_122 rfl rfl (fun v11806 hv11806 => ?_)
                  refine WQ_imulk (61) dX2_weighDay_124 hv11806 (by omega) (by omega) (fun v11807 hv11807 => ?_)
                  refine WP_iload dX2_weighDay_125 rfl ?_
                  refine WQ_iadd dX2_weighDay_127 (by omega) (by omega) (fun v11808 hv11808 => ?_)
                  refine WQ_ialdx dX2_weighDay_128 (lyx_is hy 47 13 rfl) (lyx_n hy 47 366 rfl) (by omega) (by omega) (fun v11809 zv11809 => ?_)
                  have tv11809 : v11809.toInt = v11799.toInt := by rw [← zv11809, show v11808.toInt.toNat = v11796.toInt.toNat by omega, rvI11800]
                  refine WQ_max dX2_weighDay_129 lX2_130 ⟨by decide, Nat.le_of_ble_eq_true rfl⟩ (fun v11810 av11810 bv11810 cv11810 => ?_)
                  refine WP_istore (ls' := [(0, _), (1, _), (2, _), (3, _), (4, _), (5, _), (6, _), (7, _), (8, _), (10, _)]) dX2_weighDay_132 (by decide) rfl ?_
                  refine WP_iinc (ls' := [(0, _), (1, _), (2, _), (3, _), (4, _), (5, _), (6, _), (7, _), (8, _), (10, _)]) dX2_weighDay_134 rfl (by decide) rfl ?_
                  have hv11811 : (i11759 + Int32.ofInt (1)).toInt = i11759.toInt + (1) := ia_n rfl (by omega) (by omega)
                  generalize i11759 + Int32.ofInt (1) = v11811 at hv11811 ⊢
                  refine WP_goto 45 dX2_weighDay_137 rfl ?_
                  exact WP_sub (fc rfl (fc rfl (fc rfl (fc rfl (fc rfl (fc rfl (fc rfl (fc rfl (fc rfl (fc rfl fn)))))))))) (ihlp45_11763 v11810 v11811 I11800 hI11800 fr11805 w11792 e11803 w11793 e11804 (by omega) (by omega) (by omega) (by omega) (by omega) (by omega) (by rw [hv11811]; exact VI11800) (by rw [hv11811]; exact WI11786) (by omega))
        exact WP_sub (fc rfl (fc rfl (fc rfl (fc rfl (fc rfl (fc rfl (fc rfl (fc rfl (fc rfl (fc rfl fn)))))))))) (lp45_11763 _ i11742 v11757 I11744 hI11744 fiI11744 w11746 ew11746 w11747 ew11747 (by omega) (by omega) (by omega) (by omega) (by omega) (by omega) (VIS_c0 PV_I11744_11744 (by omega)) (VIS_c0 PU_I11744_11744 (by omega)) (Nat.lt_succ_self _))
  obtain ⟨w11812, ew11812⟩ : ∃ w : Int32, I (ad g 43) 1 = w := ⟨_, rfl⟩
  have bw11812 := BT_get hI.1 43 1 2 (0) (0) (47) (by decide) 1 (by decide) (by decide)
  rw [ew11812] at bw11812
  exact WP_sub (fc rfl (fc rfl (fc rfl (fc rfl (fc rfl (fc rfl (fc rfl (fc rfl fn)))))))) (lp20_11747 _ v11740 v11741 I hI fr0 w11812 ew11812 w11738 ew11738 (by omega) (by omega) (by omega) (by omega) (by omega) (by omega) (VIS_0 (by omega) rfl) (VIS_0 (by omega) rfl) (Nat.lt_succ_self _))
