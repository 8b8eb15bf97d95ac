set_option maxHeartbeats 4000000 in
set_option maxRecDepth 100000 in
theorem sm_bestFrom {g : GG} {n : Int} {L : Int32} (hy : Ly g)  {I : pI} {J : pJ} {R : pR} (hr : Rf g R) (hI : MP g n L I) (so : Int32) (da : Int32) (co : Int32) (st : Int32) (nn : Int32) (so_lo : 0 ≤ so.toInt) (so_hi : so.toInt ≤ 3) (da_lo : 0 ≤ da.toInt) (da_hi : da.toInt ≤ 6) (co_lo : 0 ≤ co.toInt) (co_hi : co.toInt ≤ 60) (st_lo : 0 ≤ st.toInt) (st_hi : st.toInt ≤ 5) (nn_lo : 1 ≤ nn.toInt) (nn_hi : nn.toInt ≤ 28) : SP g mX11_bestFrom [.ref (ad g 0), .int so, .int da, .int co, .int st, .int nn] I J R (fun r I' J' R' => (MP g n L I' ∧ R' = R ∧ fz 49 g [0] I I' ∧ J' = J ∧ (AM (I (ad g 22)) (I (ad g 24)) (I (ad g 25)) (I (ad g 0) 14).toInt so.toInt da.toInt co.toInt st.toInt (I' (ad g 0) 56).toInt) ∧ I' (ad g 0) 10 = I (ad g 0) 10 ∧ I' (ad g 0) 14 = I (ad g 0) 14 ∧ I' (ad g 0) 68 = I (ad g 0) 68) ∧ ∃ v : Int32, r = some (.int v) ∧ 0 ≤ v.toInt ∧ v.toInt ≤ 16632 ∧ v.toInt ≤ 594 * nn.toInt) := by
  refine SP_of ⟨by decide, rfl⟩ (Nat.le_of_ble_eq_true rfl) ?_
  have e3825 : I (ad g 0) 1 = L := hI.1.2
  have b3826 := BT_get hI.1.1 0 1 2 (0) (0) (900) (by decide) 1 (by decide) (by decide)
  rw [e3825] at b3826
  have fr0 : fz 49 g [0] I I := fz_rf
  obtain ⟨w3827, ew3827⟩ : ∃ w : Int32, I (ad g 0) 14 = w := ⟨_, rfl⟩
  have bw3827 := BT_get hI.1.1 0 14 15 (-1) (0) (2) (by decide) 14 (by decide) (by decide)
  rw [ew3827] at bw3827
  obtain ⟨uu, euu⟩ : ∃ w : Int32, I (ad g 25) (7 * so.toInt + da.toInt).toNat = w := ⟨_, rfl⟩
  have buu := BT_get hI.1.1 25 0 28 (0) (0) (3) (by decide) (7 * so.toInt + da.toInt).toNat (Nat.zero_le _) (by omega)
  rw [euu] at buu
  obtain ⟨w3828, ew3828⟩ : ∃ w : Int32, I (ad g 0) 10 = w := ⟨_, rfl⟩
  have bw3828 := BT_get hI.1.1 0 10 11 (0) (0) (4) (by decide) 10 (by decide) (by decide)
  rw [ew3828] at bw3828
  obtain ⟨w3829, ew3829⟩ : ∃ w : Int32, I (ad g 0) 68 = w := ⟨_, rfl⟩
  refine WQ_iconst (-1) (-1) dX11_bestFrom_0 rfl rfl (fun v3830 hv3830 => ?_)
  refine WP_istore (ls' := [(0, _), (1, _), (2, _), (3, _), (4, _), (5, _), (6, _)]) dX11_bestFrom_1 (by decide) rfl ?_
  refine WQ_bipush (7) (7) dX11_bestFrom_3 rfl rfl (fun v3831 hv3831 => ?_)
  refine WP_iload_n dX11_bestFrom_5 rfl ?_
  refine WQ_imulK (7) dX11_bestFrom_6 hv3831 (by omega) (by omega) (fun v3832 hv3832 => ?_)
  refine WP_iload_n dX11_bestFrom_7 rfl ?_
  refine WQ_iadd dX11_bestFrom_8 (by omega) (by omega) (fun v3833 hv3833 => ?_)
  refine WP_istore (ls' := [(0, _), (1, _), (2, _), (3, _), (4, _), (5, _), (6, _), (7, _)]) dX11_bestFrom_9 (by decide) rfl ?_
  refine WP_aload_n dX11_bestFrom_11 rfl ?_
  refine WP_getr dX11_bestFrom_12 fX11_244 rfl (ly_is hy 0 11 rfl) (rf hr 0 29 11 (by decide)) ?_
  refine WP_iload_n dX11_bestFrom_15 rfl ?_
  refine WQ_iald dX11_bestFrom_16 (ly_is hy 11 13 rfl) (ly_n hy 11 4 rfl) (by omega) (by omega) (fun q hq => BT_get hI.1.1 11 0 4 (0) (0) (127) (by decide) q (Nat.zero_le _) hq) (fun v3834 av3834 bv3834 ev3834 => ?_)
  refine WP_iload_n dX11_bestFrom_17 rfl ?_
  refine WQ_ishru dX11_bestFrom_18 (fun v3835 => ?_)
  refine WQ_iconst (1) (1) dX11_bestFrom_19 rfl rfl (fun v3836 hv3836 => ?_)
  refine WQ_iandu dX11_bestFrom_20 (fun v3837 => ?_)
  refine WQ_iconst (1) (1) dX11_bestFrom_21 rfl rfl (fun v3838 hv3838 => ?_)
  have jn30_3841 : ∀ (v3841 : Int32), 0 ≤ v3841.toInt → v3841.toInt ≤ 1 → WP g mX11_bestFrom 30 [(0, .ref (ad g 0)), (1, .int so), (2, .int da), (3, .int co), (4, .int st), (5, .int nn), (6, .int v3830), (7, .int v3833)] [.int v3841] I J R (fun r I' J' R' => (MP g n L I' ∧ R' = R ∧ fz 49 g [0] I I' ∧ J' = J ∧ (AM (I (ad g 22)) (I (ad g 24)) (I (ad g 25)) (I (ad g 0) 14).toInt so.toInt da.toInt co.toInt st.toInt (I' (ad g 0) 56).toInt) ∧ I' (ad g 0) 10 = I (ad g 0) 10 ∧ I' (ad g 0) 14 = I (ad g 0) 14 ∧ I' (ad g 0) 68 = I (ad g 0) 68) ∧ ∃ v : Int32, r = some (.int v) ∧ 0 ≤ v.toInt ∧ v.toInt ≤ 16632 ∧ v.toInt ≤ 594 * nn.toInt) := by
    intro v3841 av3841 bv3841
    refine WP_istore (ls' := [(0, _), (1, _), (2, _), (3, _), (4, _), (5, _), (6, _), (7, _), (8, _)]) dX11_bestFrom_30 (by decide) rfl ?_
    refine WP_aload_n dX11_bestFrom_32 rfl ?_
    refine WP_iload_n dX11_bestFrom_33 rfl ?_
    refine WP_callV1 (k := 11) dX11_bestFrom_34 ⟨⟨⟨by decide, by decide⟩, zX11_loses⟩, lX11_414, by decide, rfl, vX11_loses.1, vX11_loses.2⟩ (ly_is hy 0 11 rfl) (sm_loses2 hy hr hI da (by omega) (by omega)) (Nat.le_of_ble_eq_true rfl) ?_
    intro r Ia Ja Ra hq
    obtain ⟨⟨ea, eb, ec⟩, v3843, rfl, av3843, bv3843⟩ := hq
    show WP _ _ _ _ (.int _ :: _) _ _ _ _
    rw [ea, eb, ec]
    clear ea eb ec Ia Ja Ra
    refine WP_istore (ls' := [(0, _), (1, _), (2, _), (3, _), (4, _), (5, _), (6, _), (7, _), (8, _), (9, _)]) dX11_bestFrom_37 (by decide) rfl ?_
    refine WP_aload_n dX11_bestFrom_39 rfl ?_
    refine WP_aload_n dX11_bestFrom_40 rfl ?_
    refine WP_getr dX11_bestFrom_41 fX11_261 rfl (ly_is hy 0 11 rfl) (rf hr 0 42 24 (by decide)) ?_
    refine WP_iload dX11_bestFrom_44 rfl ?_
    refine WQ_iald dX11_bestFrom_46 (ly_is hy 24 13 rfl) (ly_n hy 24 28 rfl) (by omega) (by omega) (fun q hq => BT_get hI.1.1 24 0 28 (-1) (0) (2) (by decide) q (Nat.zero_le _) hq) (fun v3844 av3844 bv3844 ev3844 => ?_)
    refine WP_iload_n dX11_bestFrom_47 rfl ?_
    refine WP_callV2 (k := 11) dX11_bestFrom_48 ⟨⟨⟨by decide, by decide⟩, zX11_costAt⟩, lX11_402, by decide, rfl, vX11_costAt.1, vX11_costAt.2⟩ (ly_is hy 0 11 rfl) (sm_costx hy hr hI v3844 da (by omega) (by omega) (by omega) (by omega)) (Nat.le_of_ble_eq_true rfl) ?_
    intro r Ia Ja Ra hq
    obtain ⟨⟨ea, eb, ec⟩, v3845, rfl, av3845, bv3845, cv3845⟩ := hq
    show WP _ _ _ _ (.int _ :: _) _ _ _ _
    rw [ea, eb, ec]
    clear ea eb ec Ia Ja Ra
    refine WP_istore (ls' := [(0, _), (1, _), (2, _), (3, _), (4, _), (5, _), (6, _), (7, _), (8, _), (9, _), (10, _)]) dX11_bestFrom_51 (by decide) rfl ?_
    refine WP_aload_n dX11_bestFrom_53 rfl ?_
    refine WP_aload_n dX11_bestFrom_54 rfl ?_
    refine WQ_getim dX11_bestFrom_55 fX11_224 rfl (ly_is hy 0 11 rfl) ew3827 ?_
    refine WP_iload_n dX11_bestFrom_58 rfl ?_
    refine WP_callV2 (k := 11) dX11_bestFrom_59 ⟨⟨⟨by decide, by decide⟩, zX11_costAt⟩, lX11_402, by decide, rfl, vX11_costAt.1, vX11_costAt.2⟩ (ly_is hy 0 11 rfl) (sm_costx hy hr hI w3827 da (by omega) (by omega) (by omega) (by omega)) (Nat.le_of_ble_eq_true rfl) ?_
    intro r Ia Ja Ra hq
    obtain ⟨⟨ea, eb, ec⟩, v3846, rfl, av3846, bv3846, cv3846⟩ := hq
    show WP _ _ _ _ (.int _ :: _) _ _ _ _
    rw [ea, eb, ec]
    clear ea eb ec Ia Ja Ra
    refine WP_istore (ls' := [(0, _), (1, _), (2, _), (3, _), (4, _), (5, _), (6, _), (7, _), (8, _), (9, _), (10, _), (11, _)]) dX11_bestFrom_62 (by decide) rfl ?_
    refine WP_aload_n dX11_bestFrom_64 rfl ?_
    refine WP_getr dX11_bestFrom_65 fX11_264 rfl (ly_is hy 0 11 rfl) (rf hr 0 43 25 (by decide)) ?_
    refine WP_iload dX11_bestFrom_68 rfl ?_
    refine WQ_ialdb dX11_bestFrom_70 (ly_is hy 25 13 rfl) (ly_n hy 25 28 rfl) (by omega) (by omega) (fun q hq => BT_get hI.1.1 25 0 28 (0) (0) (3) (by decide) q (Nat.zero_le _) hq) (fun v3847 av3847 bv3847 zv3847 => ?_)
    have tv3847 : v3847.toInt = uu.toInt := by rw [← zv3847, ← euu, ← fz_at fr0 25 (by decide) (by decide), show (7 * so.toInt + da.toInt).toNat = v3833.toInt.toNat by omega]
    have jn104_3854 : ∀ (v3854 : Int32), 0 ≤ v3854.toInt → v3854.toInt ≤ 3 → (v3854.toInt ≤ st.toInt) → WP g mX11_bestFrom 104 [(0, .ref (ad g 0)), (1, .int so), (2, .int da), (3, .int co), (4, .int st), (5, .int nn), (6, .int v3830), (7, .int v3833), (8, .int v3841), (9, .int v3843), (10, .int v3845), (11, .int v3846)] [.int v3854] I J R (fun r I' J' R' => (MP g n L I' ∧ R' = R ∧ fz 49 g [0] I I' ∧ J' = J ∧ (AM (I (ad g 22)) (I (ad g 24)) (I (ad g 25)) (I (ad g 0) 14).toInt so.toInt da.toInt co.toInt st.toInt (I' (ad g 0) 56).toInt) ∧ I' (ad g 0) 10 = I (ad g 0) 10 ∧ I' (ad g 0) 14 = I (ad g 0) 14 ∧ I' (ad g 0) 68 = I (ad g 0) 68) ∧ ∃ v : Int32, r = some (.int v) ∧ 0 ≤ v.toInt ∧ v.toInt ≤ 16632 ∧ v.toInt ≤ 594 * nn.toInt) := by
      intro v3854 av3854 bv3854 jf0_v3854
      refine WP_istore (ls' := [(0, _), (1, _), (2, _), (3, _), (4, _), (5, _), (6, _), (7, _), (8, _), (9, _), (10, _), (11, _), (12, _)]) dX11_bestFrom_104 (by decide) rfl ?_
      refine WQ_iconst (0) (0) dX11_bestFrom_106 rfl rfl (fun v3856 hv3856 => ?_)
      refine WP_istore (ls' := [(0, _), (1, _), (2, _), (3, _), (4, _), (5, _), (6, _), (7, _), (8, _), (9, _), (10, _), (11, _), (12, _), (13, _)]) dX11_bestFrom_107 (by decide) rfl ?_
      have lp109_3864 : ∀ (mz : Nat) (i3857 : Int32) (i3858 : Int32) (I3859 : pI), MP g n L I3859 → fz 49 g [0] I I3859 → ∀ (w3861 : Int32), I3859 (ad g 0) 10 = w3861 → ∀ (w3862 : Int32), I3859 (ad g 0) 14 = w3862 → ∀ (w3863 : Int32), I3859 (ad g 0) 68 = w3863 → ∀ (w3864 : Int32), I3859 (ad g 0) 56 = w3864 → -1 ≤ i3857.toInt → i3857.toInt ≤ 16632 → 0 ≤ i3858.toInt → i3858.toInt ≤ 3 → w3861.toInt = w3828.toInt → w3862.toInt = w3827.toInt → w3863.toInt = w3829.toInt → i3857.toInt ≤ 594 * nn.toInt → (i3858.toInt = 0 ∨ 0 ≤ i3857.toInt) → (i3857.toInt < 0 ∨ AM (I (ad g 22)) (I (ad g 24)) (I (ad g 25)) (I (ad g 0) 14).toInt so.toInt da.toInt co.toInt st.toInt w3864.toInt) → (4 - i3858.toInt).toNat < mz → WP g mX11_bestFrom 109 [(0, .ref (ad g 0)), (1, .int so), (2, .int da), (3, .int co), (4, .int st), (5, .int nn), (6, .int i3857), (7, .int v3833), (8, .int v3841), (9, .int v3843), (10, .int v3845), (11, .int v3846), (12, .int v3854), (13, .int i3858)] [] I3859 J R (fun r I' J' R' => (MP g n L I' ∧ R' = R ∧ fz 49 g [0] I I' ∧ J' = J ∧ (AM (I (ad g 22)) (I (ad g 24)) (I (ad g 25)) (I (ad g 0) 14).toInt so.toInt da.toInt co.toInt st.toInt (I' (ad g 0) 56).toInt) ∧ I' (ad g 0) 10 = I (ad g 0) 10 ∧ I' (ad g 0) 14 = I (ad g 0) 14 ∧ I' (ad g 0) 68 = I (ad g 0) 68) ∧ ∃ v : Int32, r = some (.int v) ∧ 0 ≤ v.toInt ∧ v.toInt ≤ 16632 ∧ v.toInt ≤ 594 * nn.toInt) := by
        intro mz
        induction mz with
        | zero =>
          intro i3857 i3858 I3859 hI3859 fiI3859 w3861 ew3861 w3862 ew3862 w3863 ew3863 w3864 ew3864 ai3857 bi3857 ai3858 bi3858 j0_I3859_3859 j1_I3859_3859 j2_I3859_3859 j3_I3859_3859 j4_I3859_3859 PA_I3859_3859 hmlp109_3864
          exact absurd hmlp109_3864 (Nat.not_lt_zero _)
        | succ mz ihlp109_3864 =>
          intro i3857 i3858 I3859 hI3859 fiI3859 w3861 ew3861 w3862 ew3862 w3863 ew3863 w3864 ew3864 ai3857 bi3857 ai3858 bi3858 j0_I3859_3859 j1_I3859_3859 j2_I3859_3859 j3_I3859_3859 j4_I3859_3859 PA_I3859_3859 hmlp109_3864
          have bw3861 := BT_get hI3859.1.1 0 10 11 (0) (0) (4) (by decide) 10 (by decide) (by decide)
          rw [ew3861] at bw3861
          have bw3862 := BT_get hI3859.1.1 0 14 15 (-1) (0) (2) (by decide) 14 (by decide) (by decide)
          rw [ew3862] at bw3862
          have bw3864 := BT_get hI3859.1.1 0 56 57 (0) (0) (47) (by decide) 56 (by decide) (by decide)
          rw [ew3864] at bw3864
          have e3866 : I3859 (ad g 0) 1 = L := hI3859.1.2
          have b3867 := BT_get hI3859.1.1 0 1 2 (0) (0) (900) (by decide) 1 (by decide) (by decide)
          rw [e3866] at b3867
          refine WP_iload dX11_bestFrom_109 rfl ?_
          refine WP_iload dX11_bestFrom_111 rfl ?_
          have jn129_3873 : ∀ (v3873 : Int32), 0 ≤ v3873.toInt → v3873.toInt ≤ 2 → (v3873.toInt = 0 ∨ w3827.toInt ≠ -1) → WP g mX11_bestFrom 129 [(0, .ref (ad g 0)), (1, .int so), (2, .int da), (3, .int co), (4, .int st), (5, .int nn), (6, .int i3857), (7, .int v3833), (8, .int v3841), (9, .int v3843), (10, .int v3845), (11, .int v3846), (12, .int v3854), (13, .int i3858)] [.int v3873, .int i3858] I3859 J R (fun r I' J' R' => (MP g n L I' ∧ R' = R ∧ fz 49 g [0] I I' ∧ J' = J ∧ (AM (I (ad g 22)) (I (ad g 24)) (I (ad g 25)) (I (ad g 0) 14).toInt so.toInt da.toInt co.toInt st.toInt (I' (ad g 0) 56).toInt) ∧ I' (ad g 0) 10 = I (ad g 0) 10 ∧ I' (ad g 0) 14 = I (ad g 0) 14 ∧ I' (ad g 0) 68 = I (ad g 0) 68) ∧ ∃ v : Int32, r = some (.int v) ∧ 0 ≤ v.toInt ∧ v.toInt ≤ 16632 ∧ v.toInt ≤ 594 * nn.toInt) := by
            intro v3873 av3873 bv3873 jf0_v3873
            refine WQ_icmp_gt 348 dX11_bestFrom_129 rfl (fun c3874 => ?_) (fun c3874 => ?_)
            · refine WP_iload dX11_bestFrom_348 rfl ?_
              exact WP_iret dX11_bestFrom_350 rfl ⟨⟨hI3859, rfl, fiI3859, rfl, ⟨(by rw [ew3864]; exact PA_I3859_3859.resolve_left (by omega)), (by rw [ew3861, ew3828] <;> exact (eq32 _ _).mpr (by omega)), (by rw [ew3862, ew3827] <;> exact (eq32 _ _).mpr (by omega)), (by rw [ew3863, ew3829] <;> exact (eq32 _ _).mpr (by omega))⟩⟩, _, rfl, by omega, by omega, by omega⟩
            · refine WP_iload dX11_bestFrom_132 rfl ?_
              refine WP_iload dX11_bestFrom_134 rfl ?_
              refine WQ_imulb (2) (20) dX11_bestFrom_136 ⟨by omega, by omega⟩ ⟨by omega, by omega⟩ (by decide) (fun v3876 pv3876 av3876 bv3876 cv3876 => ?_)
              refine WP_iload_n dX11_bestFrom_137 rfl ?_
              refine WQ_icmp_gt 348 dX11_bestFrom_138 rfl (fun c3876 => ?_) (fun c3876 => ?_)
              · refine WP_iload dX11_bestFrom_348 rfl ?_
                exact WP_iret dX11_bestFrom_350 rfl ⟨⟨hI3859, rfl, fiI3859, rfl, ⟨(by rw [ew3864]; exact PA_I3859_3859.resolve_left (by omega)), (by rw [ew3861, ew3828] <;> exact (eq32 _ _).mpr (by omega)), (by rw [ew3862, ew3827] <;> exact (eq32 _ _).mpr (by omega)), (by rw [ew3863, ew3829] <;> exact (eq32 _ _).mpr (by omega))⟩⟩, _, rfl, by omega, by omega, by omega⟩
              · refine WQ_iconst (0) (0) dX11_bestFrom_141 rfl rfl (fun v3878 hv3878 => ?_)
                refine WP_istore (ls' := [(0, _), (1, _), (2, _), (3, _), (4, _), (5, _), (6, _), (7, _), (8, _), (9, _), (10, _), (11, _), (12, _), (13, _), (14, _)]) dX11_bestFrom_142 (by decide) rfl ?_
                have lp144_3886 : ∀ (mz : Nat) (i3879 : Int32) (i3880 : Int32) (I3881 : pI), MP g n L I3881 → fz 49 g [0] I I3881 → ∀ (w3883 : Int32), I3881 (ad g 0) 10 = w3883 → ∀ (w3884 : Int32), I3881 (ad g 0) 14 = w3884 → ∀ (w3885 : Int32), I3881 (ad g 0) 68 = w3885 → ∀ (w3886 : Int32), I3881 (ad g 0) 56 = w3886 → -1 ≤ i3879.toInt → i3879.toInt ≤ 16632 → 0 ≤ i3880.toInt → i3880.toInt ≤ 4 → w3883.toInt = w3828.toInt → w3884.toInt = w3827.toInt → w3885.toInt = w3829.toInt → i3879.toInt ≤ 594 * nn.toInt → ((i3858.toInt = 0 ∧ i3880.toInt = 0) ∨ 0 ≤ i3879.toInt) → (i3879.toInt < 0 ∨ AM (I (ad g 22)) (I (ad g 24)) (I (ad g 25)) (I (ad g 0) 14).toInt so.toInt da.toInt co.toInt st.toInt w3886.toInt) → (5 - i3880.toInt).toNat < mz → WP g mX11_bestFrom 144 [(0, .ref (ad g 0)), (1, .int so), (2, .int da), (3, .int co), (4, .int st), (5, .int nn), (6, .int i3879), (7, .int v3833), (8, .int v3841), (9, .int v3843), (10, .int v3845), (11, .int v3846), (12, .int v3854), (13, .int i3858), (14, .int i3880)] [] I3881 J R (fun r I' J' R' => (MP g n L I' ∧ R' = R ∧ fz 49 g [0] I I' ∧ J' = J ∧ (AM (I (ad g 22)) (I (ad g 24)) (I (ad g 25)) (I (ad g 0) 14).toInt so.toInt da.toInt co.toInt st.toInt (I' (ad g 0) 56).toInt) ∧ I' (ad g 0) 10 = I (ad g 0) 10 ∧ I' (ad g 0) 14 = I (ad g 0) 14 ∧ I' (ad g 0) 68 = I (ad g 0) 68) ∧ ∃ v : Int32, r = some (.int v) ∧ 0 ≤ v.toInt ∧ v.toInt ≤ 16632 ∧ v.toInt ≤ 594 * nn.toInt) := by
                  intro mz
                  induction mz with
                  | zero =>
                    intro i3879 i3880 I3881 hI3881 fiI3881 w3883 ew3883 w3884 ew3884 w3885 ew3885 w3886 ew3886 ai3879 bi3879 ai3880 bi3880 j0_I3881_3881 j1_I3881_3881 j2_I3881_3881 j3_I3881_3881 j4_I3881_3881 PA_I3881_3881 hmlp144_3886
                    exact absurd hmlp144_3886 (Nat.not_lt_zero _)
                  | succ mz ihlp144_3886 =>
                    intro i3879 i3880 I3881 hI3881 fiI3881 w3883 ew3883 w3884 ew3884 w3885 ew3885 w3886 ew3886 ai3879 bi3879 ai3880 bi3880 j0_I3881_3881 j1_I3881_3881 j2_I3881_3881 j3_I3881_3881 j4_I3881_3881 PA_I3881_3881 hmlp144_3886
                    have bw3883 := BT_get hI3881.1.1 0 10 11 (0) (0) (4) (by decide) 10 (by decide) (by decide)
                    rw [ew3883] at bw3883
                    have bw3884 := BT_get hI3881.1.1 0 14 15 (-1) (0) (2) (by decide) 14 (by decide) (by decide)
                    rw [ew3884] at bw3884
                    have bw3886 := BT_get hI3881.1.1 0 56 57 (0) (0) (47) (by decide) 56 (by decide) (by decide)
                    rw [ew3886] at bw3886
                    have e3888 : I3881 (ad g 0) 1 = L := hI3881.1.2
                    have b3889 := BT_get hI3881.1.1 0 1 2 (0) (0) (900) (by decide) 1 (by decide) (by decide)
                    rw [e3888] at b3889
                    refine WP_iload dX11_bestFrom_144 rfl ?_
                    refine WP_iload dX11_bestFrom_146 rfl ?_
                    refine WQ_icmp_gt 342 dX11_bestFrom_148 rfl (fun c3889 => ?_) (fun c3889 => ?_)
                    · refine WP_iinc (ls' := [(0, _), (1, _), (2, _), (3, _), (4, _), (5, _), (6, _), (7, _), (8, _), (9, _), (10, _), (11, _), (12, _), (13, _), (14, _)]) dX11_bestFrom_342 rfl (by decide) rfl ?_
                      have hv3891 : (i3858 + Int32.ofInt (1)).toInt = i3858.toInt + (1) := ia_n rfl (by omega) (by omega)
                      generalize i3858 + Int32.ofInt (1) = v3891 at hv3891 ⊢
                      refine WP_goto 109 dX11_bestFrom_345 rfl ?_
                      exact WP_sub (fc rfl (fc rfl (fc rfl (fc rfl (fc rfl (fc rfl (fc rfl (fc rfl (fc rfl (fc rfl (fc rfl (fc rfl (fc rfl (fc rfl fn)))))))))))))) (ihlp109_3864 i3879 v3891 I3881 hI3881 fiI3881 w3883 ew3883 w3884 ew3884 w3885 ew3885 w3886 ew3886 (by omega) (by omega) (by omega) (by omega) (by omega) (by omega) (by omega) (by omega) (by omega) PA_I3881_3881 (by omega))
                    · refine WP_iload dX11_bestFrom_151 rfl ?_
                      refine WP_iload dX11_bestFrom_153 rfl ?_
                      refine WQ_isub dX11_bestFrom_155 (by omega) (by omega) (fun v3892 hv3892 => ?_)
                      refine WP_iload dX11_bestFrom_156 rfl ?_
                      refine WQ_iadd dX11_bestFrom_158 (by omega) (by omega) (fun v3893 hv3893 => ?_)
                      refine WP_istore (ls' := [(0, _), (1, _), (2, _), (3, _), (4, _), (5, _), (6, _), (7, _), (8, _), (9, _), (10, _), (11, _), (12, _), (13, _), (14, _), (15, _)]) dX11_bestFrom_159 (by decide) rfl ?_
                      refine WQ_iconst (0) (0) dX11_bestFrom_161 rfl rfl (fun v3894 hv3894 => ?_)
                      refine WP_istore (ls' := [(0, _), (1, _), (2, _), (3, _), (4, _), (5, _), (6, _), (7, _), (8, _), (9, _), (10, _), (11, _), (12, _), (13, _), (14, _), (15, _), (16, _)]) dX11_bestFrom_162 (by decide) rfl ?_
                      have lp164_3902 : ∀ (mz : Nat) (i3895 : Int32) (i3896 : Int32) (I3897 : pI), MP g n L I3897 → fz 49 g [0] I I3897 → ∀ (w3899 : Int32), I3897 (ad g 0) 10 = w3899 → ∀ (w3900 : Int32), I3897 (ad g 0) 14 = w3900 → ∀ (w3901 : Int32), I3897 (ad g 0) 68 = w3901 → ∀ (w3902 : Int32), I3897 (ad g 0) 56 = w3902 → -1 ≤ i3895.toInt → i3895.toInt ≤ 16632 → 0 ≤ i3896.toInt → i3896.toInt ≤ 4 → w3899.toInt = w3828.toInt → w3900.toInt = w3827.toInt → w3901.toInt = w3829.toInt → i3895.toInt ≤ 594 * nn.toInt → ((i3858.toInt = 0 ∧ i3880.toInt = 0 ∧ i3896.toInt = 0) ∨ 0 ≤ i3895.toInt) → (i3895.toInt < 0 ∨ AM (I (ad g 22)) (I (ad g 24)) (I (ad g 25)) (I (ad g 0) 14).toInt so.toInt da.toInt co.toInt st.toInt w3902.toInt) → (5 - i3896.toInt).toNat < mz → WP g mX11_bestFrom 164 [(0, .ref (ad g 0)), (1, .int so), (2, .int da), (3, .int co), (4, .int st), (5, .int nn), (6, .int i3895), (7, .int v3833), (8, .int v3841), (9, .int v3843), (10, .int v3845), (11, .int v3846), (12, .int v3854), (13, .int i3858), (14, .int i3880), (15, .int v3893), (16, .int i3896)] [] I3897 J R (fun r I' J' R' => (MP g n L I' ∧ R' = R ∧ fz 49 g [0] I I' ∧ J' = J ∧ (AM (I (ad g 22)) (I (ad g 24)) (I (ad g 25)) (I (ad g 0) 14).toInt so.toInt da.toInt co.toInt st.toInt (I' (ad g 0) 56).toInt) ∧ I' (ad g 0) 10 = I (ad g 0) 10 ∧ I' (ad g 0) 14 = I (ad g 0) 14 ∧ I' (ad g 0) 68 = I (ad g 0) 68) ∧ ∃ v : Int32, r = some (.int v) ∧ 0 ≤ v.toInt ∧ v.toInt ≤ 16632 ∧ v.toInt ≤ 594 * nn.toInt) := by
                        intro mz
                        induction mz with
                        | zero =>
                          intro i3895 i3896 I3897 hI3897 fiI3897 w3899 ew3899 w3900 ew3900 w3901 ew3901 w3902 ew3902 ai3895 bi3895 ai3896 bi3896 j0_I3897_3897 j1_I3897_3897 j2_I3897_3897 j3_I3897_3897 j4_I3897_3897 PA_I3897_3897 hmlp164_3902
                          exact absurd hmlp164_3902 (Nat.not_lt_zero _)
                        | succ mz ihlp164_3902 =>
                          intro i3895 i3896 I3897 hI3897 fiI3897 w3899 ew3899 w3900 ew3900 w3901 ew3901 w3902 ew3902 ai3895 bi3895 ai3896 bi3896 j0_I3897_3897 j1_I3897_3897 j2_I3897_3897 j3_I3897_3897 j4_I3897_3897 PA_I3897_3897 hmlp164_3902
                          have bw3899 := BT_get hI3897.1.1 0 10 11 (0) (0) (4) (by decide) 10 (by decide) (by decide)
                          rw [ew3899] at bw3899
                          have bw3900 := BT_get hI3897.1.1 0 14 15 (-1) (0) (2) (by decide) 14 (by decide) (by decide)
                          rw [ew3900] at bw3900
                          have bw3902 := BT_get hI3897.1.1 0 56 57 (0) (0) (47) (by decide) 56 (by decide) (by decide)
                          rw [ew3902] at bw3902
                          have e3904 : I3897 (ad g 0) 1 = L := hI3897.1.2
                          have b3905 := BT_get hI3897.1.1 0 1 2 (0) (0) (900) (by decide) 1 (by decide) (by decide)
                          rw [e3904] at b3905
                          refine WP_iload dX11_bestFrom_164 rfl ?_
                          refine WQ_iconst (5) (5) dX11_bestFrom_166 rfl rfl (fun v3906 hv3906 => ?_)
                          refine WQ_icmp_gt 336 dX11_bestFrom_167 rfl (fun c3906 => ?_) (fun c3906 => ?_)
                          · refine WP_iinc (ls' := [(0, _), (1, _), (2, _), (3, _), (4, _), (5, _), (6, _), (7, _), (8, _), (9, _), (10, _), (11, _), (12, _), (13, _), (14, _), (15, _), (16, _)]) dX11_bestFrom_336 rfl (by decide) rfl ?_
                            have hv3908 : (i3880 + Int32.ofInt (1)).toInt = i3880.toInt + (1) := ia_n rfl (by omega) (by omega)
                            generalize i3880 + Int32.ofInt (1) = v3908 at hv3908 ⊢
                            refine WP_goto 144 dX11_bestFrom_339 rfl ?_
                            exact WP_sub (fc rfl (fc rfl (fc rfl (fc rfl (fc rfl (fc rfl (fc rfl (fc rfl (fc rfl (fc rfl (fc rfl (fc rfl (fc rfl (fc rfl (fc rfl fn))))))))))))))) (ihlp144_3886 i3895 v3908 I3897 hI3897 fiI3897 w3899 ew3899 w3900 ew3900 w3901 ew3901 w3902 ew3902 (by omega) (by omega) (by omega) (by omega) (by omega) (by omega) (by omega) (by omega) (by omega) PA_I3897_3897 (by omega))
                          · refine WP_iload dX11_bestFrom_170 rfl ?_
                            refine WP_iload dX11_bestFrom_172 rfl ?_
                            have jn191_3912 : ∀ (v3912 : Int32), -3 ≤ v3912.toInt → v3912.toInt ≤ 3 → (v3912.toInt ≤ uu.toInt) → (0 ≤ v3912.toInt ∨ 0 < i3880.toInt) → WP g mX11_bestFrom 191 [(0, .ref (ad g 0)), (1, .int so), (2, .int da), (3, .int co), (4, .int st), (5, .int nn), (6, .int i3895), (7, .int v3833), (8, .int v3841), (9, .int v3843), (10, .int v3845), (11, .int v3846), (12, .int v3854), (13, .int i3858), (14, .int i3880), (15, .int v3893), (16, .int i3896)] [.int v3912, .int i3896] I3897 J R (fun r I' J' R' => (MP g n L I' ∧ R' = R ∧ fz 49 g [0] I I' ∧ J' = J ∧ (AM (I (ad g 22)) (I (ad g 24)) (I (ad g 25)) (I (ad g 0) 14).toInt so.toInt da.toInt co.toInt st.toInt (I' (ad g 0) 56).toInt) ∧ I' (ad g 0) 10 = I (ad g 0) 10 ∧ I' (ad g 0) 14 = I (ad g 0) 14 ∧ I' (ad g 0) 68 = I (ad g 0) 68) ∧ ∃ v : Int32, r = some (.int v) ∧ 0 ≤ v.toInt ∧ v.toInt ≤ 16632 ∧ v.toInt ≤ 594 * nn.toInt) := by
                              intro v3912 av3912 bv3912 jf0_v3912 jf1_v3912
                              refine WQ_icmp_gt 336 dX11_bestFrom_191 rfl (fun c3913 => ?_) (fun c3913 => ?_)
                              · refine WP_iinc (ls' := [(0, _), (1, _), (2, _), (3, _), (4, _), (5, _), (6, _), (7, _), (8, _), (9, _), (10, _), (11, _), (12, _), (13, _), (14, _), (15, _), (16, _)]) dX11_bestFrom_336 rfl (by decide) rfl ?_
                                have hv3915 : (i3880 + Int32.ofInt (1)).toInt = i3880.toInt + (1) := ia_n rfl (by omega) (by omega)
                                generalize i3880 + Int32.ofInt (1) = v3915 at hv3915 ⊢
                                refine WP_goto 144 dX11_bestFrom_339 rfl ?_
                                exact WP_sub (fc rfl (fc rfl (fc rfl (fc rfl (fc rfl (fc rfl (fc rfl (fc rfl (fc rfl (fc rfl (fc rfl (fc rfl (fc rfl (fc rfl (fc rfl fn))))))))))))))) (ihlp144_3886 i3895 v3915 I3897 hI3897 fiI3897 w3899 ew3899 w3900 ew3900 w3901 ew3901 w3902 ew3902 (by omega) (by omega) (by omega) (by omega) (by omega) (by omega) (by omega) (by omega) (by omega) PA_I3897_3897 (by omega))
                              · refine WP_iload dX11_bestFrom_194 rfl ?_
                                refine WP_iload dX11_bestFrom_196 rfl ?_
                                refine WQ_imulb (3) (20) dX11_bestFrom_198 ⟨by omega, by omega⟩ ⟨by omega, by omega⟩ (by decide) (fun v3916 pv3916 av3916 bv3916 cv3916 => ?_)
                                refine WP_iload dX11_bestFrom_199 rfl ?_
                                refine WP_iload dX11_bestFrom_201 rfl ?_
                                refine WQ_imulb (2) (20) dX11_bestFrom_203 ⟨by omega, by omega⟩ ⟨by omega, by omega⟩ (by decide) (fun v3917 pv3917 av3917 bv3917 cv3917 => ?_)
                                refine WQ_iadd dX11_bestFrom_204 (by omega) (by omega) (fun v3918 hv3918 => ?_)
                                refine WP_iload_n dX11_bestFrom_205 rfl ?_
                                refine WQ_icmp_gt 336 dX11_bestFrom_206 rfl (fun c3918 => ?_) (fun c3918 => ?_)
                                · refine WP_iinc (ls' := [(0, _), (1, _), (2, _), (3, _), (4, _), (5, _), (6, _), (7, _), (8, _), (9, _), (10, _), (11, _), (12, _), (13, _), (14, _), (15, _), (16, _)]) dX11_bestFrom_336 rfl (by decide) rfl ?_
                                  have hv3920 : (i3880 + Int32.ofInt (1)).toInt = i3880.toInt + (1) := ia_n rfl (by omega) (by omega)
                                  generalize i3880 + Int32.ofInt (1) = v3920 at hv3920 ⊢
                                  refine WP_goto 144 dX11_bestFrom_339 rfl ?_
                                  exact WP_sub (fc rfl (fc rfl (fc rfl (fc rfl (fc rfl (fc rfl (fc rfl (fc rfl (fc rfl (fc rfl (fc rfl (fc rfl (fc rfl (fc rfl (fc rfl fn))))))))))))))) (ihlp144_3886 i3895 v3920 I3897 hI3897 fiI3897 w3899 ew3899 w3900 ew3900 w3901 ew3901 w3902 ew3902 (by omega) (by omega) (by omega) (by omega) (by omega) (by omega) (by omega) (by omega) (by omega) PA_I3897_3897 (by omega))
                                · refine WP_aload_n dX11_bestFrom_209 rfl ?_
                                  refine WP_iload_n dX11_bestFrom_210 rfl ?_
                                  refine WP_iload dX11_bestFrom_211 rfl ?_
                                  refine WP_iload dX11_bestFrom_213 rfl ?_
                                  refine WQ_imulb (3) (20) dX11_bestFrom_215 ⟨by omega, by omega⟩ ⟨by omega, by omega⟩ (by decide) (fun v3921 pv3921 av3921 bv3921 cv3921 => ?_)
                                  refine WQ_isub dX11_bestFrom_216 (by omega) (by omega) (fun v3922 hv3922 => ?_)
                                  refine WP_iload dX11_bestFrom_217 rfl ?_
                                  refine WP_iload dX11_bestFrom_219 rfl ?_
                                  refine WQ_imulb (2) (20) dX11_bestFrom_221 ⟨by omega, by omega⟩ ⟨by omega, by omega⟩ (by decide) (fun v3923 pv3923 av3923 bv3923 cv3923 => ?_)
                                  refine WQ_isub dX11_bestFrom_222 (by omega) (by omega) (fun v3924 hv3924 => ?_)
                                  refine WP_iload dX11_bestFrom_223 rfl ?_
                                  refine WP_iload dX11_bestFrom_225 rfl ?_
                                  refine WP_callV3 (k := 11) dX11_bestFrom_227 ⟨⟨⟨by decide, by decide⟩, zX11_behindNight⟩, lX11_398, by decide, rfl, vX11_behindNight.1, vX11_behindNight.2⟩ (ly_is hy 0 11 rfl) (sm_behindNight hy hr hI3897 v3924 v3893 v3843 (by omega) (by omega) (by omega) (by omega) (by omega) (by omega)) (Nat.le_of_ble_eq_true rfl) ?_
                                  intro r Ia Ja Ra hq
                                  obtain ⟨⟨ea, eb, ec⟩, v3925, rfl, av3925, bv3925⟩ := hq
                                  show WP _ _ _ _ (.int _ :: _) _ _ _ _
                                  rw [ea, eb, ec]
                                  clear ea eb ec Ia Ja Ra
                                  refine WP_istore (ls' := [(0, _), (1, _), (2, _), (3, _), (4, _), (5, _), (6, _), (7, _), (8, _), (9, _), (10, _), (11, _), (12, _), (13, _), (14, _), (15, _), (16, _), (17, _)]) dX11_bestFrom_230 (by decide) rfl ?_
                                  refine WP_iload dX11_bestFrom_232 rfl ?_
                                  refine WQ_iconst (1) (1) dX11_bestFrom_234 rfl rfl (fun v3926 hv3926 => ?_)
                                  have jn279_3942 : ∀ (v3942 : Int32), 0 ≤ v3942.toInt → v3942.toInt ≤ 16038 → (v3942.toInt ≤ 594 * (nn.toInt - 1)) → WP g mX11_bestFrom 279 [(0, .ref (ad g 0)), (1, .int so), (2, .int da), (3, .int co), (4, .int st), (5, .int nn), (6, .int i3895), (7, .int v3833), (8, .int v3841), (9, .int v3843), (10, .int v3845), (11, .int v3846), (12, .int v3854), (13, .int i3858), (14, .int i3880), (15, .int v3893), (16, .int i3896), (17, .int v3925)] [.int v3942] I3897 J R (fun r I' J' R' => (MP g n L I' ∧ R' = R ∧ fz 49 g [0] I I' ∧ J' = J ∧ (AM (I (ad g 22)) (I (ad g 24)) (I (ad g 25)) (I (ad g 0) 14).toInt so.toInt da.toInt co.toInt st.toInt (I' (ad g 0) 56).toInt) ∧ I' (ad g 0) 10 = I (ad g 0) 10 ∧ I' (ad g 0) 14 = I (ad g 0) 14 ∧ I' (ad g 0) 68 = I (ad g 0) 68) ∧ ∃ v : Int32, r = some (.int v) ∧ 0 ≤ v.toInt ∧ v.toInt ≤ 16632 ∧ v.toInt ≤ 594 * nn.toInt) := by
                                    intro v3942 av3942 bv3942 jf0_v3942
                                    refine WP_istore (ls' := [(0, _), (1, _), (2, _), (3, _), (4, _), (5, _), (6, _), (7, _), (8, _), (9, _), (10, _), (11, _), (12, _), (13, _), (14, _), (15, _), (16, _), (17, _), (18, _)]) dX11_bestFrom_279 (by decide) rfl ?_
                                    refine WP_iload dX11_bestFrom_281 rfl ?_
                                    refine WP_iload dX11_bestFrom_283 rfl ?_
                                    refine WQ_iadd dX11_bestFrom_285 (by omega) (by omega) (fun v3944 hv3944 => ?_)
                                    refine WP_aload_n dX11_bestFrom_286 rfl ?_
                                    refine WP_getr dX11_bestFrom_287 fX11_267 rfl (ly_is hy 0 11 rfl) (rf hr 0 44 26 (by decide)) ?_
                                    refine WP_iload dX11_bestFrom_290 rfl ?_
                                    refine WQ_iald dX11_bestFrom_292 (ly_is hy 26 13 rfl) (ly_n hy 26 28 rfl) (by omega) (by omega) (fun q hq => BT_get hI3897.1.1 26 0 28 (0) (0) (99) (by decide) q (Nat.zero_le _) hq) (fun v3945 av3945 bv3945 ev3945 => ?_)
                                    refine WQ_imulb (6) (99) dX11_bestFrom_293 ⟨by omega, by omega⟩ ⟨by omega, by omega⟩ (by decide) (fun v3946 pv3946 av3946 bv3946 cv3946 => ?_)
                                    refine WP_iload dX11_bestFrom_294 rfl ?_
                                    refine WQ_iadd dX11_bestFrom_296 (by omega) (by omega) (fun v3947 hv3947 => ?_)
                                    refine WP_istore (ls' := [(0, _), (1, _), (2, _), (3, _), (4, _), (5, _), (6, _), (7, _), (8, _), (9, _), (10, _), (11, _), (12, _), (13, _), (14, _), (15, _), (16, _), (17, _), (18, _), (19, _)]) dX11_bestFrom_297 (by decide) rfl ?_
                                    refine WP_iload dX11_bestFrom_299 rfl ?_
                                    refine WP_iload dX11_bestFrom_301 rfl ?_
                                    refine WQ_icmp_gt 309 dX11_bestFrom_303 rfl (fun c3947 => ?_) (fun c3947 => ?_)
                                    · refine WP_iload dX11_bestFrom_309 rfl ?_
                                      refine WP_istore (ls' := [(0, _), (1, _), (2, _), (3, _), (4, _), (5, _), (6, _), (7, _), (8, _), (9, _), (10, _), (11, _), (12, _), (13, _), (14, _), (15, _), (16, _), (17, _), (18, _), (19, _)]) dX11_bestFrom_311 (by decide) rfl ?_
                                      refine WP_aload_n dX11_bestFrom_313 rfl ?_
                                      refine WQ_bipush (16) (16) dX11_bestFrom_314 rfl rfl (fun v3949 hv3949 => ?_)
                                      refine WP_iload dX11_bestFrom_316 rfl ?_
                                      refine WQ_imulK (16) dX11_bestFrom_318 hv3949 (by omega) (by omega) (fun v3950 hv3950 => ?_)
                                      refine WQ_iconst (4) (4) dX11_bestFrom_319 rfl rfl (fun v3951 hv3951 => ?_)
                                      refine WP_iload dX11_bestFrom_320 rfl ?_
                                      refine WQ_imulK (4) dX11_bestFrom_322 hv3951 (by omega) (by omega) (fun v3952 hv3952 => ?_)
                                      refine WQ_iadd dX11_bestFrom_323 (by omega) (by omega) (fun v3953 hv3953 => ?_)
                                      refine WP_iload dX11_bestFrom_324 rfl ?_
                                      refine WQ_iadd dX11_bestFrom_326 (by omega) (by omega) (fun v3954 hv3954 => ?_)
                                      refine WQ_puti dX11_bestFrom_327 fX11_423 rfl rfl (ly_is hy 0 11 rfl) (fun I3955 eI3955 => ?_)
                                      have hI3955 : MP g n L I3955 := by rw [eI3955]; exact (mp_w hy hI3897 (c := 0) (mi_f hy hI3897.1 (c := 0) (0) (0) (47) (by decide) (Or.inr (by decide)) (by decide) (by omega) (by omega)) (by decide) (by decide) (Or.inr (by decide)))
                                      have e3956 : I3955 (ad g 0) 10 = w3899 := by rw [eI3955, pp_ne _ _ (Or.inr (by decide))]; exact ew3899
                                      have e3957 : I3955 (ad g 0) 14 = w3900 := by rw [eI3955, pp_ne _ _ (Or.inr (by decide))]; exact ew3900
                                      have e3958 : I3955 (ad g 0) 68 = w3901 := by rw [eI3955, pp_ne _ _ (Or.inr (by decide))]; exact ew3901
                                      have e3959 : I3955 (ad g 0) 1 = L := by rw [eI3955, pp_ne _ _ (Or.inr (by decide))]; exact e3904
                                      have e3960 : I3955 (ad g 26) v3833.toNatClampNeg = v3945 := by rw [eI3955, pp_ne _ _ (Or.inl (ly_ne hy (by decide) (by decide) (by decide)))]; exact ev3945
                                      have e3961 : I3955 (ad g 0) 56 = v3954 := by rw [eI3955, pp_self]
                                      have fr3962 : fz 49 g [0] I I3955 := by rw [eI3955]; exact fzm_pp hy fiI3897 (by decide) (by decide)
                                      have AI3955 : v3947.toInt < 0 ∨ AM (I (ad g 22)) (I (ad g 24)) (I (ad g 25)) (I (ad g 0) 14).toInt so.toInt da.toInt co.toInt st.toInt v3954.toInt := by
                                        right
                                        unfold AM
                                        rw [euu, show I (ad g 24) (7 * so.toInt + da.toInt).toNat = v3844 by rw [← cl (x := v3833) (n := (7 * so.toInt + da.toInt).toNat) (by omega)]; exact ev3844, ew3827, ← cv3845, ← cv3846]
                                        exact AOKm_set (s := i3858.toInt) (f := i3880.toInt) (e := i3896.toInt) (by omega) (by omega) (by omega) (by omega) (by omega) (by omega) (by omega) (by omega) (by omega) (by omega)
                                      clear eI3955
                                      refine WP_iinc (ls' := [(0, _), (1, _), (2, _), (3, _), (4, _), (5, _), (6, _), (7, _), (8, _), (9, _), (10, _), (11, _), (12, _), (13, _), (14, _), (15, _), (16, _), (17, _), (18, _), (19, _)]) dX11_bestFrom_330 rfl (by decide) rfl ?_
                                      have hv3963 : (i3896 + Int32.ofInt (1)).toInt = i3896.toInt + (1) := ia_n rfl (by omega) (by omega)
                                      generalize i3896 + Int32.ofInt (1) = v3963 at hv3963 ⊢
                                      refine WP_goto 164 dX11_bestFrom_333 rfl ?_
                                      exact WP_sub (fc rfl (fc rfl (fc rfl (fc rfl (fc rfl (fc rfl (fc rfl (fc rfl (fc rfl (fc rfl (fc rfl (fc rfl (fc rfl (fc rfl (fc rfl (fc rfl (fc rfl fn))))))))))))))))) (ihlp164_3902 v3947 v3963 I3955 hI3955 fr3962 w3899 e3956 w3900 e3957 w3901 e3958 v3954 e3961 (by omega) (by omega) (by omega) (by omega) (by omega) (by omega) (by omega) (by omega) (by omega) AI3955 (by omega))
                                    · refine WP_goto 330 dX11_bestFrom_306 rfl ?_
                                      refine WP_iinc (ls' := [(0, _), (1, _), (2, _), (3, _), (4, _), (5, _), (6, _), (7, _), (8, _), (9, _), (10, _), (11, _), (12, _), (13, _), (14, _), (15, _), (16, _), (17, _), (18, _), (19, _)]) dX11_bestFrom_330 rfl (by decide) rfl ?_
                                      have hv3964 : (i3896 + Int32.ofInt (1)).toInt = i3896.toInt + (1) := ia_n rfl (by omega) (by omega)
                                      generalize i3896 + Int32.ofInt (1) = v3964 at hv3964 ⊢
                                      refine WP_goto 164 dX11_bestFrom_333 rfl ?_
                                      exact WP_sub (fc rfl (fc rfl (fc rfl (fc rfl (fc rfl (fc rfl (fc rfl (fc rfl (fc rfl (fc rfl (fc rfl (fc rfl (fc rfl (fc rfl (fc rfl (fc rfl (fc rfl fn))))))))))))))))) (ihlp164_3902 i3895 v3964 I3897 hI3897 fiI3897 w3899 ew3899 w3900 ew3900 w3901 ew3901 w3902 ew3902 (by omega) (by omega) (by omega) (by omega) (by omega) (by omega) (by omega) (by omega) (by omega) PA_I3897_3897 (by omega))
                                  refine WQ_icmp_ne 242 dX11_bestFrom_235 rfl (fun c3964 => ?_) (fun c3964 => ?_)
                                  · refine WP_aload_n dX11_bestFrom_242 rfl ?_
                                    refine WP_getr dX11_bestFrom_243 fX11_270 rfl (ly_is hy 0 11 rfl) (rf hr 0 54 35 (by decide)) ?_
                                    refine WQ_sipush (366) (366) dX11_bestFrom_246 rfl rfl (fun v3966 hv3966 => ?_)
                                    refine WP_iload dX11_bestFrom_249 rfl ?_
                                    refine WQ_iconst (1) (1) dX11_bestFrom_251 rfl rfl (fun v3967 hv3967 => ?_)
                                    refine WQ_isub dX11_bestFrom_252 (by omega) (by omega) (fun v3968 hv3968 => ?_)
                                    refine WQ_imulK (366) dX11_bestFrom_253 hv3966 (by omega) (by omega) (fun v3969 hv3969 => ?_)
                                    refine WQ_bipush (6) (6) dX11_bestFrom_254 rfl rfl (fun v3970 hv3970 => ?_)
                                    refine WP_iload dX11_bestFrom_256 rfl ?_
                                    refine WQ_imulK (6) dX11_bestFrom_258 hv3970 (by omega) (by omega) (fun v3971 hv3971 => ?_)
                                    refine WQ_iadd dX11_bestFrom_259 (by omega) (by omega) (fun v3972 hv3972 => ?_)
                                    refine WP_aload_n dX11_bestFrom_260 rfl ?_
                                    refine WP_iload dX11_bestFrom_261 rfl ?_
                                    refine WP_callV1 (k := 11) dX11_bestFrom_263 ⟨⟨⟨by decide, by decide⟩, zX11_leftOf⟩, lX11_420, by decide, rfl, vX11_leftOf.1, vX11_leftOf.2⟩ (ly_is hy 0 11 rfl) (sm_leftOf hy hr hI3897 v3893 (by omega) (by omega)) (Nat.le_of_ble_eq_true rfl) ?_
                                    intro r Ia Ja Ra hq
                                    obtain ⟨⟨ea, eb, ec⟩, v3973, rfl, av3973, bv3973⟩ := hq
                                    show WP _ _ _ _ (.int _ :: _) _ _ _ _
                                    rw [ea, eb, ec]
                                    clear ea eb ec Ia Ja Ra
                                    refine WQ_iadd dX11_bestFrom_266 (by omega) (by omega) (fun v3974 hv3974 => ?_)
                                    refine WQ_ialdf (q := v3974.toInt.toNat) dX11_bestFrom_267 (ly_is hy 35 13 rfl) (ly_n hy 35 10614 rfl) (by omega) (by omega) (by omega) (mb_get hI3897 (k := (nn.toInt - 1).toNat) (r := (6 * v3925.toInt + v3973.toInt).toNat) (by omega) (by omega) (by omega)) (fun v3975 av3975 bv3975 => ?_)
                                    refine WP_aload_n dX11_bestFrom_268 rfl ?_
                                    refine WP_getr dX11_bestFrom_269 fX11_238 rfl (ly_is hy 0 11 rfl) (rf hr 0 27 9 (by decide)) ?_
                                    refine WP_iload_n dX11_bestFrom_272 rfl ?_
                                    refine WQ_iald dX11_bestFrom_273 (ly_is hy 9 13 rfl) (ly_n hy 9 4 rfl) (by omega) (by omega) (fun q hq => BT_get hI3897.1.1 9 0 4 (0) (0) (1000) (by decide) q (Nat.zero_le _) hq) (fun v3976 av3976 bv3976 ev3976 => ?_)
                                    refine WQ_imulb (16038) (1000) dX11_bestFrom_274 ⟨by omega, by omega⟩ ⟨by omega, by omega⟩ (by decide) (fun v3977 pv3977 av3977 bv3977 cv3977 => ?_)
                                    refine WQ_sipush (1000) (1000) dX11_bestFrom_275 rfl rfl (fun v3978 hv3978 => ?_)
                                    refine WQ_idivk (1000) dX11_bestFrom_278 hv3978 (by decide) (by omega) (fun v3979 hv3979 => ?_)
                                    exact WP_sub (fc rfl (fc rfl (fc rfl (fc rfl (fc rfl (fc rfl (fc rfl (fc rfl (fc rfl (fc rfl (fc rfl (fc rfl (fc rfl (fc rfl (fc rfl (fc rfl (fc rfl (fc rfl fn)))))))))))))))))) (jn279_3942 v3979 (by omega) (by omega) (by omega))
                                  · refine WQ_iconst (0) (0) dX11_bestFrom_238 rfl rfl (fun v3980 hv3980 => ?_)
                                    refine WP_goto 279 dX11_bestFrom_239 rfl ?_
                                    exact WP_sub (fc rfl (fc rfl (fc rfl (fc rfl (fc rfl (fc rfl (fc rfl (fc rfl (fc rfl (fc rfl (fc rfl (fc rfl (fc rfl (fc rfl (fc rfl (fc rfl (fc rfl (fc rfl fn)))))))))))))))))) (jn279_3942 v3980 (by omega) (by omega) (by omega))
                            refine WQ_if_eq 181 dX11_bestFrom_174 rfl (fun c3980 => ?_) (fun c3980 => ?_)
                            · refine WP_aload_n dX11_bestFrom_181 rfl ?_
                              refine WP_getr dX11_bestFrom_182 fX11_264 rfl (ly_is hy 0 11 rfl) (rf hr 0 43 25 (by decide)) ?_
                              refine WP_iload dX11_bestFrom_185 rfl ?_
                              refine WQ_ialdb dX11_bestFrom_187 (ly_is hy 25 13 rfl) (ly_n hy 25 28 rfl) (by omega) (by omega) (fun q hq => BT_get hI3897.1.1 25 0 28 (0) (0) (3) (by decide) q (Nat.zero_le _) hq) (fun v3982 av3982 bv3982 zv3982 => ?_)
                              have tv3982 : v3982.toInt = uu.toInt := by rw [← zv3982, ← euu, ← fz_at fiI3897 25 (by decide) (by decide), show (7 * so.toInt + da.toInt).toNat = v3833.toInt.toNat by omega]
                              refine WP_iload dX11_bestFrom_188 rfl ?_
                              refine WQ_isub dX11_bestFrom_190 (by omega) (by omega) (fun v3983 hv3983 => ?_)
                              exact WP_sub (fc rfl (fc rfl (fc rfl (fc rfl (fc rfl (fc rfl (fc rfl (fc rfl (fc rfl (fc rfl (fc rfl (fc rfl (fc rfl (fc rfl (fc rfl (fc rfl (fc rfl fn))))))))))))))))) (jn191_3912 v3983 (by omega) (by omega) (by omega) (by omega))
                            · refine WQ_iconst (0) (0) dX11_bestFrom_177 rfl rfl (fun v3984 hv3984 => ?_)
                              refine WP_goto 191 dX11_bestFrom_178 rfl ?_
                              exact WP_sub (fc rfl (fc rfl (fc rfl (fc rfl (fc rfl (fc rfl (fc rfl (fc rfl (fc rfl (fc rfl (fc rfl (fc rfl (fc rfl (fc rfl (fc rfl (fc rfl (fc rfl fn))))))))))))))))) (jn191_3912 v3984 (by omega) (by omega) (by omega) (by omega))
                      exact WP_sub (fc rfl (fc rfl (fc rfl (fc rfl (fc rfl (fc rfl (fc rfl (fc rfl (fc rfl (fc rfl (fc rfl (fc rfl (fc rfl (fc rfl (fc rfl (fc rfl (fc rfl fn))))))))))))))))) (lp164_3902 _ i3879 v3894 I3881 hI3881 fiI3881 w3883 ew3883 w3884 ew3884 w3885 ew3885 w3886 ew3886 (by omega) (by omega) (by omega) (by omega) (by omega) (by omega) (by omega) (by omega) (by omega) PA_I3881_3881 (Nat.lt_succ_self _))
                exact WP_sub (fc rfl (fc rfl (fc rfl (fc rfl (fc rfl (fc rfl (fc rfl (fc rfl (fc rfl (fc rfl (fc rfl (fc rfl (fc rfl (fc rfl (fc rfl fn))))))))))))))) (lp144_3886 _ i3857 v3878 I3859 hI3859 fiI3859 w3861 ew3861 w3862 ew3862 w3863 ew3863 w3864 ew3864 (by omega) (by omega) (by omega) (by omega) (by omega) (by omega) (by omega) (by omega) (by omega) PA_I3859_3859 (Nat.lt_succ_self _))
          refine WQ_if_ne 124 dX11_bestFrom_113 rfl (fun c3984 => ?_) (fun c3984 => ?_)
          · refine WQ_iconst (0) (0) dX11_bestFrom_124 rfl rfl (fun v3986 hv3986 => ?_)
            refine WP_goto 129 dX11_bestFrom_125 rfl ?_
            exact WP_sub (fc rfl (fc rfl (fc rfl (fc rfl (fc rfl (fc rfl (fc rfl (fc rfl (fc rfl (fc rfl (fc rfl (fc rfl (fc rfl (fc rfl fn)))))))))))))) (jn129_3873 v3986 (by omega) (by omega) (by omega))
          · refine WP_aload_n dX11_bestFrom_116 rfl ?_
            refine WQ_getim dX11_bestFrom_117 fX11_224 rfl (ly_is hy 0 11 rfl) ew3862 ?_
            refine WQ_iconst (-1) (-1) dX11_bestFrom_120 rfl rfl (fun v3987 hv3987 => ?_)
            refine WQ_icmp_ne 128 dX11_bestFrom_121 rfl (fun c3987 => ?_) (fun c3987 => ?_)
            · refine WQ_iconst (2) (2) dX11_bestFrom_128 rfl rfl (fun v3989 hv3989 => ?_)
              exact WP_sub (fc rfl (fc rfl (fc rfl (fc rfl (fc rfl (fc rfl (fc rfl (fc rfl (fc rfl (fc rfl (fc rfl (fc rfl (fc rfl (fc rfl fn)))))))))))))) (jn129_3873 v3989 (by omega) (by omega) (by omega))
            · refine WQ_iconst (0) (0) dX11_bestFrom_124 rfl rfl (fun v3990 hv3990 => ?_)
              refine WP_goto 129 dX11_bestFrom_125 rfl ?_
              exact WP_sub (fc rfl (fc rfl (fc rfl (fc rfl (fc rfl (fc rfl (fc rfl (fc rfl (fc rfl (fc rfl (fc rfl (fc rfl (fc rfl (fc rfl fn)))))))))))))) (jn129_3873 v3990 (by omega) (by omega) (by omega))
      obtain ⟨w3991, ew3991⟩ : ∃ w : Int32, I (ad g 0) 56 = w := ⟨_, rfl⟩
      have bw3991 := BT_get hI.1.1 0 56 57 (0) (0) (47) (by decide) 56 (by decide) (by decide)
      rw [ew3991] at bw3991
      exact WP_sub (fc rfl (fc rfl (fc rfl (fc rfl (fc rfl (fc rfl (fc rfl (fc rfl (fc rfl (fc rfl (fc rfl (fc rfl (fc rfl (fc rfl fn)))))))))))))) (lp109_3864 _ v3830 v3856 I hI fr0 w3828 ew3828 w3827 ew3827 w3829 ew3829 w3991 ew3991 (by omega) (by omega) (by omega) (by omega) (by omega) (by omega) (by omega) (by omega) (by omega) (Or.inl (by omega)) (Nat.lt_succ_self _))
    refine WQ_if_le 103 dX11_bestFrom_71 rfl (fun c3991 => ?_) (fun c3991 => ?_)
    · refine WQ_iconst (0) (0) dX11_bestFrom_103 rfl rfl (fun v3993 hv3993 => ?_)
      exact WP_sub (fc rfl (fc rfl (fc rfl (fc rfl (fc rfl (fc rfl (fc rfl (fc rfl (fc rfl (fc rfl (fc rfl (fc rfl fn)))))))))))) (jn104_3854 v3993 (by omega) (by omega) (by omega))
    · refine WP_aload_n dX11_bestFrom_74 rfl ?_
      refine WP_getr dX11_bestFrom_75 fX11_261 rfl (ly_is hy 0 11 rfl) (rf hr 0 42 24 (by decide)) ?_
      refine WP_iload dX11_bestFrom_78 rfl ?_
      refine WQ_ialde dX11_bestFrom_80 (ly_is hy 24 13 rfl) (ly_n hy 24 28 rfl) (by omega) (by omega) ev3844 ?_
      refine WP_aload_n dX11_bestFrom_81 rfl ?_
      refine WQ_getim dX11_bestFrom_82 fX11_224 rfl (ly_is hy 0 11 rfl) ew3827 ?_
      refine WQ_icmp_ne 103 dX11_bestFrom_85 rfl (fun c3994 => ?_) (fun c3994 => ?_)
      · refine WQ_iconst (0) (0) dX11_bestFrom_103 rfl rfl (fun v3996 hv3996 => ?_)
        exact WP_sub (fc rfl (fc rfl (fc rfl (fc rfl (fc rfl (fc rfl (fc rfl (fc rfl (fc rfl (fc rfl (fc rfl (fc rfl fn)))))))))))) (jn104_3854 v3996 (by omega) (by omega) (by omega))
      · refine WP_aload_n dX11_bestFrom_88 rfl ?_
        refine WP_getr dX11_bestFrom_89 fX11_264 rfl (ly_is hy 0 11 rfl) (rf hr 0 43 25 (by decide)) ?_
        refine WP_iload dX11_bestFrom_92 rfl ?_
        refine WQ_ialdb dX11_bestFrom_94 (ly_is hy 25 13 rfl) (ly_n hy 25 28 rfl) (by omega) (by omega) (fun q hq => BT_get hI.1.1 25 0 28 (0) (0) (3) (by decide) q (Nat.zero_le _) hq) (fun v3997 av3997 bv3997 zv3997 => ?_)
        have tv3997 : v3997.toInt = uu.toInt := by rw [← zv3997, ← euu, ← fz_at fr0 25 (by decide) (by decide), show (7 * so.toInt + da.toInt).toNat = v3833.toInt.toNat by omega]
        refine WP_iload dX11_bestFrom_95 rfl ?_
        refine WQ_min dX11_bestFrom_97 lX11_417 ⟨by decide, Nat.le_of_ble_eq_true rfl⟩ (fun v3998 av3998 bv3998 cv3998 => ?_)
        refine WP_goto 104 dX11_bestFrom_100 rfl ?_
        exact WP_sub (fc rfl (fc rfl (fc rfl (fc rfl (fc rfl (fc rfl (fc rfl (fc rfl (fc rfl (fc rfl (fc rfl (fc rfl fn)))))))))))) (jn104_3854 v3998 (by omega) (by omega) (by omega))
  refine WQ_icmp_ne 29 dX11_bestFrom_22 rfl (fun c3998 => ?_) (fun c3998 => ?_)
  · refine WQ_iconst (0) (0) dX11_bestFrom_29 rfl rfl (fun v4000 hv4000 => ?_)
    exact WP_sub (fc rfl (fc rfl (fc rfl (fc rfl (fc rfl (fc rfl (fc rfl (fc rfl fn)))))))) (jn30_3841 v4000 (by omega) (by omega))
  · refine WQ_iconst (1) (1) dX11_bestFrom_25 rfl rfl (fun v4001 hv4001 => ?_)
    refine WP_goto 30 dX11_bestFrom_26 rfl ?_
    exact WP_sub (fc rfl (fc rfl (fc rfl (fc rfl (fc rfl (fc rfl (fc rfl (fc rfl fn)))))))) (jn30_3841 v4001 (by omega) (by omega))
