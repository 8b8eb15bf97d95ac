set_option maxHeartbeats 4000000 in
set_option maxRecDepth 100000 in
theorem sm_findBest {g : GG} {n : Int} {L : Int32} (hy : Ly g)  {I : pI} {J : pJ} {R : pR} (hr : Rf g R) (hI : MP g n L I) (so : Int32) (da : Int32) (nn : Int32) (so_lo : 0 ≤ so.toInt) (so_hi : so.toInt ≤ 3) (da_lo : 0 ≤ da.toInt) (da_hi : da.toInt ≤ 6) (nn_lo : 1 ≤ nn.toInt) (nn_hi : nn.toInt ≤ 28) : SP g mX11_findBest [.ref (ad g 0), .int so, .int da, .int nn] I J R (fun r I' J' R' => (MP g n L I' ∧ R' = R ∧ fz 49 g [0, 35] I I' ∧ J' = J ∧ True ∧ I' (ad g 0) 10 = I (ad g 0) 10 ∧ I' (ad g 0) 14 = I (ad g 0) 14 ∧ I' (ad g 0) 68 = I (ad g 0) 68) ∧ r = none) := by
  refine SP_of ⟨by decide, rfl⟩ (Nat.le_of_ble_eq_true rfl) ?_
  have e4002 : I (ad g 0) 1 = L := hI.1.2
  have b4003 := BT_get hI.1.1 0 1 2 (0) (0) (900) (by decide) 1 (by decide) (by decide)
  rw [e4002] at b4003
  have fr0 : fz 49 g [0, 35] I I := fz_rf
  obtain ⟨w4004, ew4004⟩ : ∃ w : Int32, I (ad g 0) 10 = w := ⟨_, rfl⟩
  have bw4004 := BT_get hI.1.1 0 10 11 (0) (0) (4) (by decide) 10 (by decide) (by decide)
  rw [ew4004] at bw4004
  obtain ⟨w4005, ew4005⟩ : ∃ w : Int32, I (ad g 0) 14 = w := ⟨_, rfl⟩
  have bw4005 := BT_get hI.1.1 0 14 15 (-1) (0) (2) (by decide) 14 (by decide) (by decide)
  rw [ew4005] at bw4005
  obtain ⟨w4006, ew4006⟩ : ∃ w : Int32, I (ad g 0) 68 = w := ⟨_, rfl⟩
  refine WQ_iconst (1) (1) dX11_findBest_0 rfl rfl (fun v4007 hv4007 => ?_)
  refine WP_istore (ls' := [(0, _), (1, _), (2, _), (3, _), (4, _)]) dX11_findBest_1 (by decide) rfl ?_
  have lp3_4013 : ∀ (mz : Nat) (i4008 : Int32) (I4009 : pI), MP g n L I4009 → fz 49 g [0, 35] I I4009 → ∀ (w4011 : Int32), I4009 (ad g 0) 10 = w4011 → ∀ (w4012 : Int32), I4009 (ad g 0) 14 = w4012 → ∀ (w4013 : Int32), I4009 (ad g 0) 68 = w4013 → 1 ≤ i4008.toInt → i4008.toInt ≤ 28 → w4011.toInt = w4004.toInt → w4012.toInt = w4005.toInt → w4013.toInt = w4006.toInt → (29 - i4008.toInt).toNat < mz → WP g mX11_findBest 3 [(0, .ref (ad g 0)), (1, .int so), (2, .int da), (3, .int nn), (4, .int i4008)] [] I4009 J R (fun r I' J' R' => (MP g n L I' ∧ R' = R ∧ fz 49 g [0, 35] I I' ∧ J' = J ∧ True ∧ I' (ad g 0) 10 = I (ad g 0) 10 ∧ I' (ad g 0) 14 = I (ad g 0) 14 ∧ I' (ad g 0) 68 = I (ad g 0) 68) ∧ r = none) := by
    intro mz
    induction mz with
    | zero =>
      intro i4008 I4009 hI4009 fiI4009 w4011 ew4011 w4012 ew4012 w4013 ew4013 ai4008 bi4008 j0_I4009_4009 j1_I4009_4009 j2_I4009_4009 hmlp3_4013
      exact absurd hmlp3_4013 (Nat.not_lt_zero _)
    | succ mz ihlp3_4013 =>
      intro i4008 I4009 hI4009 fiI4009 w4011 ew4011 w4012 ew4012 w4013 ew4013 ai4008 bi4008 j0_I4009_4009 j1_I4009_4009 j2_I4009_4009 hmlp3_4013
      have bw4011 := BT_get hI4009.1.1 0 10 11 (0) (0) (4) (by decide) 10 (by decide) (by decide)
      rw [ew4011] at bw4011
      have bw4012 := BT_get hI4009.1.1 0 14 15 (-1) (0) (2) (by decide) 14 (by decide) (by decide)
      rw [ew4012] at bw4012
      have e4015 : I4009 (ad g 0) 1 = L := hI4009.1.2
      have b4016 := BT_get hI4009.1.1 0 1 2 (0) (0) (900) (by decide) 1 (by decide) (by decide)
      rw [e4015] at b4016
      refine WP_iload dX11_findBest_3 rfl ?_
      refine WP_iload_n dX11_findBest_5 rfl ?_
      refine WQ_icmp_ge 97 dX11_findBest_6 rfl (fun c4016 => ?_) (fun c4016 => ?_)
      · exact WP_vret dX11_findBest_97 rfl ⟨⟨hI4009, rfl, fiI4009, rfl, ⟨trivial, (by rw [ew4011, ew4004] <;> exact (eq32 _ _).mpr (by omega)), (by rw [ew4012, ew4005] <;> exact (eq32 _ _).mpr (by omega)), (by rw [ew4013, ew4006] <;> exact (eq32 _ _).mpr (by omega))⟩⟩, rfl⟩
      · refine WP_iload_n dX11_findBest_9 rfl ?_
        refine WP_iload_n dX11_findBest_10 rfl ?_
        refine WQ_iadd dX11_findBest_11 (by omega) (by omega) (fun v4018 hv4018 => ?_)
        refine WP_iload dX11_findBest_12 rfl ?_
        refine WQ_isub dX11_findBest_14 (by omega) (by omega) (fun v4019 hv4019 => ?_)
        refine WQ_bipush (7) (7) dX11_findBest_15 rfl rfl (fun v4020 hv4020 => ?_)
        refine WQ_iremi (7) dX11_findBest_17 hv4020 (by decide) (fun v4021 hv4021 => ?_)
        refine WP_istore (ls' := [(0, _), (1, _), (2, _), (3, _), (4, _), (5, _)]) dX11_findBest_18 (by decide) rfl ?_
        refine WQ_iconst (0) (0) dX11_findBest_20 rfl rfl (fun v4022 hv4022 => ?_)
        refine WP_istore (ls' := [(0, _), (1, _), (2, _), (3, _), (4, _), (5, _), (6, _)]) dX11_findBest_21 (by decide) rfl ?_
        have lp23_4028 : ∀ (mz : Nat) (i4023 : Int32) (I4024 : pI), MP g n L I4024 → fz 49 g [0, 35] I I4024 → ∀ (w4026 : Int32), I4024 (ad g 0) 10 = w4026 → ∀ (w4027 : Int32), I4024 (ad g 0) 14 = w4027 → ∀ (w4028 : Int32), I4024 (ad g 0) 68 = w4028 → 0 ≤ i4023.toInt → i4023.toInt ≤ 61 → w4026.toInt = w4004.toInt → w4027.toInt = w4005.toInt → w4028.toInt = w4006.toInt → (62 - i4023.toInt).toNat < mz → WP g mX11_findBest 23 [(0, .ref (ad g 0)), (1, .int so), (2, .int da), (3, .int nn), (4, .int i4008), (5, .int v4021), (6, .int i4023)] [] I4024 J R (fun r I' J' R' => (MP g n L I' ∧ R' = R ∧ fz 49 g [0, 35] I I' ∧ J' = J ∧ True ∧ I' (ad g 0) 10 = I (ad g 0) 10 ∧ I' (ad g 0) 14 = I (ad g 0) 14 ∧ I' (ad g 0) 68 = I (ad g 0) 68) ∧ r = none) := by
          intro mz
          induction mz with
          | zero =>
            intro i4023 I4024 hI4024 fiI4024 w4026 ew4026 w4027 ew4027 w4028 ew4028 ai4023 bi4023 j0_I4024_4024 j1_I4024_4024 j2_I4024_4024 hmlp23_4028
            exact absurd hmlp23_4028 (Nat.not_lt_zero _)
          | succ mz ihlp23_4028 =>
            intro i4023 I4024 hI4024 fiI4024 w4026 ew4026 w4027 ew4027 w4028 ew4028 ai4023 bi4023 j0_I4024_4024 j1_I4024_4024 j2_I4024_4024 hmlp23_4028
            have bw4026 := BT_get hI4024.1.1 0 10 11 (0) (0) (4) (by decide) 10 (by decide) (by decide)
            rw [ew4026] at bw4026
            have bw4027 := BT_get hI4024.1.1 0 14 15 (-1) (0) (2) (by decide) 14 (by decide) (by decide)
            rw [ew4027] at bw4027
            have e4030 : I4024 (ad g 0) 1 = L := hI4024.1.2
            have b4031 := BT_get hI4024.1.1 0 1 2 (0) (0) (900) (by decide) 1 (by decide) (by decide)
            rw [e4030] at b4031
            refine WP_iload dX11_findBest_23 rfl ?_
            refine WQ_bipush (60) (60) dX11_findBest_25 rfl rfl (fun v4032 hv4032 => ?_)
            refine WQ_icmp_gt 91 dX11_findBest_27 rfl (fun c4032 => ?_) (fun c4032 => ?_)
            · refine WP_iinc (ls' := [(0, _), (1, _), (2, _), (3, _), (4, _), (5, _), (6, _)]) dX11_findBest_91 rfl (by decide) rfl ?_
              have hv4034 : (i4008 + Int32.ofInt (1)).toInt = i4008.toInt + (1) := ia_n rfl (by omega) (by omega)
              generalize i4008 + Int32.ofInt (1) = v4034 at hv4034 ⊢
              refine WP_goto 3 dX11_findBest_94 rfl ?_
              exact WP_sub (fc rfl (fc rfl (fc rfl (fc rfl (fc rfl fn))))) (ihlp3_4013 v4034 I4024 hI4024 fiI4024 w4026 ew4026 w4027 ew4027 w4028 ew4028 (by omega) (by omega) (by omega) (by omega) (by omega) (by omega))
            · refine WQ_iconst (0) (0) dX11_findBest_30 rfl rfl (fun v4035 hv4035 => ?_)
              refine WP_istore (ls' := [(0, _), (1, _), (2, _), (3, _), (4, _), (5, _), (6, _), (7, _)]) dX11_findBest_31 (by decide) rfl ?_
              have lp33_4041 : ∀ (mz : Nat) (i4036 : Int32) (I4037 : pI), MP g n L I4037 → fz 49 g [0, 35] I I4037 → ∀ (w4039 : Int32), I4037 (ad g 0) 10 = w4039 → ∀ (w4040 : Int32), I4037 (ad g 0) 14 = w4040 → ∀ (w4041 : Int32), I4037 (ad g 0) 68 = w4041 → 0 ≤ i4036.toInt → i4036.toInt ≤ 6 → w4039.toInt = w4004.toInt → w4040.toInt = w4005.toInt → w4041.toInt = w4006.toInt → (7 - i4036.toInt).toNat < mz → WP g mX11_findBest 33 [(0, .ref (ad g 0)), (1, .int so), (2, .int da), (3, .int nn), (4, .int i4008), (5, .int v4021), (6, .int i4023), (7, .int i4036)] [] I4037 J R (fun r I' J' R' => (MP g n L I' ∧ R' = R ∧ fz 49 g [0, 35] I I' ∧ J' = J ∧ True ∧ I' (ad g 0) 10 = I (ad g 0) 10 ∧ I' (ad g 0) 14 = I (ad g 0) 14 ∧ I' (ad g 0) 68 = I (ad g 0) 68) ∧ r = none) := by
                intro mz
                induction mz with
                | zero =>
                  intro i4036 I4037 hI4037 fiI4037 w4039 ew4039 w4040 ew4040 w4041 ew4041 ai4036 bi4036 j0_I4037_4037 j1_I4037_4037 j2_I4037_4037 hmlp33_4041
                  exact absurd hmlp33_4041 (Nat.not_lt_zero _)
                | succ mz ihlp33_4041 =>
                  intro i4036 I4037 hI4037 fiI4037 w4039 ew4039 w4040 ew4040 w4041 ew4041 ai4036 bi4036 j0_I4037_4037 j1_I4037_4037 j2_I4037_4037 hmlp33_4041
                  have bw4039 := BT_get hI4037.1.1 0 10 11 (0) (0) (4) (by decide) 10 (by decide) (by decide)
                  rw [ew4039] at bw4039
                  have bw4040 := BT_get hI4037.1.1 0 14 15 (-1) (0) (2) (by decide) 14 (by decide) (by decide)
                  rw [ew4040] at bw4040
                  have e4043 : I4037 (ad g 0) 1 = L := hI4037.1.2
                  have b4044 := BT_get hI4037.1.1 0 1 2 (0) (0) (900) (by decide) 1 (by decide) (by decide)
                  rw [e4043] at b4044
                  refine WP_iload dX11_findBest_33 rfl ?_
                  refine WQ_iconst (5) (5) dX11_findBest_35 rfl rfl (fun v4045 hv4045 => ?_)
                  refine WQ_icmp_gt 85 dX11_findBest_36 rfl (fun c4045 => ?_) (fun c4045 => ?_)
                  · refine WP_iinc (ls' := [(0, _), (1, _), (2, _), (3, _), (4, _), (5, _), (6, _), (7, _)]) dX11_findBest_85 rfl (by decide) rfl ?_
                    have hv4047 : (i4023 + Int32.ofInt (1)).toInt = i4023.toInt + (1) := ia_n rfl (by omega) (by omega)
                    generalize i4023 + Int32.ofInt (1) = v4047 at hv4047 ⊢
                    refine WP_goto 23 dX11_findBest_88 rfl ?_
                    exact WP_sub (fc rfl (fc rfl (fc rfl (fc rfl (fc rfl (fc rfl (fc rfl fn))))))) (ihlp23_4028 v4047 I4037 hI4037 fiI4037 w4039 ew4039 w4040 ew4040 w4041 ew4041 (by omega) (by omega) (by omega) (by omega) (by omega) (by omega))
                  · refine WP_aload_n dX11_findBest_39 rfl ?_
                    refine WP_getr dX11_findBest_40 fX11_270 rfl (ly_is hy 0 11 rfl) (rf hr 0 54 35 (by decide)) ?_
                    refine WQ_sipush (366) (366) dX11_findBest_43 rfl rfl (fun v4048 hv4048 => ?_)
                    refine WP_iload dX11_findBest_46 rfl ?_
                    refine WQ_imulK (366) dX11_findBest_48 hv4048 (by omega) (by omega) (fun v4049 hv4049 => ?_)
                    refine WQ_bipush (6) (6) dX11_findBest_49 rfl rfl (fun v4050 hv4050 => ?_)
                    refine WP_iload dX11_findBest_51 rfl ?_
                    refine WQ_imulK (6) dX11_findBest_53 hv4050 (by omega) (by omega) (fun v4051 hv4051 => ?_)
                    refine WQ_iadd dX11_findBest_54 (by omega) (by omega) (fun v4052 hv4052 => ?_)
                    refine WP_iload dX11_findBest_55 rfl ?_
                    refine WQ_iadd dX11_findBest_57 (by omega) (by omega) (fun v4053 hv4053 => ?_)
                    refine WP_aload_n dX11_findBest_58 rfl ?_
                    refine WP_iload_n dX11_findBest_59 rfl ?_
                    refine WP_iload dX11_findBest_60 rfl ?_
                    refine WP_aload_n dX11_findBest_62 rfl ?_
                    refine WP_iload_n dX11_findBest_63 rfl ?_
                    refine WP_iload dX11_findBest_64 rfl ?_
                    refine WP_iload dX11_findBest_66 rfl ?_
                    refine WP_callV3 (k := 11) dX11_findBest_68 ⟨⟨⟨by decide, by decide⟩, zX11_earned⟩, lX11_426, by decide, rfl, vX11_earned.1, vX11_earned.2⟩ (ly_is hy 0 11 rfl) (sm_earned hy hr hI4037 so v4021 i4023 (by omega) (by omega) (by omega) (by omega) (by omega) (by omega)) (Nat.le_of_ble_eq_true rfl) ?_
                    intro r Ia Ja Ra hq
                    obtain ⟨⟨ea, eb, ec⟩, v4054, rfl, av4054, bv4054⟩ := hq
                    show WP _ _ _ _ (.int _ :: _) _ _ _ _
                    rw [ea, eb, ec]
                    clear ea eb ec Ia Ja Ra
                    refine WP_iload dX11_findBest_71 rfl ?_
                    refine WP_iload dX11_findBest_73 rfl ?_
                    refine WP_callV5 (k := 11) dX11_findBest_75 ⟨⟨⟨by decide, by decide⟩, zX11_bestFrom⟩, lX11_429, by decide, rfl, vX11_bestFrom.1, vX11_bestFrom.2⟩ (ly_is hy 0 11 rfl) (sm_bestFrom hy hr hI4037 so v4021 v4054 i4036 i4008 (by omega) (by omega) (by omega) (by omega) (by omega) (by omega) (by omega) (by omega) (by omega) (by omega)) (Nat.le_of_ble_eq_true rfl) ?_
                    intro r I4055 J4056 Ra hq
                    obtain ⟨⟨hI4055, ec, fiI4055, ejI4055, ⟨pI4055, sI4055_0_10, sI4055_0_14, sI4055_0_68⟩⟩, v4057, rfl, av4057, bv4057, cv4057⟩ := hq
                    show WP _ _ _ _ (.int _ :: _) _ _ _ _
                    rw [ec]
                    clear ec Ra
                    have fr4058 : fz 49 g [0, 35] I I4055 := fz_tr fiI4037 (fz_mono fiI4055 (by decide))
                    rw [ejI4055]
                    clear ejI4055 J4056
                    have e4059 : I4055 (ad g 0) 10 = w4039 := by rw [sI4055_0_10]; exact ew4039
                    have e4060 : I4055 (ad g 0) 14 = w4040 := by rw [sI4055_0_14]; exact ew4040
                    have e4061 : I4055 (ad g 0) 68 = w4041 := by rw [sI4055_0_68]; exact ew4041
                    have e4062 : I4055 (ad g 0) 1 = L := hI4055.1.2
                    have b4063 := BT_get hI4055.1.1 0 1 2 (0) (0) (900) (by decide) 1 (by decide) (by decide)
                    rw [e4062] at b4063
                    refine WQ_iast dX11_findBest_78 (ly_is hy 35 13 rfl) (ly_n hy 35 10614 rfl) (by omega) (by omega) (fun I4064 eI4064 => ?_)
                    have hI4064 : MP g n L I4064 := by rw [eI4064]; exact (mp_w35 hy hI4055 (k := i4008.toInt.toNat) (r := (6 * i4023.toInt + i4036.toInt).toNat) (mi_r0 hy hI4055.1 (c := 35) (by decide) (Or.inl (by decide)) (by decide)) (by omega) (by omega) (by rw [cl (n := v4053.toInt.toNat) (by omega)]; omega) (by omega))
                    have e4065 : I4064 (ad g 0) 10 = w4039 := by rw [eI4064, pp_ne _ _ (Or.inl (ly_ne hy (by decide) (by decide) (by decide)))]; exact e4059
                    have e4066 : I4064 (ad g 0) 14 = w4040 := by rw [eI4064, pp_ne _ _ (Or.inl (ly_ne hy (by decide) (by decide) (by decide)))]; exact e4060
                    have e4067 : I4064 (ad g 0) 68 = w4041 := by rw [eI4064, pp_ne _ _ (Or.inl (ly_ne hy (by decide) (by decide) (by decide)))]; exact e4061
                    have e4068 : I4064 (ad g 0) 1 = L := by rw [eI4064, pp_ne _ _ (Or.inl (ly_ne hy (by decide) (by decide) (by decide)))]; exact e4062
                    have fr4069 : fz 49 g [0, 35] I I4064 := by rw [eI4064]; exact fzm_pp hy fr4058 (by decide) (by decide)
                    clear eI4064
                    refine WP_iinc (ls' := [(0, _), (1, _), (2, _), (3, _), (4, _), (5, _), (6, _), (7, _)]) dX11_findBest_79 rfl (by decide) rfl ?_
                    have hv4070 : (i4036 + Int32.ofInt (1)).toInt = i4036.toInt + (1) := ia_n rfl (by omega) (by omega)
                    generalize i4036 + Int32.ofInt (1) = v4070 at hv4070 ⊢
                    refine WP_goto 33 dX11_findBest_82 rfl ?_
                    exact WP_sub (fc rfl (fc rfl (fc rfl (fc rfl (fc rfl (fc rfl (fc rfl (fc rfl fn)))))))) (ihlp33_4041 v4070 I4064 hI4064 fr4069 w4039 e4065 w4040 e4066 w4041 e4067 (by omega) (by omega) (by omega) (by omega) (by omega) (by omega))
              exact WP_sub (fc rfl (fc rfl (fc rfl (fc rfl (fc rfl (fc rfl (fc rfl (fc rfl fn)))))))) (lp33_4041 _ v4035 I4024 hI4024 fiI4024 w4026 ew4026 w4027 ew4027 w4028 ew4028 (by omega) (by omega) (by omega) (by omega) (by omega) (Nat.lt_succ_self _))
        exact WP_sub (fc rfl (fc rfl (fc rfl (fc rfl (fc rfl (fc rfl (fc rfl fn))))))) (lp23_4028 _ v4022 I4009 hI4009 fiI4009 w4011 ew4011 w4012 ew4012 w4013 ew4013 (by omega) (by omega) (by omega) (by omega) (by omega) (Nat.lt_succ_self _))
  exact WP_sub (fc rfl (fc rfl (fc rfl (fc rfl (fc rfl fn))))) (lp3_4013 _ v4007 I hI fr0 w4004 ew4004 w4005 ew4005 w4006 ew4006 (by omega) (by omega) (by omega) (by omega) (by omega) (Nat.lt_succ_self _))
set_option maxHeartbeats 4000000 in
set_option maxRecDepth 100000 in
theorem sm_findWeek {g : GG} {n : Int} {L : Int32} (hy : Ly g)  {I : pI} {J : pJ} {R : pR} (hr : Rf g R) (hI : MP g n L I) (so : Int32) (da : Int32) (so_lo : 0 ≤ so.toInt) (so_hi : so.toInt ≤ 3) (da_lo : 0 ≤ da.toInt) (da_hi : da.toInt ≤ 6) : SP g mX11_findWeek [.ref (ad g 0), .int so, .int da] I J R (fun r I' J' R' => (MP g n L I' ∧ R' = R ∧ fz 49 g [0, 35, 36, 37] I I' ∧ J' = J ∧ True ∧ I' (ad g 0) 10 = I (ad g 0) 10 ∧ I' (ad g 0) 14 = I (ad g 0) 14 ∧ I' (ad g 0) 68 = I (ad g 0) 68) ∧ r = none) := by
  refine SP_of ⟨by decide, rfl⟩ (Nat.le_of_ble_eq_true rfl) ?_
  have e4071 : I (ad g 0) 1 = L := hI.1.2
  have b4072 := BT_get hI.1.1 0 1 2 (0) (0) (900) (by decide) 1 (by decide) (by decide)
  rw [e4071] at b4072
  have fr0 : fz 49 g [0, 35, 36, 37] I I := fz_rf
  obtain ⟨w4073, ew4073⟩ : ∃ w : Int32, I (ad g 0) 10 = w := ⟨_, rfl⟩
  have bw4073 := BT_get hI.1.1 0 10 11 (0) (0) (4) (by decide) 10 (by decide) (by decide)
  rw [ew4073] at bw4073
  obtain ⟨w4074, ew4074⟩ : ∃ w : Int32, I (ad g 0) 14 = w := ⟨_, rfl⟩
  have bw4074 := BT_get hI.1.1 0 14 15 (-1) (0) (2) (by decide) 14 (by decide) (by decide)
  rw [ew4074] at bw4074
  obtain ⟨w4075, ew4075⟩ : ∃ w : Int32, I (ad g 0) 68 = w := ⟨_, rfl⟩
  refine WQ_bipush (7) (7) dX11_findWeek_0 rfl rfl (fun v4076 hv4076 => ?_)
  refine WP_iload_n dX11_findWeek_2 rfl ?_
  refine WQ_imulK (7) dX11_findWeek_3 hv4076 (by omega) (by omega) (fun v4077 hv4077 => ?_)
  refine WP_iload_n dX11_findWeek_4 rfl ?_
  refine WQ_iadd dX11_findWeek_5 (by omega) (by omega) (fun v4078 hv4078 => ?_)
  refine WP_istore_n (ls' := [(0, _), (1, _), (2, _), (3, _)]) dX11_findWeek_6 (by decide) rfl ?_
  refine WQ_sipush (2196) (2196) dX11_findWeek_7 rfl rfl (fun v4079 hv4079 => ?_)
  refine WP_istore (ls' := [(0, _), (1, _), (2, _), (3, _), (4, _)]) dX11_findWeek_10 (by decide) rfl ?_
  refine WP_aload_n dX11_findWeek_12 rfl ?_
  refine WP_getr dX11_findWeek_13 fX11_279 rfl (ly_is hy 0 11 rfl) (rf hr 0 58 37 (by decide)) ?_
  refine WP_iload_n dX11_findWeek_16 rfl ?_
  refine WQ_zaldu dX11_findWeek_17 (ly_is hy 37 15 rfl) (ly_n hy 37 28 rfl) (by omega) (by omega) (fun v4080 => ?_)
  refine WQ_if_eq 62 dX11_findWeek_18 rfl (fun c4080 => ?_) (fun c4080 => ?_)
  · refine WP_aload_n dX11_findWeek_62 rfl ?_
    refine WP_iload_n dX11_findWeek_63 rfl ?_
    refine WP_iload_n dX11_findWeek_64 rfl ?_
    refine WQ_bipush (7) (7) dX11_findWeek_65 rfl rfl (fun v4082 hv4082 => ?_)
    refine WP_callV3 (k := 11) dX11_findWeek_67 ⟨⟨⟨by decide, by decide⟩, zX11_findBest⟩, lX11_438, by decide, rfl, vX11_findBest.1, vX11_findBest.2⟩ (ly_is hy 0 11 rfl) (sm_findBest hy hr hI so da v4082 (by omega) (by omega) (by omega) (by omega) (by omega) (by omega)) (Nat.le_of_ble_eq_true rfl) ?_
    intro r I4083 J4084 Ra hq
    obtain ⟨⟨hI4083, ec, fiI4083, ejI4083, ⟨pI4083, sI4083_0_10, sI4083_0_14, sI4083_0_68⟩⟩, rfl⟩ := hq
    rw [ec]
    clear ec Ra
    have fr4085 : fz 49 g [0, 35, 36, 37] I I4083 := fz_tr fr0 (fz_mono fiI4083 (by decide))
    rw [ejI4083]
    clear ejI4083 J4084
    have e4086 : I4083 (ad g 0) 10 = w4073 := by rw [sI4083_0_10]; exact ew4073
    have e4087 : I4083 (ad g 0) 14 = w4074 := by rw [sI4083_0_14]; exact ew4074
    have e4088 : I4083 (ad g 0) 68 = w4075 := by rw [sI4083_0_68]; exact ew4075
    have e4089 : I4083 (ad g 0) 1 = L := hI4083.1.2
    have b4090 := BT_get hI4083.1.1 0 1 2 (0) (0) (900) (by decide) 1 (by decide) (by decide)
    rw [e4089] at b4090
    refine WP_aload_n dX11_findWeek_70 rfl ?_
    refine WP_getr dX11_findWeek_71 fX11_279 rfl (ly_is hy 0 11 rfl) (rf hr 0 58 37 (by decide)) ?_
    refine WP_iload_n dX11_findWeek_74 rfl ?_
    refine WQ_iconst (1) (1) dX11_findWeek_75 rfl rfl (fun v4091 hv4091 => ?_)
    refine WQ_zast dX11_findWeek_76 (ly_is hy 37 15 rfl) (ly_n hy 37 28 rfl) (by omega) (by omega) (fun I4092 v4093 eI4092 => ?_)
    have hI4092 : MP g n L I4092 := by rw [eI4092]; exact (mp_w hy hI4083 (c := 37) (mi_r0 hy hI4083.1 (c := 37) (by decide) (Or.inl (by decide)) (by decide)) (by decide) (by decide) (Or.inl (by decide)))
    have e4094 : I4092 (ad g 0) 10 = w4073 := by rw [eI4092, pp_ne _ _ (Or.inl (ly_ne hy (by decide) (by decide) (by decide)))]; exact e4086
    have e4095 : I4092 (ad g 0) 14 = w4074 := by rw [eI4092, pp_ne _ _ (Or.inl (ly_ne hy (by decide) (by decide) (by decide)))]; exact e4087
    have e4096 : I4092 (ad g 0) 68 = w4075 := by rw [eI4092, pp_ne _ _ (Or.inl (ly_ne hy (by decide) (by decide) (by decide)))]; exact e4088
    have e4097 : I4092 (ad g 0) 1 = L := by rw [eI4092, pp_ne _ _ (Or.inl (ly_ne hy (by decide) (by decide) (by decide)))]; exact e4089
    have fr4098 : fz 49 g [0, 35, 36, 37] I I4092 := by rw [eI4092]; exact fzm_pp hy fr4085 (by decide) (by decide)
    clear eI4092
    refine WQ_iconst (0) (0) dX11_findWeek_77 rfl rfl (fun v4099 hv4099 => ?_)
    refine WP_istore (ls' := [(0, _), (1, _), (2, _), (3, _), (4, _), (5, _)]) dX11_findWeek_78 (by decide) rfl ?_
    have lp80_4105 : ∀ (mz : Nat) (i4100 : Int32) (I4101 : pI), MP g n L I4101 → fz 49 g [0, 35, 36, 37] I I4101 → ∀ (w4103 : Int32), I4101 (ad g 0) 10 = w4103 → ∀ (w4104 : Int32), I4101 (ad g 0) 14 = w4104 → ∀ (w4105 : Int32), I4101 (ad g 0) 68 = w4105 → 0 ≤ i4100.toInt → i4100.toInt ≤ 366 → w4103.toInt = w4073.toInt → w4104.toInt = w4074.toInt → w4105.toInt = w4075.toInt → (367 - i4100.toInt).toNat < mz → WP g mX11_findWeek 80 [(0, .ref (ad g 0)), (1, .int so), (2, .int da), (3, .int v4078), (4, .int v4079), (5, .int i4100)] [] I4101 J R (fun r I' J' R' => (MP g n L I' ∧ R' = R ∧ fz 49 g [0, 35, 36, 37] I I' ∧ J' = J ∧ True ∧ I' (ad g 0) 10 = I (ad g 0) 10 ∧ I' (ad g 0) 14 = I (ad g 0) 14 ∧ I' (ad g 0) 68 = I (ad g 0) 68) ∧ r = none) := by
      intro mz
      induction mz with
      | zero =>
        intro i4100 I4101 hI4101 fiI4101 w4103 ew4103 w4104 ew4104 w4105 ew4105 ai4100 bi4100 j0_I4101_4101 j1_I4101_4101 j2_I4101_4101 hmlp80_4105
        exact absurd hmlp80_4105 (Nat.not_lt_zero _)
      | succ mz ihlp80_4105 =>
        intro i4100 I4101 hI4101 fiI4101 w4103 ew4103 w4104 ew4104 w4105 ew4105 ai4100 bi4100 j0_I4101_4101 j1_I4101_4101 j2_I4101_4101 hmlp80_4105
        have bw4103 := BT_get hI4101.1.1 0 10 11 (0) (0) (4) (by decide) 10 (by decide) (by decide)
        rw [ew4103] at bw4103
        have bw4104 := BT_get hI4101.1.1 0 14 15 (-1) (0) (2) (by decide) 14 (by decide) (by decide)
        rw [ew4104] at bw4104
        have e4107 : I4101 (ad g 0) 1 = L := hI4101.1.2
        have b4108 := BT_get hI4101.1.1 0 1 2 (0) (0) (900) (by decide) 1 (by decide) (by decide)
        rw [e4107] at b4108
        refine WP_iload dX11_findWeek_80 rfl ?_
        refine WQ_sipush (366) (366) dX11_findWeek_82 rfl rfl (fun v4109 hv4109 => ?_)
        refine WQ_icmp_ge 117 dX11_findWeek_85 rfl (fun c4109 => ?_) (fun c4109 => ?_)
        · exact WP_vret dX11_findWeek_117 rfl ⟨⟨hI4101, rfl, fiI4101, rfl, ⟨trivial, (by rw [ew4103, ew4073] <;> exact (eq32 _ _).mpr (by omega)), (by rw [ew4104, ew4074] <;> exact (eq32 _ _).mpr (by omega)), (by rw [ew4105, ew4075] <;> exact (eq32 _ _).mpr (by omega))⟩⟩, rfl⟩
        · refine WP_aload_n dX11_findWeek_88 rfl ?_
          refine WP_getr dX11_findWeek_89 fX11_276 rfl (ly_is hy 0 11 rfl) (rf hr 0 57 36 (by decide)) ?_
          refine WQ_sipush (366) (366) dX11_findWeek_92 rfl rfl (fun v4111 hv4111 => ?_)
          refine WP_iload_n dX11_findWeek_95 rfl ?_
          refine WQ_imulK (366) dX11_findWeek_96 hv4111 (by omega) (by omega) (fun v4112 hv4112 => ?_)
          refine WP_iload dX11_findWeek_97 rfl ?_
          refine WQ_iadd dX11_findWeek_99 (by omega) (by omega) (fun v4113 hv4113 => ?_)
          refine WP_aload_n dX11_findWeek_100 rfl ?_
          refine WP_getr dX11_findWeek_101 fX11_270 rfl (ly_is hy 0 11 rfl) (rf hr 0 54 35 (by decide)) ?_
          refine WP_iload dX11_findWeek_104 rfl ?_
          refine WP_iload dX11_findWeek_106 rfl ?_
          refine WQ_iadd dX11_findWeek_108 (by omega) (by omega) (fun v4114 hv4114 => ?_)
          refine WQ_ialdf (q := v4114.toInt.toNat) dX11_findWeek_109 (ly_is hy 35 13 rfl) (ly_n hy 35 10614 rfl) (by omega) (by omega) (by omega) (mb_get hI4101 (k := 6) (r := i4100.toInt.toNat) (by decide) (by omega) (by omega)) (fun v4115 av4115 bv4115 => ?_)
          refine WQ_iast dX11_findWeek_110 (ly_is hy 36 13 rfl) (ly_n hy 36 10248 rfl) (by omega) (by omega) (fun I4116 eI4116 => ?_)
          have hI4116 : MP g n L I4116 := by rw [eI4116]; exact (mp_w hy hI4101 (c := 36) (mi_r hy hI4101.1 (c := 36) (0) (0) (3564) (by decide) (Or.inl (by decide)) (by decide) (by omega) (by omega)) (by decide) (by decide) (Or.inl (by decide)))
          have e4117 : I4116 (ad g 0) 10 = w4103 := by rw [eI4116, pp_ne _ _ (Or.inl (ly_ne hy (by decide) (by decide) (by decide)))]; exact ew4103
          have e4118 : I4116 (ad g 0) 14 = w4104 := by rw [eI4116, pp_ne _ _ (Or.inl (ly_ne hy (by decide) (by decide) (by decide)))]; exact ew4104
          have e4119 : I4116 (ad g 0) 68 = w4105 := by rw [eI4116, pp_ne _ _ (Or.inl (ly_ne hy (by decide) (by decide) (by decide)))]; exact ew4105
          have e4120 : I4116 (ad g 0) 1 = L := by rw [eI4116, pp_ne _ _ (Or.inl (ly_ne hy (by decide) (by decide) (by decide)))]; exact e4107
          have fr4121 : fz 49 g [0, 35, 36, 37] I I4116 := by rw [eI4116]; exact fzm_pp hy fiI4101 (by decide) (by decide)
          clear eI4116
          refine WP_iinc (ls' := [(0, _), (1, _), (2, _), (3, _), (4, _), (5, _)]) dX11_findWeek_111 rfl (by decide) rfl ?_
          have hv4122 : (i4100 + Int32.ofInt (1)).toInt = i4100.toInt + (1) := ia_n rfl (by omega) (by omega)
          generalize i4100 + Int32.ofInt (1) = v4122 at hv4122 ⊢
          refine WP_goto 80 dX11_findWeek_114 rfl ?_
          exact WP_sub (fc rfl (fc rfl (fc rfl (fc rfl (fc rfl (fc rfl fn)))))) (ihlp80_4105 v4122 I4116 hI4116 fr4121 w4103 e4117 w4104 e4118 w4105 e4119 (by omega) (by omega) (by omega) (by omega) (by omega) (by omega))
    exact WP_sub (fc rfl (fc rfl (fc rfl (fc rfl (fc rfl (fc rfl fn)))))) (lp80_4105 _ v4099 I4092 hI4092 fr4098 w4073 e4094 w4074 e4095 w4075 e4096 (by omega) (by omega) (by omega) (by omega) (by omega) (Nat.lt_succ_self _))
  · refine WQ_iconst (0) (0) dX11_findWeek_21 rfl rfl (fun v4123 hv4123 => ?_)
    refine WP_istore (ls' := [(0, _), (1, _), (2, _), (3, _), (4, _), (5, _)]) dX11_findWeek_22 (by decide) rfl ?_
    have lp24_4129 : ∀ (mz : Nat) (i4124 : Int32) (I4125 : pI), MP g n L I4125 → fz 49 g [0, 35, 36, 37] I I4125 → ∀ (w4127 : Int32), I4125 (ad g 0) 10 = w4127 → ∀ (w4128 : Int32), I4125 (ad g 0) 14 = w4128 → ∀ (w4129 : Int32), I4125 (ad g 0) 68 = w4129 → 0 ≤ i4124.toInt → i4124.toInt ≤ 366 → w4127.toInt = w4073.toInt → w4128.toInt = w4074.toInt → w4129.toInt = w4075.toInt → (367 - i4124.toInt).toNat < mz → WP g mX11_findWeek 24 [(0, .ref (ad g 0)), (1, .int so), (2, .int da), (3, .int v4078), (4, .int v4079), (5, .int i4124)] [] I4125 J R (fun r I' J' R' => (MP g n L I' ∧ R' = R ∧ fz 49 g [0, 35, 36, 37] I I' ∧ J' = J ∧ True ∧ I' (ad g 0) 10 = I (ad g 0) 10 ∧ I' (ad g 0) 14 = I (ad g 0) 14 ∧ I' (ad g 0) 68 = I (ad g 0) 68) ∧ r = none) := by
      intro mz
      induction mz with
      | zero =>
        intro i4124 I4125 hI4125 fiI4125 w4127 ew4127 w4128 ew4128 w4129 ew4129 ai4124 bi4124 j0_I4125_4125 j1_I4125_4125 j2_I4125_4125 hmlp24_4129
        exact absurd hmlp24_4129 (Nat.not_lt_zero _)
      | succ mz ihlp24_4129 =>
        intro i4124 I4125 hI4125 fiI4125 w4127 ew4127 w4128 ew4128 w4129 ew4129 ai4124 bi4124 j0_I4125_4125 j1_I4125_4125 j2_I4125_4125 hmlp24_4129
        have bw4127 := BT_get hI4125.1.1 0 10 11 (0) (0) (4) (by decide) 10 (by decide) (by decide)
        rw [ew4127] at bw4127
        have bw4128 := BT_get hI4125.1.1 0 14 15 (-1) (0) (2) (by decide) 14 (by decide) (by decide)
        rw [ew4128] at bw4128
        have e4131 : I4125 (ad g 0) 1 = L := hI4125.1.2
        have b4132 := BT_get hI4125.1.1 0 1 2 (0) (0) (900) (by decide) 1 (by decide) (by decide)
        rw [e4131] at b4132
        refine WP_iload dX11_findWeek_24 rfl ?_
        refine WQ_sipush (366) (366) dX11_findWeek_26 rfl rfl (fun v4133 hv4133 => ?_)
        refine WQ_icmp_ge 61 dX11_findWeek_29 rfl (fun c4133 => ?_) (fun c4133 => ?_)
        · exact WP_vret dX11_findWeek_61 rfl ⟨⟨hI4125, rfl, fiI4125, rfl, ⟨trivial, (by rw [ew4127, ew4073] <;> exact (eq32 _ _).mpr (by omega)), (by rw [ew4128, ew4074] <;> exact (eq32 _ _).mpr (by omega)), (by rw [ew4129, ew4075] <;> exact (eq32 _ _).mpr (by omega))⟩⟩, rfl⟩
        · refine WP_aload_n dX11_findWeek_32 rfl ?_
          refine WP_getr dX11_findWeek_33 fX11_270 rfl (ly_is hy 0 11 rfl) (rf hr 0 54 35 (by decide)) ?_
          refine WP_iload dX11_findWeek_36 rfl ?_
          refine WP_iload dX11_findWeek_38 rfl ?_
          refine WQ_iadd dX11_findWeek_40 (by omega) (by omega) (fun v4135 hv4135 => ?_)
          refine WP_aload_n dX11_findWeek_41 rfl ?_
          refine WP_getr dX11_findWeek_42 fX11_276 rfl (ly_is hy 0 11 rfl) (rf hr 0 57 36 (by decide)) ?_
          refine WQ_sipush (366) (366) dX11_findWeek_45 rfl rfl (fun v4136 hv4136 => ?_)
          refine WP_iload_n dX11_findWeek_48 rfl ?_
          refine WQ_imulK (366) dX11_findWeek_49 hv4136 (by omega) (by omega) (fun v4137 hv4137 => ?_)
          refine WP_iload dX11_findWeek_50 rfl ?_
          refine WQ_iadd dX11_findWeek_52 (by omega) (by omega) (fun v4138 hv4138 => ?_)
          refine WQ_iald dX11_findWeek_53 (ly_is hy 36 13 rfl) (ly_n hy 36 10248 rfl) (by omega) (by omega) (fun q hq => BT_get hI4125.1.1 36 0 10248 (0) (0) (3564) (by decide) q (Nat.zero_le _) hq) (fun v4139 av4139 bv4139 ev4139 => ?_)
          clear ev4139
          refine WQ_iast dX11_findWeek_54 (ly_is hy 35 13 rfl) (ly_n hy 35 10614 rfl) (by omega) (by omega) (fun I4140 eI4140 => ?_)
          have hI4140 : MP g n L I4140 := by rw [eI4140]; exact (mp_w35 hy hI4125 (k := 6) (r := i4124.toInt.toNat) (mi_r0 hy hI4125.1 (c := 35) (by decide) (Or.inl (by decide)) (by decide)) (by omega) (by omega) (by rw [cl (n := v4135.toInt.toNat) (by omega)]; omega) (by omega))
          have e4141 : I4140 (ad g 0) 10 = w4127 := by rw [eI4140, pp_ne _ _ (Or.inl (ly_ne hy (by decide) (by decide) (by decide)))]; exact ew4127
          have e4142 : I4140 (ad g 0) 14 = w4128 := by rw [eI4140, pp_ne _ _ (Or.inl (ly_ne hy (by decide) (by decide) (by decide)))]; exact ew4128
          have e4143 : I4140 (ad g 0) 68 = w4129 := by rw [eI4140, pp_ne _ _ (Or.inl (ly_ne hy (by decide) (by decide) (by decide)))]; exact ew4129
          have e4144 : I4140 (ad g 0) 1 = L := by rw [eI4140, pp_ne _ _ (Or.inl (ly_ne hy (by decide) (by decide) (by decide)))]; exact e4131
          have fr4145 : fz 49 g [0, 35, 36, 37] I I4140 := by rw [eI4140]; exact fzm_pp hy fiI4125 (by decide) (by decide)
          clear eI4140
          refine WP_iinc (ls' := [(0, _), (1, _), (2, _), (3, _), (4, _), (5, _)]) dX11_findWeek_55 rfl (by decide) rfl ?_
          have hv4146 : (i4124 + Int32.ofInt (1)).toInt = i4124.toInt + (1) := ia_n rfl (by omega) (by omega)
          generalize i4124 + Int32.ofInt (1) = v4146 at hv4146 ⊢
          refine WP_goto 24 dX11_findWeek_58 rfl ?_
          exact WP_sub (fc rfl (fc rfl (fc rfl (fc rfl (fc rfl (fc rfl fn)))))) (ihlp24_4129 v4146 I4140 hI4140 fr4145 w4127 e4141 w4128 e4142 w4129 e4143 (by omega) (by omega) (by omega) (by omega) (by omega) (by omega))
    exact WP_sub (fc rfl (fc rfl (fc rfl (fc rfl (fc rfl (fc rfl fn)))))) (lp24_4129 _ v4123 I hI fr0 w4073 ew4073 w4074 ew4074 w4075 ew4075 (by omega) (by omega) (by omega) (by omega) (by omega) (Nat.lt_succ_self _))
set_option maxHeartbeats 4000000 in
set_option maxRecDepth 100000 in
theorem sm_actOf {g : GG} {n : Int} {L : Int32} (hy : Ly g)  {I : pI} {J : pJ} {R : pR} (hr : Rf g R) (hI : MP g n L I) (wy : Int32) (so : Int32) (da : Int32) (co : Int32) (st : Int32) (so_lo : 0 ≤ so.toInt) (so_hi : so.toInt ≤ 3) (da_lo : 0 ≤ da.toInt) (da_hi : da.toInt ≤ 6) (co_lo : 0 ≤ co.toInt) (co_hi : co.toInt ≤ 60) (st_lo : 0 ≤ st.toInt) (st_hi : st.toInt ≤ 5) : SP g mX11_actOf [.ref (ad g 0), .int wy, .int so, .int da, .int co, .int st] I J R (fun r I' J' R' => (MP g n L I' ∧ R' = R ∧ fz 49 g [0, 35, 36, 37] I I' ∧ J' = J ∧ True ∧ I' (ad g 0) 10 = I (ad g 0) 10 ∧ I' (ad g 0) 14 = I (ad g 0) 14 ∧ I' (ad g 0) 68 = I (ad g 0) 68) ∧ ∃ v : Int32, r = some (.int v) ∧ 0 ≤ v.toInt ∧ v.toInt ≤ 47 ∧ (AM (I (ad g 22)) (I (ad g 24)) (I (ad g 25)) (I (ad g 0) 14).toInt so.toInt da.toInt co.toInt st.toInt v.toInt)) := by
  refine SP_of ⟨by decide, rfl⟩ (Nat.le_of_ble_eq_true rfl) ?_
  have e4147 : I (ad g 0) 1 = L := hI.1.2
  have b4148 := BT_get hI.1.1 0 1 2 (0) (0) (900) (by decide) 1 (by decide) (by decide)
  rw [e4147] at b4148
  have fr0 : fz 49 g [0, 35, 36, 37] I I := fz_rf
  obtain ⟨w4149, ew4149⟩ : ∃ w : Int32, I (ad g 0) 14 = w := ⟨_, rfl⟩
  have bw4149 := BT_get hI.1.1 0 14 15 (-1) (0) (2) (by decide) 14 (by decide) (by decide)
  rw [ew4149] at bw4149
  obtain ⟨uu, euu⟩ : ∃ w : Int32, I (ad g 25) (7 * so.toInt + da.toInt).toNat = w := ⟨_, rfl⟩
  have buu := BT_get hI.1.1 25 0 28 (0) (0) (3) (by decide) (7 * so.toInt + da.toInt).toNat (Nat.zero_le _) (by omega)
  rw [euu] at buu
  obtain ⟨w4150, ew4150⟩ : ∃ w : Int32, I (ad g 0) 10 = w := ⟨_, rfl⟩
  have bw4150 := BT_get hI.1.1 0 10 11 (0) (0) (4) (by decide) 10 (by decide) (by decide)
  rw [ew4150] at bw4150
  obtain ⟨w4151, ew4151⟩ : ∃ w : Int32, I (ad g 0) 68 = w := ⟨_, rfl⟩
  refine WQ_bipush (7) (7) dX11_actOf_0 rfl rfl (fun v4152 hv4152 => ?_)
  refine WP_iload_n dX11_actOf_2 rfl ?_
  refine WQ_imulK (7) dX11_actOf_3 hv4152 (by omega) (by omega) (fun v4153 hv4153 => ?_)
  refine WP_iload_n dX11_actOf_4 rfl ?_
  refine WQ_iadd dX11_actOf_5 (by omega) (by omega) (fun v4154 hv4154 => ?_)
  refine WP_istore (ls' := [(0, _), (1, _), (2, _), (3, _), (4, _), (5, _), (6, _)]) dX11_actOf_6 (by decide) rfl ?_
  refine WP_aload_n dX11_actOf_8 rfl ?_
  refine WP_getr dX11_actOf_9 fX11_264 rfl (ly_is hy 0 11 rfl) (rf hr 0 43 25 (by decide)) ?_
  refine WP_iload dX11_actOf_12 rfl ?_
  refine WQ_ialdb dX11_actOf_14 (ly_is hy 25 13 rfl) (ly_n hy 25 28 rfl) (by omega) (by omega) (fun q hq => BT_get hI.1.1 25 0 28 (0) (0) (3) (by decide) q (Nat.zero_le _) hq) (fun v4155 av4155 bv4155 zv4155 => ?_)
  have tv4155 : v4155.toInt = uu.toInt := by rw [← zv4155, ← euu, ← fz_at fr0 25 (by decide) (by decide), show (7 * so.toInt + da.toInt).toNat = v4154.toInt.toNat by omega]
  refine WP_istore (ls' := [(0, _), (1, _), (2, _), (3, _), (4, _), (5, _), (6, _), (7, _)]) dX11_actOf_15 (by decide) rfl ?_
  refine WP_aload_n dX11_actOf_17 rfl ?_
  refine WP_getr dX11_actOf_18 fX11_244 rfl (ly_is hy 0 11 rfl) (rf hr 0 29 11 (by decide)) ?_
  refine WP_iload_n dX11_actOf_21 rfl ?_
  refine WQ_iald dX11_actOf_22 (ly_is hy 11 13 rfl) (ly_n hy 11 4 rfl) (by omega) (by omega) (fun q hq => BT_get hI.1.1 11 0 4 (0) (0) (127) (by decide) q (Nat.zero_le _) hq) (fun v4156 av4156 bv4156 ev4156 => ?_)
  refine WP_iload_n dX11_actOf_23 rfl ?_
  refine WQ_ishru dX11_actOf_24 (fun v4157 => ?_)
  refine WQ_iconst (1) (1) dX11_actOf_25 rfl rfl (fun v4158 hv4158 => ?_)
  refine WQ_iandu dX11_actOf_26 (fun v4159 => ?_)
  refine WQ_iconst (1) (1) dX11_actOf_27 rfl rfl (fun v4160 hv4160 => ?_)
  have jn36_4163 : ∀ (v4163 : Int32), 0 ≤ v4163.toInt → v4163.toInt ≤ 1 → WP g mX11_actOf 36 [(0, .ref (ad g 0)), (1, .int wy), (2, .int so), (3, .int da), (4, .int co), (5, .int st), (6, .int v4154), (7, .int v4155)] [.int v4163] I J R (fun r I' J' R' => (MP g n L I' ∧ R' = R ∧ fz 49 g [0, 35, 36, 37] I I' ∧ J' = J ∧ True ∧ I' (ad g 0) 10 = I (ad g 0) 10 ∧ I' (ad g 0) 14 = I (ad g 0) 14 ∧ I' (ad g 0) 68 = I (ad g 0) 68) ∧ ∃ v : Int32, r = some (.int v) ∧ 0 ≤ v.toInt ∧ v.toInt ≤ 47 ∧ (AM (I (ad g 22)) (I (ad g 24)) (I (ad g 25)) (I (ad g 0) 14).toInt so.toInt da.toInt co.toInt st.toInt v.toInt)) := by
    intro v4163 av4163 bv4163
    refine WP_istore (ls' := [(0, _), (1, _), (2, _), (3, _), (4, _), (5, _), (6, _), (7, _), (8, _)]) dX11_actOf_36 (by decide) rfl ?_
    refine WP_iload dX11_actOf_38 rfl ?_
    have jn62_4170 : ∀ (v4170 : Int32), 0 ≤ v4170.toInt → v4170.toInt ≤ 1 → WP g mX11_actOf 62 [(0, .ref (ad g 0)), (1, .int wy), (2, .int so), (3, .int da), (4, .int co), (5, .int st), (6, .int v4154), (7, .int v4155), (8, .int v4163)] [.int v4170] I J R (fun r I' J' R' => (MP g n L I' ∧ R' = R ∧ fz 49 g [0, 35, 36, 37] I I' ∧ J' = J ∧ True ∧ I' (ad g 0) 10 = I (ad g 0) 10 ∧ I' (ad g 0) 14 = I (ad g 0) 14 ∧ I' (ad g 0) 68 = I (ad g 0) 68) ∧ ∃ v : Int32, r = some (.int v) ∧ 0 ≤ v.toInt ∧ v.toInt ≤ 47 ∧ (AM (I (ad g 22)) (I (ad g 24)) (I (ad g 25)) (I (ad g 0) 14).toInt so.toInt da.toInt co.toInt st.toInt v.toInt)) := by
      intro v4170 av4170 bv4170
      refine WP_istore (ls' := [(0, _), (1, _), (2, _), (3, _), (4, _), (5, _), (6, _), (7, _), (8, _), (9, _)]) dX11_actOf_62 (by decide) rfl ?_
      refine WP_iload_n dX11_actOf_64 rfl ?_
      refine WQ_iconst (4) (4) dX11_actOf_65 rfl rfl (fun v4172 hv4172 => ?_)
      refine WQ_icmp_ne 71 dX11_actOf_66 rfl (fun c4172 => ?_) (fun c4172 => ?_)
      · refine WP_iload_n dX11_actOf_71 rfl ?_
        refine WQ_iconst (3) (3) dX11_actOf_72 rfl rfl (fun v4174 hv4174 => ?_)
        refine WQ_icmp_ne 100 dX11_actOf_73 rfl (fun c4174 => ?_) (fun c4174 => ?_)
        · refine WP_aload_n dX11_actOf_100 rfl ?_
          refine WP_aload_n dX11_actOf_101 rfl ?_
          refine WP_getr dX11_actOf_102 fX11_261 rfl (ly_is hy 0 11 rfl) (rf hr 0 42 24 (by decide)) ?_
          refine WP_iload dX11_actOf_105 rfl ?_
          refine WQ_iald dX11_actOf_107 (ly_is hy 24 13 rfl) (ly_n hy 24 28 rfl) (by omega) (by omega) (fun q hq => BT_get hI.1.1 24 0 28 (-1) (0) (2) (by decide) q (Nat.zero_le _) hq) (fun v4176 av4176 bv4176 ev4176 => ?_)
          refine WP_iload_n dX11_actOf_108 rfl ?_
          refine WP_callV2 (k := 11) dX11_actOf_109 ⟨⟨⟨by decide, by decide⟩, zX11_costAt⟩, lX11_402, by decide, rfl, vX11_costAt.1, vX11_costAt.2⟩ (ly_is hy 0 11 rfl) (sm_costx hy hr hI v4176 da (by omega) (by omega) (by omega) (by omega)) (Nat.le_of_ble_eq_true rfl) ?_
          intro r Ia Ja Ra hq
          obtain ⟨⟨ea, eb, ec⟩, v4177, rfl, av4177, bv4177, cv4177⟩ := hq
          show WP _ _ _ _ (.int _ :: _) _ _ _ _
          rw [ea, eb, ec]
          clear ea eb ec Ia Ja Ra
          refine WP_istore (ls' := [(0, _), (1, _), (2, _), (3, _), (4, _), (5, _), (6, _), (7, _), (8, _), (9, _), (10, _)]) dX11_actOf_112 (by decide) rfl ?_
          refine WP_iload dX11_actOf_114 rfl ?_
          have jn130_4180 : ∀ (v4180 : Int32), 0 ≤ v4180.toInt → v4180.toInt ≤ 3 → (v4180.toInt ≤ st.toInt) → (v4180.toInt ≤ uu.toInt) → WP g mX11_actOf 130 [(0, .ref (ad g 0)), (1, .int wy), (2, .int so), (3, .int da), (4, .int co), (5, .int st), (6, .int v4154), (7, .int v4155), (8, .int v4163), (9, .int v4170), (10, .int v4177)] [.int v4180] I J R (fun r I' J' R' => (MP g n L I' ∧ R' = R ∧ fz 49 g [0, 35, 36, 37] I I' ∧ J' = J ∧ True ∧ I' (ad g 0) 10 = I (ad g 0) 10 ∧ I' (ad g 0) 14 = I (ad g 0) 14 ∧ I' (ad g 0) 68 = I (ad g 0) 68) ∧ ∃ v : Int32, r = some (.int v) ∧ 0 ≤ v.toInt ∧ v.toInt ≤ 47 ∧ (AM (I (ad g 22)) (I (ad g 24)) (I (ad g 25)) (I (ad g 0) 14).toInt so.toInt da.toInt co.toInt st.toInt v.toInt)) := by
            intro v4180 av4180 bv4180 jf0_v4180 jf1_v4180
            refine WP_istore (ls' := [(0, _), (1, _), (2, _), (3, _), (4, _), (5, _), (6, _), (7, _), (8, _), (9, _), (10, _), (11, _)]) dX11_actOf_130 (by decide) rfl ?_
            refine WP_iload dX11_actOf_132 rfl ?_
            refine WQ_if_ne 142 dX11_actOf_134 rfl (fun c4181 => ?_) (fun c4181 => ?_)
            · refine WQ_iconst (0) (0) dX11_actOf_142 rfl rfl (fun v4183 hv4183 => ?_)
              refine WP_goto 168 dX11_actOf_143 rfl ?_
              refine WP_istore (ls' := [(0, _), (1, _), (2, _), (3, _), (4, _), (5, _), (6, _), (7, _), (8, _), (9, _), (10, _), (11, _), (12, _)]) dX11_actOf_168 (by decide) rfl ?_
              refine WP_iload_n dX11_actOf_170 rfl ?_
              refine WQ_iconst (2) (2) dX11_actOf_171 rfl rfl (fun v4184 hv4184 => ?_)
              have jn190_4187 : ∀ (v4187 : Int32), 0 ≤ v4187.toInt → v4187.toInt ≤ 3 → (v4187.toInt ≤ v4180.toInt) → (0 ≤ v4187.toInt) → WP g mX11_actOf 190 [(0, .ref (ad g 0)), (1, .int wy), (2, .int so), (3, .int da), (4, .int co), (5, .int st), (6, .int v4154), (7, .int v4155), (8, .int v4163), (9, .int v4170), (10, .int v4177), (11, .int v4180), (12, .int v4183)] [.int v4187] I J R (fun r I' J' R' => (MP g n L I' ∧ R' = R ∧ fz 49 g [0, 35, 36, 37] I I' ∧ J' = J ∧ True ∧ I' (ad g 0) 10 = I (ad g 0) 10 ∧ I' (ad g 0) 14 = I (ad g 0) 14 ∧ I' (ad g 0) 68 = I (ad g 0) 68) ∧ ∃ v : Int32, r = some (.int v) ∧ 0 ≤ v.toInt ∧ v.toInt ≤ 47 ∧ (AM (I (ad g 22)) (I (ad g 24)) (I (ad g 25)) (I (ad g 0) 14).toInt so.toInt da.toInt co.toInt st.toInt v.toInt)) := by
                intro v4187 av4187 bv4187 jf0_v4187 jf1_v4187
                refine WP_istore (ls' := [(0, _), (1, _), (2, _), (3, _), (4, _), (5, _), (6, _), (7, _), (8, _), (9, _), (10, _), (11, _), (12, _), (13, _)]) dX11_actOf_190 (by decide) rfl ?_
                refine WP_iload_n dX11_actOf_192 rfl ?_
                have jn214_4197 : ∀ (v4197 : Int32), 0 ≤ v4197.toInt → v4197.toInt ≤ 1 → WP g mX11_actOf 214 [(0, .ref (ad g 0)), (1, .int wy), (2, .int so), (3, .int da), (4, .int co), (5, .int st), (6, .int v4154), (7, .int v4155), (8, .int v4163), (9, .int v4170), (10, .int v4177), (11, .int v4180), (12, .int v4183), (13, .int v4187)] [.int v4197] I J R (fun r I' J' R' => (MP g n L I' ∧ R' = R ∧ fz 49 g [0, 35, 36, 37] I I' ∧ J' = J ∧ True ∧ I' (ad g 0) 10 = I (ad g 0) 10 ∧ I' (ad g 0) 14 = I (ad g 0) 14 ∧ I' (ad g 0) 68 = I (ad g 0) 68) ∧ ∃ v : Int32, r = some (.int v) ∧ 0 ≤ v.toInt ∧ v.toInt ≤ 47 ∧ (AM (I (ad g 22)) (I (ad g 24)) (I (ad g 25)) (I (ad g 0) 14).toInt so.toInt da.toInt co.toInt st.toInt v.toInt)) := by
                  intro v4197 av4197 bv4197
                  refine WP_istore (ls' := [(0, _), (1, _), (2, _), (3, _), (4, _), (5, _), (6, _), (7, _), (8, _), (9, _), (10, _), (11, _), (12, _), (13, _), (14, _)]) dX11_actOf_214 (by decide) rfl ?_
                  refine WQ_iconst (0) (0) dX11_actOf_216 rfl rfl (fun v4199 hv4199 => ?_)
                  refine WP_istore (ls' := [(0, _), (1, _), (2, _), (3, _), (4, _), (5, _), (6, _), (7, _), (8, _), (9, _), (10, _), (11, _), (12, _), (13, _), (14, _), (15, _)]) dX11_actOf_217 (by decide) rfl ?_
                  refine WP_iload dX11_actOf_219 rfl ?_
                  refine WQ_if_eq 270 dX11_actOf_221 rfl (fun c4199 => ?_) (fun c4199 => ?_)
                  · refine WQ_bipush (16) (16) dX11_actOf_270 rfl rfl (fun v4201 hv4201 => ?_)
                    refine WP_iload dX11_actOf_272 rfl ?_
                    refine WQ_imulk (0) dX11_actOf_274 hv4199 (by omega) (by omega) (fun v4202 hv4202 => ?_)
                    refine WQ_iconst (4) (4) dX11_actOf_275 rfl rfl (fun v4203 hv4203 => ?_)
                    refine WP_iload dX11_actOf_276 rfl ?_
                    refine WQ_imulK (4) dX11_actOf_278 hv4203 (by omega) (by omega) (fun v4204 hv4204 => ?_)
                    refine WQ_iadd dX11_actOf_279 (by omega) (by omega) (fun v4205 hv4205 => ?_)
                    refine WP_iload dX11_actOf_280 rfl ?_
                    refine WQ_iadd dX11_actOf_282 (by omega) (by omega) (fun v4206 hv4206 => ?_)
                    exact WP_iret dX11_actOf_283 rfl ⟨⟨hI, rfl, fr0, rfl, ⟨trivial, rfl, rfl, rfl⟩⟩, _, rfl, by omega, by omega, (by
                        unfold AM
                        rw [euu, show I (ad g 24) (7 * so.toInt + da.toInt).toNat = v4176 by rw [← cl (x := v4154) (n := (7 * so.toInt + da.toInt).toNat) (by omega)]; exact ev4176, ew4149, ← cv4177]
                        have k1 : v4183.toInt * v4177.toInt ≤ co.toInt := (by rw [show v4183.toInt = 0 by omega, Int.zero_mul]; omega)
                        have k3 : v4183.toInt * v4177.toInt = 0 := (by rw [show v4183.toInt = 0 by omega, Int.zero_mul])
                        exact AOKm_set (s := 0) (f := v4187.toInt) (e := v4183.toInt) (by omega) (by omega) (by omega) (by omega) (by omega) (by omega) (by omega) (by rw [Int.zero_mul]; omega) (by omega) (Or.inl rfl))⟩
                  · refine WP_iload dX11_actOf_224 rfl ?_
                    refine WQ_if_ne 270 dX11_actOf_226 rfl (fun c4206 => ?_) (fun c4206 => False.elim (by omega))
                    refine WQ_bipush (16) (16) dX11_actOf_270 rfl rfl (fun v4208 hv4208 => ?_)
                    refine WP_iload dX11_actOf_272 rfl ?_
                    refine WQ_imulk (0) dX11_actOf_274 hv4199 (by omega) (by omega) (fun v4209 hv4209 => ?_)
                    refine WQ_iconst (4) (4) dX11_actOf_275 rfl rfl (fun v4210 hv4210 => ?_)
                    refine WP_iload dX11_actOf_276 rfl ?_
                    refine WQ_imulK (4) dX11_actOf_278 hv4210 (by omega) (by omega) (fun v4211 hv4211 => ?_)
                    refine WQ_iadd dX11_actOf_279 (by omega) (by omega) (fun v4212 hv4212 => ?_)
                    refine WP_iload dX11_actOf_280 rfl ?_
                    refine WQ_iadd dX11_actOf_282 (by omega) (by omega) (fun v4213 hv4213 => ?_)
                    exact WP_iret dX11_actOf_283 rfl ⟨⟨hI, rfl, fr0, rfl, ⟨trivial, rfl, rfl, rfl⟩⟩, _, rfl, by omega, by omega, (by
                        unfold AM
                        rw [euu, show I (ad g 24) (7 * so.toInt + da.toInt).toNat = v4176 by rw [← cl (x := v4154) (n := (7 * so.toInt + da.toInt).toNat) (by omega)]; exact ev4176, ew4149, ← cv4177]
                        have k1 : v4183.toInt * v4177.toInt ≤ co.toInt := (by rw [show v4183.toInt = 0 by omega, Int.zero_mul]; omega)
                        have k3 : v4183.toInt * v4177.toInt = 0 := (by rw [show v4183.toInt = 0 by omega, Int.zero_mul])
                        exact AOKm_set (s := 0) (f := v4187.toInt) (e := v4183.toInt) (by omega) (by omega) (by omega) (by omega) (by omega) (by omega) (by omega) (by rw [Int.zero_mul]; omega) (by omega) (Or.inl rfl))⟩
                refine WQ_if_eq 209 dX11_actOf_193 rfl (fun c4213 => ?_) (fun c4213 => ?_)
                · refine WQ_iconst (1) (1) dX11_actOf_209 rfl rfl (fun v4215 hv4215 => ?_)
                  refine WP_goto 214 dX11_actOf_210 rfl ?_
                  exact WP_sub (fc rfl (fc rfl (fc rfl (fc rfl (fc rfl (fc rfl (fc rfl (fc rfl (fc rfl (fc rfl (fc rfl (fc rfl (fc rfl (fc rfl fn)))))))))))))) (jn214_4197 v4215 (by omega) (by omega))
                · refine WP_iload_n dX11_actOf_196 rfl ?_
                  refine WQ_iconst (2) (2) dX11_actOf_197 rfl rfl (fun v4216 hv4216 => ?_)
                  refine WQ_icmp_ne 213 dX11_actOf_198 rfl (fun c4216 => ?_) (fun c4216 => ?_)
                  · refine WQ_iconst (0) (0) dX11_actOf_213 rfl rfl (fun v4218 hv4218 => ?_)
                    exact WP_sub (fc rfl (fc rfl (fc rfl (fc rfl (fc rfl (fc rfl (fc rfl (fc rfl (fc rfl (fc rfl (fc rfl (fc rfl (fc rfl (fc rfl fn)))))))))))))) (jn214_4197 v4218 (by omega) (by omega))
                  · refine WP_aload_n dX11_actOf_201 rfl ?_
                    refine WP_iload_n dX11_actOf_202 rfl ?_
                    refine WP_callV1 (k := 11) dX11_actOf_203 ⟨⟨⟨by decide, by decide⟩, zX11_loses⟩, lX11_414, by decide, rfl, vX11_loses.1, vX11_loses.2⟩ (ly_is hy 0 11 rfl) (sm_loses2 hy hr hI da (by omega) (by omega)) (Nat.le_of_ble_eq_true rfl) ?_
                    intro r Ia Ja Ra hq
                    obtain ⟨⟨ea, eb, ec⟩, v4219, rfl, av4219, bv4219⟩ := hq
                    show WP _ _ _ _ (.int _ :: _) _ _ _ _
                    rw [ea, eb, ec]
                    clear ea eb ec Ia Ja Ra
                    refine WQ_if_le 213 dX11_actOf_206 rfl (fun c4219 => ?_) (fun c4219 => ?_)
                    · refine WQ_iconst (0) (0) dX11_actOf_213 rfl rfl (fun v4221 hv4221 => ?_)
                      exact WP_sub (fc rfl (fc rfl (fc rfl (fc rfl (fc rfl (fc rfl (fc rfl (fc rfl (fc rfl (fc rfl (fc rfl (fc rfl (fc rfl (fc rfl fn)))))))))))))) (jn214_4197 v4221 (by omega) (by omega))
                    · refine WQ_iconst (1) (1) dX11_actOf_209 rfl rfl (fun v4222 hv4222 => ?_)
                      refine WP_goto 214 dX11_actOf_210 rfl ?_
                      exact WP_sub (fc rfl (fc rfl (fc rfl (fc rfl (fc rfl (fc rfl (fc rfl (fc rfl (fc rfl (fc rfl (fc rfl (fc rfl (fc rfl (fc rfl fn)))))))))))))) (jn214_4197 v4222 (by omega) (by omega))
              refine WQ_icmp_ne 180 dX11_actOf_172 rfl (fun c4222 => ?_) (fun c4222 => ?_)
              · refine WP_iload dX11_actOf_180 rfl ?_
                refine WP_iload dX11_actOf_182 rfl ?_
                refine WQ_isub dX11_actOf_184 (by omega) (by omega) (fun v4224 hv4224 => ?_)
                refine WP_iload dX11_actOf_185 rfl ?_
                refine WQ_min dX11_actOf_187 lX11_417 ⟨by decide, Nat.le_of_ble_eq_true rfl⟩ (fun v4225 av4225 bv4225 cv4225 => ?_)
                exact WP_sub (fc rfl (fc rfl (fc rfl (fc rfl (fc rfl (fc rfl (fc rfl (fc rfl (fc rfl (fc rfl (fc rfl (fc rfl (fc rfl fn))))))))))))) (jn190_4187 v4225 (by omega) (by omega) (by omega) (by omega))
              · refine WP_iload dX11_actOf_175 rfl ?_
                refine WP_goto 190 dX11_actOf_177 rfl ?_
                exact WP_sub (fc rfl (fc rfl (fc rfl (fc rfl (fc rfl (fc rfl (fc rfl (fc rfl (fc rfl (fc rfl (fc rfl (fc rfl (fc rfl fn))))))))))))) (jn190_4187 v4180 (by omega) (by omega) (by omega) (by omega))
            · refine WP_iload dX11_actOf_137 rfl ?_
              refine WQ_if_ne 146 dX11_actOf_139 rfl (fun c4225 => ?_) (fun c4225 => ?_)
              · refine WP_iload_n dX11_actOf_146 rfl ?_
                refine WQ_iconst (2) (2) dX11_actOf_147 rfl rfl (fun v4227 hv4227 => ?_)
                have jn161_4229 : ∀ (v4229 : Int32), -2 ≤ v4229.toInt → v4229.toInt ≤ 3 → (v4229.toInt ≤ uu.toInt) → (0 ≤ v4229.toInt) → WP g mX11_actOf 161 [(0, .ref (ad g 0)), (1, .int wy), (2, .int so), (3, .int da), (4, .int co), (5, .int st), (6, .int v4154), (7, .int v4155), (8, .int v4163), (9, .int v4170), (10, .int v4177), (11, .int v4180)] [.int v4229] I J R (fun r I' J' R' => (MP g n L I' ∧ R' = R ∧ fz 49 g [0, 35, 36, 37] I I' ∧ J' = J ∧ True ∧ I' (ad g 0) 10 = I (ad g 0) 10 ∧ I' (ad g 0) 14 = I (ad g 0) 14 ∧ I' (ad g 0) 68 = I (ad g 0) 68) ∧ ∃ v : Int32, r = some (.int v) ∧ 0 ≤ v.toInt ∧ v.toInt ≤ 47 ∧ (AM (I (ad g 22)) (I (ad g 24)) (I (ad g 25)) (I (ad g 0) 14).toInt so.toInt da.toInt co.toInt st.toInt v.toInt)) := by
                  intro v4229 av4229 bv4229 jf0_v4229 jf1_v4229
                  refine WP_iload dX11_actOf_161 rfl ?_
                  refine WP_iload dX11_actOf_163 rfl ?_
                  refine WP_callS3 dX11_actOf_165 ⟨⟨⟨by decide, by decide⟩, zX11_canBuy⟩, lX11_446, tX11_canBuy⟩ (sm_canBuyx hy hr hI v4229 co v4177 (by omega) (by omega) (by omega) (by omega) (by omega) (by omega)) (Nat.le_of_ble_eq_true rfl) ?_
                  intro r Ia Ja Ra hq
                  obtain ⟨⟨ea, eb, ec⟩, v4231, rfl, av4231, bv4231, cv4231⟩ := hq
                  show WP _ _ _ _ (.int _ :: _) _ _ _ _
                  rw [ea, eb, ec]
                  clear ea eb ec Ia Ja Ra
                  refine WP_istore (ls' := [(0, _), (1, _), (2, _), (3, _), (4, _), (5, _), (6, _), (7, _), (8, _), (9, _), (10, _), (11, _), (12, _)]) dX11_actOf_168 (by decide) rfl ?_
                  refine WP_iload_n dX11_actOf_170 rfl ?_
                  refine WQ_iconst (2) (2) dX11_actOf_171 rfl rfl (fun v4232 hv4232 => ?_)
                  have jn190_4235 : ∀ (v4235 : Int32), -2 ≤ v4235.toInt → v4235.toInt ≤ 3 → (v4235.toInt ≤ v4180.toInt) → (0 ≤ v4235.toInt) → WP g mX11_actOf 190 [(0, .ref (ad g 0)), (1, .int wy), (2, .int so), (3, .int da), (4, .int co), (5, .int st), (6, .int v4154), (7, .int v4155), (8, .int v4163), (9, .int v4170), (10, .int v4177), (11, .int v4180), (12, .int v4231)] [.int v4235] I J R (fun r I' J' R' => (MP g n L I' ∧ R' = R ∧ fz 49 g [0, 35, 36, 37] I I' ∧ J' = J ∧ True ∧ I' (ad g 0) 10 = I (ad g 0) 10 ∧ I' (ad g 0) 14 = I (ad g 0) 14 ∧ I' (ad g 0) 68 = I (ad g 0) 68) ∧ ∃ v : Int32, r = some (.int v) ∧ 0 ≤ v.toInt ∧ v.toInt ≤ 47 ∧ (AM (I (ad g 22)) (I (ad g 24)) (I (ad g 25)) (I (ad g 0) 14).toInt so.toInt da.toInt co.toInt st.toInt v.toInt)) := by
                    intro v4235 av4235 bv4235 jf0_v4235 jf1_v4235
                    refine WP_istore (ls' := [(0, _), (1, _), (2, _), (3, _), (4, _), (5, _), (6, _), (7, _), (8, _), (9, _), (10, _), (11, _), (12, _), (13, _)]) dX11_actOf_190 (by decide) rfl ?_
                    refine WP_iload_n dX11_actOf_192 rfl ?_
                    have jn214_4245 : ∀ (v4245 : Int32), 0 ≤ v4245.toInt → v4245.toInt ≤ 1 → WP g mX11_actOf 214 [(0, .ref (ad g 0)), (1, .int wy), (2, .int so), (3, .int da), (4, .int co), (5, .int st), (6, .int v4154), (7, .int v4155), (8, .int v4163), (9, .int v4170), (10, .int v4177), (11, .int v4180), (12, .int v4231), (13, .int v4235)] [.int v4245] I J R (fun r I' J' R' => (MP g n L I' ∧ R' = R ∧ fz 49 g [0, 35, 36, 37] I I' ∧ J' = J ∧ True ∧ I' (ad g 0) 10 = I (ad g 0) 10 ∧ I' (ad g 0) 14 = I (ad g 0) 14 ∧ I' (ad g 0) 68 = I (ad g 0) 68) ∧ ∃ v : Int32, r = some (.int v) ∧ 0 ≤ v.toInt ∧ v.toInt ≤ 47 ∧ (AM (I (ad g 22)) (I (ad g 24)) (I (ad g 25)) (I (ad g 0) 14).toInt so.toInt da.toInt co.toInt st.toInt v.toInt)) := by
                      intro v4245 av4245 bv4245
                      refine WP_istore (ls' := [(0, _), (1, _), (2, _), (3, _), (4, _), (5, _), (6, _), (7, _), (8, _), (9, _), (10, _), (11, _), (12, _), (13, _), (14, _)]) dX11_actOf_214 (by decide) rfl ?_
                      refine WQ_iconst (0) (0) dX11_actOf_216 rfl rfl (fun v4247 hv4247 => ?_)
                      refine WP_istore (ls' := [(0, _), (1, _), (2, _), (3, _), (4, _), (5, _), (6, _), (7, _), (8, _), (9, _), (10, _), (11, _), (12, _), (13, _), (14, _), (15, _)]) dX11_actOf_217 (by decide) rfl ?_
                      refine WP_iload dX11_actOf_219 rfl ?_
                      refine WQ_if_eq 270 dX11_actOf_221 rfl (fun c4247 => ?_) (fun c4247 => ?_)
                      · refine WQ_bipush (16) (16) dX11_actOf_270 rfl rfl (fun v4249 hv4249 => ?_)
                        refine WP_iload dX11_actOf_272 rfl ?_
                        refine WQ_imulk (0) dX11_actOf_274 hv4247 (by omega) (by omega) (fun v4250 hv4250 => ?_)
                        refine WQ_iconst (4) (4) dX11_actOf_275 rfl rfl (fun v4251 hv4251 => ?_)
                        refine WP_iload dX11_actOf_276 rfl ?_
                        refine WQ_imulK (4) dX11_actOf_278 hv4251 (by omega) (by omega) (fun v4252 hv4252 => ?_)
                        refine WQ_iadd dX11_actOf_279 (by omega) (by omega) (fun v4253 hv4253 => ?_)
                        refine WP_iload dX11_actOf_280 rfl ?_
                        refine WQ_iadd dX11_actOf_282 (by omega) (by omega) (fun v4254 hv4254 => ?_)
                        exact WP_iret dX11_actOf_283 rfl ⟨⟨hI, rfl, fr0, rfl, ⟨trivial, rfl, rfl, rfl⟩⟩, _, rfl, by omega, by omega, (by
                            unfold AM
                            rw [euu, show I (ad g 24) (7 * so.toInt + da.toInt).toNat = v4176 by rw [← cl (x := v4154) (n := (7 * so.toInt + da.toInt).toNat) (by omega)]; exact ev4176, ew4149, ← cv4177]
                            have k1 : v4231.toInt * v4177.toInt ≤ co.toInt := cv4231.2
                            exact AOKm_set (s := 0) (f := v4235.toInt) (e := v4231.toInt) (by omega) (by omega) (by omega) (by omega) (by omega) (by omega) (by omega) (by rw [Int.zero_mul]; omega) (by omega) (Or.inl rfl))⟩
                      · refine WP_iload dX11_actOf_224 rfl ?_
                        refine WQ_if_ne 270 dX11_actOf_226 rfl (fun c4254 => False.elim (by omega)) (fun c4254 => ?_)
                        refine WP_aload_n dX11_actOf_229 rfl ?_
                        refine WQ_getim dX11_actOf_230 fX11_224 rfl (ly_is hy 0 11 rfl) ew4149 ?_
                        refine WQ_iconst (-1) (-1) dX11_actOf_233 rfl rfl (fun v4256 hv4256 => ?_)
                        refine WQ_icmp_eq 270 dX11_actOf_234 rfl (fun c4256 => ?_) (fun c4256 => ?_)
                        · refine WQ_bipush (16) (16) dX11_actOf_270 rfl rfl (fun v4258 hv4258 => ?_)
                          refine WP_iload dX11_actOf_272 rfl ?_
                          refine WQ_imulk (0) dX11_actOf_274 hv4247 (by omega) (by omega) (fun v4259 hv4259 => ?_)
                          refine WQ_iconst (4) (4) dX11_actOf_275 rfl rfl (fun v4260 hv4260 => ?_)
                          refine WP_iload dX11_actOf_276 rfl ?_
                          refine WQ_imulK (4) dX11_actOf_278 hv4260 (by omega) (by omega) (fun v4261 hv4261 => ?_)
                          refine WQ_iadd dX11_actOf_279 (by omega) (by omega) (fun v4262 hv4262 => ?_)
                          refine WP_iload dX11_actOf_280 rfl ?_
                          refine WQ_iadd dX11_actOf_282 (by omega) (by omega) (fun v4263 hv4263 => ?_)
                          exact WP_iret dX11_actOf_283 rfl ⟨⟨hI, rfl, fr0, rfl, ⟨trivial, rfl, rfl, rfl⟩⟩, _, rfl, by omega, by omega, (by
                              unfold AM
                              rw [euu, show I (ad g 24) (7 * so.toInt + da.toInt).toNat = v4176 by rw [← cl (x := v4154) (n := (7 * so.toInt + da.toInt).toNat) (by omega)]; exact ev4176, ew4149, ← cv4177]
                              have k1 : v4231.toInt * v4177.toInt ≤ co.toInt := cv4231.2
                              exact AOKm_set (s := 0) (f := v4235.toInt) (e := v4231.toInt) (by omega) (by omega) (by omega) (by omega) (by omega) (by omega) (by omega) (by rw [Int.zero_mul]; omega) (by omega) (Or.inl rfl))⟩
                        · refine WQ_iconst (2) (2) dX11_actOf_237 rfl rfl (fun v4264 hv4264 => ?_)
                          refine WQ_iconst (5) (5) dX11_actOf_238 rfl rfl (fun v4265 hv4265 => ?_)
                          refine WP_iload dX11_actOf_239 rfl ?_
                          refine WQ_isub dX11_actOf_241 (by omega) (by omega) (fun v4266 hv4266 => ?_)
                          refine WP_iload dX11_actOf_242 rfl ?_
                          refine WQ_iadd dX11_actOf_244 (by omega) (by omega) (fun v4267 hv4267 => ?_)
                          refine WQ_min dX11_actOf_245 lX11_417 ⟨by decide, Nat.le_of_ble_eq_true rfl⟩ (fun v4268 av4268 bv4268 cv4268 => ?_)
                          refine WP_iload dX11_actOf_248 rfl ?_
                          have kk0 : v4231.toInt * v4177.toInt ≤ co.toInt := cv4231.2
                          refine WP_iload dX11_actOf_250 rfl ?_
                          refine WP_iload dX11_actOf_252 rfl ?_
                          refine WQ_imulb (3) (20) dX11_actOf_254 ⟨by omega, by omega⟩ ⟨by omega, by omega⟩ (by decide) (fun v4269 pv4269 av4269 bv4269 cv4269 => ?_)
                          refine WQ_isub dX11_actOf_255 (by omega) (by omega) (fun v4270 hv4270 => ?_)
                          refine WP_aload_n dX11_actOf_256 rfl ?_
                          refine WP_aload_n dX11_actOf_257 rfl ?_
                          refine WQ_getim dX11_actOf_258 fX11_224 rfl (ly_is hy 0 11 rfl) ew4149 ?_
                          refine WP_iload_n dX11_actOf_261 rfl ?_
                          refine WP_callV2 (k := 11) dX11_actOf_262 ⟨⟨⟨by decide, by decide⟩, zX11_costAt⟩, lX11_402, by decide, rfl, vX11_costAt.1, vX11_costAt.2⟩ (ly_is hy 0 11 rfl) (sm_costx hy hr hI w4149 da (by omega) (by omega) (by omega) (by omega)) (Nat.le_of_ble_eq_true rfl) ?_
                          intro r Ia Ja Ra hq
                          obtain ⟨⟨ea, eb, ec⟩, v4271, rfl, av4271, bv4271, cv4271⟩ := hq
                          show WP _ _ _ _ (.int _ :: _) _ _ _ _
                          rw [ea, eb, ec]
                          clear ea eb ec Ia Ja Ra
                          refine WP_callS3 dX11_actOf_265 ⟨⟨⟨by decide, by decide⟩, zX11_canBuy⟩, lX11_446, tX11_canBuy⟩ (sm_canBuyx hy hr hI v4268 v4270 v4271 (by omega) (by omega) (by omega) (by omega) (by omega) (by omega)) (Nat.le_of_ble_eq_true rfl) ?_
                          intro r Ia Ja Ra hq
                          obtain ⟨⟨ea, eb, ec⟩, v4272, rfl, av4272, bv4272, cv4272⟩ := hq
                          show WP _ _ _ _ (.int _ :: _) _ _ _ _
                          rw [ea, eb, ec]
                          clear ea eb ec Ia Ja Ra
                          refine WP_istore (ls' := [(0, _), (1, _), (2, _), (3, _), (4, _), (5, _), (6, _), (7, _), (8, _), (9, _), (10, _), (11, _), (12, _), (13, _), (14, _), (15, _)]) dX11_actOf_268 (by decide) rfl ?_
                          refine WQ_bipush (16) (16) dX11_actOf_270 rfl rfl (fun v4273 hv4273 => ?_)
                          refine WP_iload dX11_actOf_272 rfl ?_
                          refine WQ_imulK (16) dX11_actOf_274 hv4273 (by omega) (by omega) (fun v4274 hv4274 => ?_)
                          refine WQ_iconst (4) (4) dX11_actOf_275 rfl rfl (fun v4275 hv4275 => ?_)
                          refine WP_iload dX11_actOf_276 rfl ?_
                          refine WQ_imulK (4) dX11_actOf_278 hv4275 (by omega) (by omega) (fun v4276 hv4276 => ?_)
                          refine WQ_iadd dX11_actOf_279 (by omega) (by omega) (fun v4277 hv4277 => ?_)
                          refine WP_iload dX11_actOf_280 rfl ?_
                          refine WQ_iadd dX11_actOf_282 (by omega) (by omega) (fun v4278 hv4278 => ?_)
                          exact WP_iret dX11_actOf_283 rfl ⟨⟨hI, rfl, fr0, rfl, ⟨trivial, rfl, rfl, rfl⟩⟩, _, rfl, by omega, by omega, (by
                              unfold AM
                              rw [euu, show I (ad g 24) (7 * so.toInt + da.toInt).toNat = v4176 by rw [← cl (x := v4154) (n := (7 * so.toInt + da.toInt).toNat) (by omega)]; exact ev4176, ew4149, ← cv4177]
                              have k1 : v4231.toInt * v4177.toInt ≤ co.toInt := cv4231.2
                              have k2 := cv4272.2
                              rw [← cv4271]
                              exact AOKm_set (s := v4272.toInt) (f := v4235.toInt) (e := v4231.toInt) (by omega) (by omega) (by omega) (by omega) (by omega) (by omega) (by omega) (by omega) (by omega) (by omega))⟩
                    refine WQ_if_eq 209 dX11_actOf_193 rfl (fun c4278 => ?_) (fun c4278 => ?_)
                    · refine WQ_iconst (1) (1) dX11_actOf_209 rfl rfl (fun v4280 hv4280 => ?_)
                      refine WP_goto 214 dX11_actOf_210 rfl ?_
                      exact WP_sub (fc rfl (fc rfl (fc rfl (fc rfl (fc rfl (fc rfl (fc rfl (fc rfl (fc rfl (fc rfl (fc rfl (fc rfl (fc rfl (fc rfl fn)))))))))))))) (jn214_4245 v4280 (by omega) (by omega))
                    · refine WP_iload_n dX11_actOf_196 rfl ?_
                      refine WQ_iconst (2) (2) dX11_actOf_197 rfl rfl (fun v4281 hv4281 => ?_)
                      refine WQ_icmp_ne 213 dX11_actOf_198 rfl (fun c4281 => ?_) (fun c4281 => ?_)
                      · refine WQ_iconst (0) (0) dX11_actOf_213 rfl rfl (fun v4283 hv4283 => ?_)
                        exact WP_sub (fc rfl (fc rfl (fc rfl (fc rfl (fc rfl (fc rfl (fc rfl (fc rfl (fc rfl (fc rfl (fc rfl (fc rfl (fc rfl (fc rfl fn)))))))))))))) (jn214_4245 v4283 (by omega) (by omega))
                      · refine WP_aload_n dX11_actOf_201 rfl ?_
                        refine WP_iload_n dX11_actOf_202 rfl ?_
                        refine WP_callV1 (k := 11) dX11_actOf_203 ⟨⟨⟨by decide, by decide⟩, zX11_loses⟩, lX11_414, by decide, rfl, vX11_loses.1, vX11_loses.2⟩ (ly_is hy 0 11 rfl) (sm_loses2 hy hr hI da (by omega) (by omega)) (Nat.le_of_ble_eq_true rfl) ?_
                        intro r Ia Ja Ra hq
                        obtain ⟨⟨ea, eb, ec⟩, v4284, rfl, av4284, bv4284⟩ := hq
                        show WP _ _ _ _ (.int _ :: _) _ _ _ _
                        rw [ea, eb, ec]
                        clear ea eb ec Ia Ja Ra
                        refine WQ_if_le 213 dX11_actOf_206 rfl (fun c4284 => ?_) (fun c4284 => ?_)
                        · refine WQ_iconst (0) (0) dX11_actOf_213 rfl rfl (fun v4286 hv4286 => ?_)
                          exact WP_sub (fc rfl (fc rfl (fc rfl (fc rfl (fc rfl (fc rfl (fc rfl (fc rfl (fc rfl (fc rfl (fc rfl (fc rfl (fc rfl (fc rfl fn)))))))))))))) (jn214_4245 v4286 (by omega) (by omega))
                        · refine WQ_iconst (1) (1) dX11_actOf_209 rfl rfl (fun v4287 hv4287 => ?_)
                          refine WP_goto 214 dX11_actOf_210 rfl ?_
                          exact WP_sub (fc rfl (fc rfl (fc rfl (fc rfl (fc rfl (fc rfl (fc rfl (fc rfl (fc rfl (fc rfl (fc rfl (fc rfl (fc rfl (fc rfl fn)))))))))))))) (jn214_4245 v4287 (by omega) (by omega))
                  refine WQ_icmp_ne 180 dX11_actOf_172 rfl (fun c4287 => ?_) (fun c4287 => ?_)
                  · refine WP_iload dX11_actOf_180 rfl ?_
                    refine WP_iload dX11_actOf_182 rfl ?_
                    refine WQ_isub dX11_actOf_184 (by omega) (by omega) (fun v4289 hv4289 => ?_)
                    refine WP_iload dX11_actOf_185 rfl ?_
                    refine WQ_min dX11_actOf_187 lX11_417 ⟨by decide, Nat.le_of_ble_eq_true rfl⟩ (fun v4290 av4290 bv4290 cv4290 => ?_)
                    exact WP_sub (fc rfl (fc rfl (fc rfl (fc rfl (fc rfl (fc rfl (fc rfl (fc rfl (fc rfl (fc rfl (fc rfl (fc rfl (fc rfl fn))))))))))))) (jn190_4235 v4290 (by omega) (by omega) (by omega) (by omega))
                  · refine WP_iload dX11_actOf_175 rfl ?_
                    refine WP_goto 190 dX11_actOf_177 rfl ?_
                    exact WP_sub (fc rfl (fc rfl (fc rfl (fc rfl (fc rfl (fc rfl (fc rfl (fc rfl (fc rfl (fc rfl (fc rfl (fc rfl (fc rfl fn))))))))))))) (jn190_4235 v4180 (by omega) (by omega) (by omega) (by omega))
                refine WQ_icmp_ne 159 dX11_actOf_148 rfl (fun c4290 => ?_) (fun c4290 => ?_)
                · refine WP_iload dX11_actOf_159 rfl ?_
                  exact WP_sub (fc rfl (fc rfl (fc rfl (fc rfl (fc rfl (fc rfl (fc rfl (fc rfl (fc rfl (fc rfl (fc rfl (fc rfl fn)))))))))))) (jn161_4229 v4155 (by omega) (by omega) (by omega) (by omega))
                · refine WP_iload dX11_actOf_151 rfl ?_
                  refine WP_iload dX11_actOf_153 rfl ?_
                  refine WQ_isub dX11_actOf_155 (by omega) (by omega) (fun v4292 hv4292 => ?_)
                  refine WP_goto 161 dX11_actOf_156 rfl ?_
                  exact WP_sub (fc rfl (fc rfl (fc rfl (fc rfl (fc rfl (fc rfl (fc rfl (fc rfl (fc rfl (fc rfl (fc rfl (fc rfl fn)))))))))))) (jn161_4229 v4292 (by omega) (by omega) (by omega) (by omega))
              · refine WQ_iconst (0) (0) dX11_actOf_142 rfl rfl (fun v4293 hv4293 => ?_)
                refine WP_goto 168 dX11_actOf_143 rfl ?_
                refine WP_istore (ls' := [(0, _), (1, _), (2, _), (3, _), (4, _), (5, _), (6, _), (7, _), (8, _), (9, _), (10, _), (11, _), (12, _)]) dX11_actOf_168 (by decide) rfl ?_
                refine WP_iload_n dX11_actOf_170 rfl ?_
                refine WQ_iconst (2) (2) dX11_actOf_171 rfl rfl (fun v4294 hv4294 => ?_)
                have jn190_4297 : ∀ (v4297 : Int32), 0 ≤ v4297.toInt → v4297.toInt ≤ 3 → (v4297.toInt ≤ v4180.toInt) → (0 ≤ v4297.toInt) → WP g mX11_actOf 190 [(0, .ref (ad g 0)), (1, .int wy), (2, .int so), (3, .int da), (4, .int co), (5, .int st), (6, .int v4154), (7, .int v4155), (8, .int v4163), (9, .int v4170), (10, .int v4177), (11, .int v4180), (12, .int v4293)] [.int v4297] I J R (fun r I' J' R' => (MP g n L I' ∧ R' = R ∧ fz 49 g [0, 35, 36, 37] I I' ∧ J' = J ∧ True ∧ I' (ad g 0) 10 = I (ad g 0) 10 ∧ I' (ad g 0) 14 = I (ad g 0) 14 ∧ I' (ad g 0) 68 = I (ad g 0) 68) ∧ ∃ v : Int32, r = some (.int v) ∧ 0 ≤ v.toInt ∧ v.toInt ≤ 47 ∧ (AM (I (ad g 22)) (I (ad g 24)) (I (ad g 25)) (I (ad g 0) 14).toInt so.toInt da.toInt co.toInt st.toInt v.toInt)) := by
                  intro v4297 av4297 bv4297 jf0_v4297 jf1_v4297
                  refine WP_istore (ls' := [(0, _), (1, _), (2, _), (3, _), (4, _), (5, _), (6, _), (7, _), (8, _), (9, _), (10, _), (11, _), (12, _), (13, _)]) dX11_actOf_190 (by decide) rfl ?_
                  refine WP_iload_n dX11_actOf_192 rfl ?_
                  have jn214_4307 : ∀ (v4307 : Int32), 0 ≤ v4307.toInt → v4307.toInt ≤ 1 → WP g mX11_actOf 214 [(0, .ref (ad g 0)), (1, .int wy), (2, .int so), (3, .int da), (4, .int co), (5, .int st), (6, .int v4154), (7, .int v4155), (8, .int v4163), (9, .int v4170), (10, .int v4177), (11, .int v4180), (12, .int v4293), (13, .int v4297)] [.int v4307] I J R (fun r I' J' R' => (MP g n L I' ∧ R' = R ∧ fz 49 g [0, 35, 36, 37] I I' ∧ J' = J ∧ True ∧ I' (ad g 0) 10 = I (ad g 0) 10 ∧ I' (ad g 0) 14 = I (ad g 0) 14 ∧ I' (ad g 0) 68 = I (ad g 0) 68) ∧ ∃ v : Int32, r = some (.int v) ∧ 0 ≤ v.toInt ∧ v.toInt ≤ 47 ∧ (AM (I (ad g 22)) (I (ad g 24)) (I (ad g 25)) (I (ad g 0) 14).toInt so.toInt da.toInt co.toInt st.toInt v.toInt)) := by
                    intro v4307 av4307 bv4307
                    refine WP_istore (ls' := [(0, _), (1, _), (2, _), (3, _), (4, _), (5, _), (6, _), (7, _), (8, _), (9, _), (10, _), (11, _), (12, _), (13, _), (14, _)]) dX11_actOf_214 (by decide) rfl ?_
                    refine WQ_iconst (0) (0) dX11_actOf_216 rfl rfl (fun v4309 hv4309 => ?_)
                    refine WP_istore (ls' := [(0, _), (1, _), (2, _), (3, _), (4, _), (5, _), (6, _), (7, _), (8, _), (9, _), (10, _), (11, _), (12, _), (13, _), (14, _), (15, _)]) dX11_actOf_217 (by decide) rfl ?_
                    refine WP_iload dX11_actOf_219 rfl ?_
                    refine WQ_if_eq 270 dX11_actOf_221 rfl (fun c4309 => ?_) (fun c4309 => ?_)
                    · refine WQ_bipush (16) (16) dX11_actOf_270 rfl rfl (fun v4311 hv4311 => ?_)
                      refine WP_iload dX11_actOf_272 rfl ?_
                      refine WQ_imulk (0) dX11_actOf_274 hv4309 (by omega) (by omega) (fun v4312 hv4312 => ?_)
                      refine WQ_iconst (4) (4) dX11_actOf_275 rfl rfl (fun v4313 hv4313 => ?_)
                      refine WP_iload dX11_actOf_276 rfl ?_
                      refine WQ_imulK (4) dX11_actOf_278 hv4313 (by omega) (by omega) (fun v4314 hv4314 => ?_)
                      refine WQ_iadd dX11_actOf_279 (by omega) (by omega) (fun v4315 hv4315 => ?_)
                      refine WP_iload dX11_actOf_280 rfl ?_
                      refine WQ_iadd dX11_actOf_282 (by omega) (by omega) (fun v4316 hv4316 => ?_)
                      exact WP_iret dX11_actOf_283 rfl ⟨⟨hI, rfl, fr0, rfl, ⟨trivial, rfl, rfl, rfl⟩⟩, _, rfl, by omega, by omega, (by
                          unfold AM
                          rw [euu, show I (ad g 24) (7 * so.toInt + da.toInt).toNat = v4176 by rw [← cl (x := v4154) (n := (7 * so.toInt + da.toInt).toNat) (by omega)]; exact ev4176, ew4149, ← cv4177]
                          have k1 : v4293.toInt * v4177.toInt ≤ co.toInt := (by rw [show v4293.toInt = 0 by omega, Int.zero_mul]; omega)
                          have k3 : v4293.toInt * v4177.toInt = 0 := (by rw [show v4293.toInt = 0 by omega, Int.zero_mul])
                          exact AOKm_set (s := 0) (f := v4297.toInt) (e := v4293.toInt) (by omega) (by omega) (by omega) (by omega) (by omega) (by omega) (by omega) (by rw [Int.zero_mul]; omega) (by omega) (Or.inl rfl))⟩
                    · refine WP_iload dX11_actOf_224 rfl ?_
                      refine WQ_if_ne 270 dX11_actOf_226 rfl (fun c4316 => False.elim (by omega)) (fun c4316 => ?_)
                      refine WP_aload_n dX11_actOf_229 rfl ?_
                      refine WQ_getim dX11_actOf_230 fX11_224 rfl (ly_is hy 0 11 rfl) ew4149 ?_
                      refine WQ_iconst (-1) (-1) dX11_actOf_233 rfl rfl (fun v4318 hv4318 => ?_)
                      refine WQ_icmp_eq 270 dX11_actOf_234 rfl (fun c4318 => ?_) (fun c4318 => ?_)
                      · refine WQ_bipush (16) (16) dX11_actOf_270 rfl rfl (fun v4320 hv4320 => ?_)
                        refine WP_iload dX11_actOf_272 rfl ?_
                        refine WQ_imulk (0) dX11_actOf_274 hv4309 (by omega) (by omega) (fun v4321 hv4321 => ?_)
                        refine WQ_iconst (4) (4) dX11_actOf_275 rfl rfl (fun v4322 hv4322 => ?_)
                        refine WP_iload dX11_actOf_276 rfl ?_
                        refine WQ_imulK (4) dX11_actOf_278 hv4322 (by omega) (by omega) (fun v4323 hv4323 => ?_)
                        refine WQ_iadd dX11_actOf_279 (by omega) (by omega) (fun v4324 hv4324 => ?_)
                        refine WP_iload dX11_actOf_280 rfl ?_
                        refine WQ_iadd dX11_actOf_282 (by omega) (by omega) (fun v4325 hv4325 => ?_)
                        exact WP_iret dX11_actOf_283 rfl ⟨⟨hI, rfl, fr0, rfl, ⟨trivial, rfl, rfl, rfl⟩⟩, _, rfl, by omega, by omega, (by
                            unfold AM
                            rw [euu, show I (ad g 24) (7 * so.toInt + da.toInt).toNat = v4176 by rw [← cl (x := v4154) (n := (7 * so.toInt + da.toInt).toNat) (by omega)]; exact ev4176, ew4149, ← cv4177]
                            have k1 : v4293.toInt * v4177.toInt ≤ co.toInt := (by rw [show v4293.toInt = 0 by omega, Int.zero_mul]; omega)
                            have k3 : v4293.toInt * v4177.toInt = 0 := (by rw [show v4293.toInt = 0 by omega, Int.zero_mul])
                            exact AOKm_set (s := 0) (f := v4297.toInt) (e := v4293.toInt) (by omega) (by omega) (by omega) (by omega) (by omega) (by omega) (by omega) (by rw [Int.zero_mul]; omega) (by omega) (Or.inl rfl))⟩
                      · refine WQ_iconst (2) (2) dX11_actOf_237 rfl rfl (fun v4326 hv4326 => ?_)
                        refine WQ_iconst (5) (5) dX11_actOf_238 rfl rfl (fun v4327 hv4327 => ?_)
                        refine WP_iload dX11_actOf_239 rfl ?_
                        refine WQ_isub dX11_actOf_241 (by omega) (by omega) (fun v4328 hv4328 => ?_)
                        refine WP_iload dX11_actOf_242 rfl ?_
                        refine WQ_iadd dX11_actOf_244 (by omega) (by omega) (fun v4329 hv4329 => ?_)
                        refine WQ_min dX11_actOf_245 lX11_417 ⟨by decide, Nat.le_of_ble_eq_true rfl⟩ (fun v4330 av4330 bv4330 cv4330 => ?_)
                        refine WP_iload dX11_actOf_248 rfl ?_
                        have kk0 : v4293.toInt * v4177.toInt ≤ co.toInt := (by rw [show v4293.toInt = 0 by omega, Int.zero_mul]; omega)
                        refine WP_iload dX11_actOf_250 rfl ?_
                        refine WP_iload dX11_actOf_252 rfl ?_
                        refine WQ_imulK (0) dX11_actOf_254 hv4293 (by omega) (by omega) (fun v4331 hv4331 => ?_)
                        refine WQ_isub dX11_actOf_255 (by omega) (by omega) (fun v4332 hv4332 => ?_)
                        refine WP_aload_n dX11_actOf_256 rfl ?_
                        refine WP_aload_n dX11_actOf_257 rfl ?_
                        refine WQ_getim dX11_actOf_258 fX11_224 rfl (ly_is hy 0 11 rfl) ew4149 ?_
                        refine WP_iload_n dX11_actOf_261 rfl ?_
                        refine WP_callV2 (k := 11) dX11_actOf_262 ⟨⟨⟨by decide, by decide⟩, zX11_costAt⟩, lX11_402, by decide, rfl, vX11_costAt.1, vX11_costAt.2⟩ (ly_is hy 0 11 rfl) (sm_costx hy hr hI w4149 da (by omega) (by omega) (by omega) (by omega)) (Nat.le_of_ble_eq_true rfl) ?_
                        intro r Ia Ja Ra hq
                        obtain ⟨⟨ea, eb, ec⟩, v4333, rfl, av4333, bv4333, cv4333⟩ := hq
                        show WP _ _ _ _ (.int _ :: _) _ _ _ _
                        rw [ea, eb, ec]
                        clear ea eb ec Ia Ja Ra
                        refine WP_callS3 dX11_actOf_265 ⟨⟨⟨by decide, by decide⟩, zX11_canBuy⟩, lX11_446, tX11_canBuy⟩ (sm_canBuyx hy hr hI v4330 v4332 v4333 (by omega) (by omega) (by omega) (by omega) (by omega) (by omega)) (Nat.le_of_ble_eq_true rfl) ?_
                        intro r Ia Ja Ra hq
                        obtain ⟨⟨ea, eb, ec⟩, v4334, rfl, av4334, bv4334, cv4334⟩ := hq
                        show WP _ _ _ _ (.int _ :: _) _ _ _ _
                        rw [ea, eb, ec]
                        clear ea eb ec Ia Ja Ra
                        refine WP_istore (ls' := [(0, _), (1, _), (2, _), (3, _), (4, _), (5, _), (6, _), (7, _), (8, _), (9, _), (10, _), (11, _), (12, _), (13, _), (14, _), (15, _)]) dX11_actOf_268 (by decide) rfl ?_
                        refine WQ_bipush (16) (16) dX11_actOf_270 rfl rfl (fun v4335 hv4335 => ?_)
                        refine WP_iload dX11_actOf_272 rfl ?_
                        refine WQ_imulK (16) dX11_actOf_274 hv4335 (by omega) (by omega) (fun v4336 hv4336 => ?_)
                        refine WQ_iconst (4) (4) dX11_actOf_275 rfl rfl (fun v4337 hv4337 => ?_)
                        refine WP_iload dX11_actOf_276 rfl ?_
                        refine WQ_imulK (4) dX11_actOf_278 hv4337 (by omega) (by omega) (fun v4338 hv4338 => ?_)
                        refine WQ_iadd dX11_actOf_279 (by omega) (by omega) (fun v4339 hv4339 => ?_)
                        refine WP_iload dX11_actOf_280 rfl ?_
                        refine WQ_iadd dX11_actOf_282 (by omega) (by omega) (fun v4340 hv4340 => ?_)
                        exact WP_iret dX11_actOf_283 rfl ⟨⟨hI, rfl, fr0, rfl, ⟨trivial, rfl, rfl, rfl⟩⟩, _, rfl, by omega, by omega, (by
                            unfold AM
                            rw [euu, show I (ad g 24) (7 * so.toInt + da.toInt).toNat = v4176 by rw [← cl (x := v4154) (n := (7 * so.toInt + da.toInt).toNat) (by omega)]; exact ev4176, ew4149, ← cv4177]
                            have k1 : v4293.toInt * v4177.toInt ≤ co.toInt := (by rw [show v4293.toInt = 0 by omega, Int.zero_mul]; omega)
                            have k3 : v4293.toInt * v4177.toInt = 0 := (by rw [show v4293.toInt = 0 by omega, Int.zero_mul])
                            have k2 := cv4334.2
                            rw [← cv4333]
                            exact AOKm_set (s := v4334.toInt) (f := v4297.toInt) (e := v4293.toInt) (by omega) (by omega) (by omega) (by omega) (by omega) (by omega) (by omega) (by omega) (by omega) (by omega))⟩
                  refine WQ_if_eq 209 dX11_actOf_193 rfl (fun c4340 => ?_) (fun c4340 => ?_)
                  · refine WQ_iconst (1) (1) dX11_actOf_209 rfl rfl (fun v4342 hv4342 => ?_)
                    refine WP_goto 214 dX11_actOf_210 rfl ?_
                    exact WP_sub (fc rfl (fc rfl (fc rfl (fc rfl (fc rfl (fc rfl (fc rfl (fc rfl (fc rfl (fc rfl (fc rfl (fc rfl (fc rfl (fc rfl fn)))))))))))))) (jn214_4307 v4342 (by omega) (by omega))
                  · refine WP_iload_n dX11_actOf_196 rfl ?_
                    refine WQ_iconst (2) (2) dX11_actOf_197 rfl rfl (fun v4343 hv4343 => ?_)
                    refine WQ_icmp_ne 213 dX11_actOf_198 rfl (fun c4343 => ?_) (fun c4343 => ?_)
                    · refine WQ_iconst (0) (0) dX11_actOf_213 rfl rfl (fun v4345 hv4345 => ?_)
                      exact WP_sub (fc rfl (fc rfl (fc rfl (fc rfl (fc rfl (fc rfl (fc rfl (fc rfl (fc rfl (fc rfl (fc rfl (fc rfl (fc rfl (fc rfl fn)))))))))))))) (jn214_4307 v4345 (by omega) (by omega))
                    · refine WP_aload_n dX11_actOf_201 rfl ?_
                      refine WP_iload_n dX11_actOf_202 rfl ?_
                      refine WP_callV1 (k := 11) dX11_actOf_203 ⟨⟨⟨by decide, by decide⟩, zX11_loses⟩, lX11_414, by decide, rfl, vX11_loses.1, vX11_loses.2⟩ (ly_is hy 0 11 rfl) (sm_loses2 hy hr hI da (by omega) (by omega)) (Nat.le_of_ble_eq_true rfl) ?_
                      intro r Ia Ja Ra hq
                      obtain ⟨⟨ea, eb, ec⟩, v4346, rfl, av4346, bv4346⟩ := hq
                      show WP _ _ _ _ (.int _ :: _) _ _ _ _
                      rw [ea, eb, ec]
                      clear ea eb ec Ia Ja Ra
                      refine WQ_if_le 213 dX11_actOf_206 rfl (fun c4346 => ?_) (fun c4346 => ?_)
                      · refine WQ_iconst (0) (0) dX11_actOf_213 rfl rfl (fun v4348 hv4348 => ?_)
                        exact WP_sub (fc rfl (fc rfl (fc rfl (fc rfl (fc rfl (fc rfl (fc rfl (fc rfl (fc rfl (fc rfl (fc rfl (fc rfl (fc rfl (fc rfl fn)))))))))))))) (jn214_4307 v4348 (by omega) (by omega))
                      · refine WQ_iconst (1) (1) dX11_actOf_209 rfl rfl (fun v4349 hv4349 => ?_)
                        refine WP_goto 214 dX11_actOf_210 rfl ?_
                        exact WP_sub (fc rfl (fc rfl (fc rfl (fc rfl (fc rfl (fc rfl (fc rfl (fc rfl (fc rfl (fc rfl (fc rfl (fc rfl (fc rfl (fc rfl fn)))))))))))))) (jn214_4307 v4349 (by omega) (by omega))
                refine WQ_icmp_ne 180 dX11_actOf_172 rfl (fun c4349 => ?_) (fun c4349 => ?_)
                · refine WP_iload dX11_actOf_180 rfl ?_
                  refine WP_iload dX11_actOf_182 rfl ?_
                  refine WQ_isub dX11_actOf_184 (by omega) (by omega) (fun v4351 hv4351 => ?_)
                  refine WP_iload dX11_actOf_185 rfl ?_
                  refine WQ_min dX11_actOf_187 lX11_417 ⟨by decide, Nat.le_of_ble_eq_true rfl⟩ (fun v4352 av4352 bv4352 cv4352 => ?_)
                  exact WP_sub (fc rfl (fc rfl (fc rfl (fc rfl (fc rfl (fc rfl (fc rfl (fc rfl (fc rfl (fc rfl (fc rfl (fc rfl (fc rfl fn))))))))))))) (jn190_4297 v4352 (by omega) (by omega) (by omega) (by omega))
                · refine WP_iload dX11_actOf_175 rfl ?_
                  refine WP_goto 190 dX11_actOf_177 rfl ?_
                  exact WP_sub (fc rfl (fc rfl (fc rfl (fc rfl (fc rfl (fc rfl (fc rfl (fc rfl (fc rfl (fc rfl (fc rfl (fc rfl (fc rfl fn))))))))))))) (jn190_4297 v4180 (by omega) (by omega) (by omega) (by omega))
          refine WQ_if_eq 129 dX11_actOf_116 rfl (fun c4352 => ?_) (fun c4352 => ?_)
          · refine WQ_iconst (0) (0) dX11_actOf_129 rfl rfl (fun v4354 hv4354 => ?_)
            exact WP_sub (fc rfl (fc rfl (fc rfl (fc rfl (fc rfl (fc rfl (fc rfl (fc rfl (fc rfl (fc rfl (fc rfl fn))))))))))) (jn130_4180 v4354 (by omega) (by omega) (by omega) (by omega))
          · refine WP_iload dX11_actOf_119 rfl ?_
            refine WP_iload dX11_actOf_121 rfl ?_
            refine WQ_min dX11_actOf_123 lX11_417 ⟨by decide, Nat.le_of_ble_eq_true rfl⟩ (fun v4355 av4355 bv4355 cv4355 => ?_)
            refine WP_goto 130 dX11_actOf_126 rfl ?_
            exact WP_sub (fc rfl (fc rfl (fc rfl (fc rfl (fc rfl (fc rfl (fc rfl (fc rfl (fc rfl (fc rfl (fc rfl fn))))))))))) (jn130_4180 v4355 (by omega) (by omega) (by omega) (by omega))
        · refine WP_aload_n dX11_actOf_76 rfl ?_
          refine WP_iload_n dX11_actOf_77 rfl ?_
          refine WP_iload_n dX11_actOf_78 rfl ?_
          refine WP_callV2 (k := 11) dX11_actOf_79 ⟨⟨⟨by decide, by decide⟩, zX11_findWeek⟩, lX11_442, by decide, rfl, vX11_findWeek.1, vX11_findWeek.2⟩ (ly_is hy 0 11 rfl) (sm_findWeek hy hr hI so da (by omega) (by omega) (by omega) (by omega)) (Nat.le_of_ble_eq_true rfl) ?_
          intro r I4356 J4357 Ra hq
          obtain ⟨⟨hI4356, ec, fiI4356, ejI4356, ⟨pI4356, sI4356_0_10, sI4356_0_14, sI4356_0_68⟩⟩, rfl⟩ := hq
          rw [ec]
          clear ec Ra
          have fr4358 : fz 49 g [0, 35, 36, 37] I I4356 := fz_tr fr0 (fz_mono fiI4356 (by decide))
          rw [ejI4356]
          clear ejI4356 J4357
          have e4359 : I4356 (ad g 0) 10 = w4150 := by rw [sI4356_0_10]; exact ew4150
          have e4360 : I4356 (ad g 0) 14 = w4149 := by rw [sI4356_0_14]; exact ew4149
          have e4361 : I4356 (ad g 0) 68 = w4151 := by rw [sI4356_0_68]; exact ew4151
          have e4362 : I4356 (ad g 11) so.toNatClampNeg = v4156 := by rw [fz_at fiI4356 11 (by decide) (by decide)]; exact ev4156
          have e4363 : I4356 (ad g 0) 1 = L := hI4356.1.2
          have b4364 := BT_get hI4356.1.1 0 1 2 (0) (0) (900) (by decide) 1 (by decide) (by decide)
          rw [e4363] at b4364
          refine WP_aload_n dX11_actOf_82 rfl ?_
          refine WP_iload_n dX11_actOf_83 rfl ?_
          refine WP_iload_n dX11_actOf_84 rfl ?_
          refine WP_iload dX11_actOf_85 rfl ?_
          refine WP_iload dX11_actOf_87 rfl ?_
          refine WQ_bipush (7) (7) dX11_actOf_89 rfl rfl (fun v4365 hv4365 => ?_)
          refine WP_callV5 (k := 11) dX11_actOf_91 ⟨⟨⟨by decide, by decide⟩, zX11_bestFrom⟩, lX11_429, by decide, rfl, vX11_bestFrom.1, vX11_bestFrom.2⟩ (ly_is hy 0 11 rfl) (sm_bestFrom hy hr hI4356 so da co st v4365 (by omega) (by omega) (by omega) (by omega) (by omega) (by omega) (by omega) (by omega) (by omega) (by omega)) (Nat.le_of_ble_eq_true rfl) ?_
          intro r I4366 J4367 Ra hq
          obtain ⟨⟨hI4366, ec, fiI4366, ejI4366, ⟨pI4366, sI4366_0_10, sI4366_0_14, sI4366_0_68⟩⟩, v4368, rfl, av4368, bv4368, cv4368⟩ := hq
          show WP _ _ _ _ (.int _ :: _) _ _ _ _
          rw [ec]
          clear ec Ra
          have fr4369 : fz 49 g [0, 35, 36, 37] I I4366 := fz_tr fr4358 (fz_mono fiI4366 (by decide))
          rw [ejI4366]
          clear ejI4366 J4367
          have e4370 : I4366 (ad g 0) 10 = w4150 := by rw [sI4366_0_10]; exact e4359
          have e4371 : I4366 (ad g 0) 14 = w4149 := by rw [sI4366_0_14]; exact e4360
          have e4372 : I4366 (ad g 0) 68 = w4151 := by rw [sI4366_0_68]; exact e4361
          have e4373 : I4366 (ad g 11) so.toNatClampNeg = v4156 := by rw [fz_at fiI4366 11 (by decide) (by decide)]; exact e4362
          have e4374 : I4366 (ad g 0) 1 = L := hI4366.1.2
          have b4375 := BT_get hI4366.1.1 0 1 2 (0) (0) (900) (by decide) 1 (by decide) (by decide)
          rw [e4374] at b4375
          obtain ⟨w4376, ew4376⟩ : ∃ w : Int32, I4366 (ad g 0) 56 = w := ⟨_, rfl⟩
          have bw4376 := BT_get hI4366.1.1 0 56 57 (0) (0) (47) (by decide) 56 (by decide) (by decide)
          rw [ew4376] at bw4376
          have amI4366 := pI4366
          rw [fz_at fr4358 22 (by decide) (by decide), fz_at fr4358 24 (by decide) (by decide), fz_at fr4358 25 (by decide) (by decide), e4360, ew4376] at amI4366
          refine WP_pop dX11_actOf_94 rfl ?_
          refine WP_aload_n dX11_actOf_95 rfl ?_
          refine WQ_getim dX11_actOf_96 fX11_423 rfl (ly_is hy 0 11 rfl) ew4376 ?_
          exact WP_iret dX11_actOf_99 rfl ⟨⟨hI4366, rfl, fr4369, rfl, ⟨trivial, (by rw [e4370, ew4150] <;> exact (eq32 _ _).mpr (by omega)), (by rw [e4371, ew4149] <;> exact (eq32 _ _).mpr (by omega)), (by rw [e4372, ew4151] <;> exact (eq32 _ _).mpr (by omega))⟩⟩, _, rfl, by omega, by omega, (by rw [ew4149]; exact amI4366)⟩
      · refine WQ_iconst (0) (0) dX11_actOf_69 rfl rfl (fun v4377 hv4377 => ?_)
        exact WP_iret dX11_actOf_70 rfl ⟨⟨hI, rfl, fr0, rfl, ⟨trivial, rfl, rfl, rfl⟩⟩, _, rfl, by omega, by omega, (by unfold AM; exact AOKm_set (s := 0) (f := 0) (e := 0) (by omega) (by omega) (by omega) (by omega) (by omega) (by omega) (by omega) (by rw [Int.zero_mul, Int.zero_mul]; omega) (by rw [euu]; omega) (Or.inl rfl))⟩
    refine WQ_if_le 61 dX11_actOf_40 rfl (fun c4377 => ?_) (fun c4377 => ?_)
    · refine WQ_iconst (0) (0) dX11_actOf_61 rfl rfl (fun v4379 hv4379 => ?_)
      exact WP_sub (fc rfl (fc rfl (fc rfl (fc rfl (fc rfl (fc rfl (fc rfl (fc rfl (fc rfl fn))))))))) (jn62_4170 v4379 (by omega) (by omega))
    · refine WP_aload_n dX11_actOf_43 rfl ?_
      refine WP_getr dX11_actOf_44 fX11_261 rfl (ly_is hy 0 11 rfl) (rf hr 0 42 24 (by decide)) ?_
      refine WP_iload dX11_actOf_47 rfl ?_
      refine WQ_iald dX11_actOf_49 (ly_is hy 24 13 rfl) (ly_n hy 24 28 rfl) (by omega) (by omega) (fun q hq => BT_get hI.1.1 24 0 28 (-1) (0) (2) (by decide) q (Nat.zero_le _) hq) (fun v4380 av4380 bv4380 ev4380 => ?_)
      refine WP_aload_n dX11_actOf_50 rfl ?_
      refine WQ_getim dX11_actOf_51 fX11_224 rfl (ly_is hy 0 11 rfl) ew4149 ?_
      refine WQ_icmp_ne 61 dX11_actOf_54 rfl (fun c4380 => ?_) (fun c4380 => ?_)
      · refine WQ_iconst (0) (0) dX11_actOf_61 rfl rfl (fun v4382 hv4382 => ?_)
        exact WP_sub (fc rfl (fc rfl (fc rfl (fc rfl (fc rfl (fc rfl (fc rfl (fc rfl (fc rfl fn))))))))) (jn62_4170 v4382 (by omega) (by omega))
      · refine WQ_iconst (1) (1) dX11_actOf_57 rfl rfl (fun v4383 hv4383 => ?_)
        refine WP_goto 62 dX11_actOf_58 rfl ?_
        exact WP_sub (fc rfl (fc rfl (fc rfl (fc rfl (fc rfl (fc rfl (fc rfl (fc rfl (fc rfl fn))))))))) (jn62_4170 v4383 (by omega) (by omega))
  refine WQ_icmp_ne 35 dX11_actOf_28 rfl (fun c4383 => ?_) (fun c4383 => ?_)
  · refine WQ_iconst (0) (0) dX11_actOf_35 rfl rfl (fun v4385 hv4385 => ?_)
    exact WP_sub (fc rfl (fc rfl (fc rfl (fc rfl (fc rfl (fc rfl (fc rfl (fc rfl fn)))))))) (jn36_4163 v4385 (by omega) (by omega))
  · refine WQ_iconst (1) (1) dX11_actOf_31 rfl rfl (fun v4386 hv4386 => ?_)
    refine WP_goto 36 dX11_actOf_32 rfl ?_
    exact WP_sub (fc rfl (fc rfl (fc rfl (fc rfl (fc rfl (fc rfl (fc rfl (fc rfl fn)))))))) (jn36_4163 v4386 (by omega) (by omega))
