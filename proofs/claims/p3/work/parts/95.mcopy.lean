set_option maxHeartbeats 4000000 in
set_option maxRecDepth 100000 in
theorem sm_copy_6_7 {g : GG} {n : Int} {L : Int32} (hy : Ly g)  {I : pI} {J : pJ} {R : pR} (hr : Rf g R) (hI : MP g n L I)   : SP g mX11_copy [.ref (ad g 6), .ref (ad g 7)] I J R (fun r I' J' R' => (MP g n L I' ∧ R' = R) ∧ r = none) := by
  refine SP_of ⟨by decide, rfl⟩ (Nat.le_of_ble_eq_true rfl) ?_
  have e3955 : I (ad g 0) 1 = L := hI.1.2
  have b3956 := BT_get hI.1.1 0 1 2 (0) (0) (900) (by decide) 1 (by decide) (by decide)
  rw [e3955] at b3956
  refine WQ_iconst (0) (0) dX11_copy_0 rfl rfl (fun v3957 hv3957 => ?_)
  refine WP_istore_n (ls' := [(0, _), (1, _), (2, _)]) dX11_copy_1 (by decide) rfl ?_
  have lp2_3960 : ∀ (mz : Nat) (i3958 : Int32) (I3959 : pI) (J3960 : pJ), MP g n L I3959 → 0 ≤ i3958.toInt → i3958.toInt ≤ 7 → (8 - i3958.toInt).toNat < mz → WP g mX11_copy 2 [(0, .ref (ad g 6)), (1, .ref (ad g 7)), (2, .int i3958)] [] I3959 J3960 R (fun r I' J' R' => (MP g n L I' ∧ R' = R) ∧ r = none) := by
    intro mz
    induction mz with
    | zero =>
      intro i3958 I3959 J3960 hI3959 ai3958 bi3958 hmlp2_3960
      exact absurd hmlp2_3960 (Nat.not_lt_zero _)
    | succ mz ihlp2_3960 =>
      intro i3958 I3959 J3960 hI3959 ai3958 bi3958 hmlp2_3960
      have e3962 : I3959 (ad g 0) 1 = L := hI3959.1.2
      have b3963 := BT_get hI3959.1.1 0 1 2 (0) (0) (900) (by decide) 1 (by decide) (by decide)
      rw [e3962] at b3963
      refine WP_iload_n dX11_copy_2 rfl ?_
      refine WP_aload_n dX11_copy_3 rfl ?_
      refine WP_alen dX11_copy_4 (ly_is hy 6 13 rfl) (by decide) ?_
      rw [(ly_n hy 6 7 rfl)]
      obtain ⟨v3964, hv3964, ev3964⟩ : ∃ v : Int32, v.toInt = 7 ∧ nI 7 = v := ⟨_, nI_toInt (by decide), rfl⟩
      rw [ev3964]; clear ev3964
      refine WQ_icmp_ge 20 dX11_copy_5 rfl (fun c3964 => ?_) (fun c3964 => ?_)
      · exact WP_vret dX11_copy_20 rfl ⟨⟨hI3959, rfl⟩, rfl⟩
      · refine WP_aload_n dX11_copy_8 rfl ?_
        refine WP_iload_n dX11_copy_9 rfl ?_
        refine WP_aload_n dX11_copy_10 rfl ?_
        refine WP_iload_n dX11_copy_11 rfl ?_
        refine WQ_iald dX11_copy_12 (ly_is hy 7 13 rfl) (ly_n hy 7 7 rfl) (by omega) (by omega) (fun q hq => BT_get hI3959.1.1 7 0 7 (0) (0) (900) (by decide) q (Nat.zero_le _) hq) (fun v3966 av3966 bv3966 ev3966 => ?_)
        clear ev3966
        refine WQ_iast dX11_copy_13 (ly_is hy 6 13 rfl) (ly_n hy 6 7 rfl) (by omega) (by omega) (fun I3967 eI3967 => ?_)
        have hI3967 : MP g n L I3967 := by rw [eI3967]; exact (mp_w hy hI3959 (c := 6) (mi_r hy hI3959.1 (c := 6) (0) (0) (900) (by decide) (Or.inl (by decide)) (by decide) (by omega) (by omega)) (by decide) (by decide) (Or.inl (by decide)))
        have e3968 : I3967 (ad g 0) 1 = L := by rw [eI3967, pp_ne _ _ (Or.inl (ly_ne hy (by decide) (by decide) (by decide)))]; exact e3962
        clear eI3967
        refine WP_iinc (ls' := [(0, _), (1, _), (2, _)]) dX11_copy_14 rfl (by decide) rfl ?_
        have hv3969 : (i3958 + Int32.ofInt (1)).toInt = i3958.toInt + (1) := ia_n rfl (by omega) (by omega)
        generalize i3958 + Int32.ofInt (1) = v3969 at hv3969 ⊢
        refine WP_goto 2 dX11_copy_17 rfl ?_
        exact WP_sub (fc rfl (fc rfl (fc rfl fn))) (ihlp2_3960 v3969 I3967 J3960 hI3967 (by omega) (by omega) (by omega))
  exact WP_sub (fc rfl (fc rfl (fc rfl fn))) (lp2_3960 _ v3957 I J hI (by omega) (by omega) (Nat.lt_succ_self _))
set_option maxHeartbeats 4000000 in
set_option maxRecDepth 100000 in
theorem sm_copy_9_15 {g : GG} {n : Int} {L : Int32} (hy : Ly g)  {I : pI} {J : pJ} {R : pR} (hr : Rf g R) (hI : MP g n L I)   : SP g mX11_copy [.ref (ad g 9), .ref (ad g 15)] I J R (fun r I' J' R' => (MP g n L I' ∧ R' = R) ∧ r = none) := by
  refine SP_of ⟨by decide, rfl⟩ (Nat.le_of_ble_eq_true rfl) ?_
  have e3970 : I (ad g 0) 1 = L := hI.1.2
  have b3971 := BT_get hI.1.1 0 1 2 (0) (0) (900) (by decide) 1 (by decide) (by decide)
  rw [e3970] at b3971
  refine WQ_iconst (0) (0) dX11_copy_0 rfl rfl (fun v3972 hv3972 => ?_)
  refine WP_istore_n (ls' := [(0, _), (1, _), (2, _)]) dX11_copy_1 (by decide) rfl ?_
  have lp2_3975 : ∀ (mz : Nat) (i3973 : Int32) (I3974 : pI) (J3975 : pJ), MP g n L I3974 → 0 ≤ i3973.toInt → i3973.toInt ≤ 4 → (5 - i3973.toInt).toNat < mz → WP g mX11_copy 2 [(0, .ref (ad g 9)), (1, .ref (ad g 15)), (2, .int i3973)] [] I3974 J3975 R (fun r I' J' R' => (MP g n L I' ∧ R' = R) ∧ r = none) := by
    intro mz
    induction mz with
    | zero =>
      intro i3973 I3974 J3975 hI3974 ai3973 bi3973 hmlp2_3975
      exact absurd hmlp2_3975 (Nat.not_lt_zero _)
    | succ mz ihlp2_3975 =>
      intro i3973 I3974 J3975 hI3974 ai3973 bi3973 hmlp2_3975
      have e3977 : I3974 (ad g 0) 1 = L := hI3974.1.2
      have b3978 := BT_get hI3974.1.1 0 1 2 (0) (0) (900) (by decide) 1 (by decide) (by decide)
      rw [e3977] at b3978
      refine WP_iload_n dX11_copy_2 rfl ?_
      refine WP_aload_n dX11_copy_3 rfl ?_
      refine WP_alen dX11_copy_4 (ly_is hy 9 13 rfl) (by decide) ?_
      rw [(ly_n hy 9 4 rfl)]
      obtain ⟨v3979, hv3979, ev3979⟩ : ∃ v : Int32, v.toInt = 4 ∧ nI 4 = v := ⟨_, nI_toInt (by decide), rfl⟩
      rw [ev3979]; clear ev3979
      refine WQ_icmp_ge 20 dX11_copy_5 rfl (fun c3979 => ?_) (fun c3979 => ?_)
      · exact WP_vret dX11_copy_20 rfl ⟨⟨hI3974, rfl⟩, rfl⟩
      · refine WP_aload_n dX11_copy_8 rfl ?_
        refine WP_iload_n dX11_copy_9 rfl ?_
        refine WP_aload_n dX11_copy_10 rfl ?_
        refine WP_iload_n dX11_copy_11 rfl ?_
        refine WQ_iald dX11_copy_12 (ly_is hy 15 13 rfl) (ly_n hy 15 4 rfl) (by omega) (by omega) (fun q hq => BT_get hI3974.1.1 15 0 4 (0) (0) (1000) (by decide) q (Nat.zero_le _) hq) (fun v3981 av3981 bv3981 ev3981 => ?_)
        clear ev3981
        refine WQ_iast dX11_copy_13 (ly_is hy 9 13 rfl) (ly_n hy 9 4 rfl) (by omega) (by omega) (fun I3982 eI3982 => ?_)
        have hI3982 : MP g n L I3982 := by rw [eI3982]; exact (mp_w hy hI3974 (c := 9) (mi_r hy hI3974.1 (c := 9) (0) (0) (1000) (by decide) (Or.inl (by decide)) (by decide) (by omega) (by omega)) (by decide) (by decide) (Or.inl (by decide)))
        have e3983 : I3982 (ad g 0) 1 = L := by rw [eI3982, pp_ne _ _ (Or.inl (ly_ne hy (by decide) (by decide) (by decide)))]; exact e3977
        clear eI3982
        refine WP_iinc (ls' := [(0, _), (1, _), (2, _)]) dX11_copy_14 rfl (by decide) rfl ?_
        have hv3984 : (i3973 + Int32.ofInt (1)).toInt = i3973.toInt + (1) := ia_n rfl (by omega) (by omega)
        generalize i3973 + Int32.ofInt (1) = v3984 at hv3984 ⊢
        refine WP_goto 2 dX11_copy_17 rfl ?_
        exact WP_sub (fc rfl (fc rfl (fc rfl fn))) (ihlp2_3975 v3984 I3982 J3975 hI3982 (by omega) (by omega) (by omega))
  exact WP_sub (fc rfl (fc rfl (fc rfl fn))) (lp2_3975 _ v3972 I J hI (by omega) (by omega) (Nat.lt_succ_self _))
set_option maxHeartbeats 4000000 in
set_option maxRecDepth 100000 in
theorem sm_copy_10_16 {g : GG} {n : Int} {L : Int32} (hy : Ly g)  {I : pI} {J : pJ} {R : pR} (hr : Rf g R) (hI : MP g n L I)   : SP g mX11_copy [.ref (ad g 10), .ref (ad g 16)] I J R (fun r I' J' R' => (MP g n L I' ∧ R' = R) ∧ r = none) := by
  refine SP_of ⟨by decide, rfl⟩ (Nat.le_of_ble_eq_true rfl) ?_
  have e3985 : I (ad g 0) 1 = L := hI.1.2
  have b3986 := BT_get hI.1.1 0 1 2 (0) (0) (900) (by decide) 1 (by decide) (by decide)
  rw [e3985] at b3986
  refine WQ_iconst (0) (0) dX11_copy_0 rfl rfl (fun v3987 hv3987 => ?_)
  refine WP_istore_n (ls' := [(0, _), (1, _), (2, _)]) dX11_copy_1 (by decide) rfl ?_
  have lp2_3990 : ∀ (mz : Nat) (i3988 : Int32) (I3989 : pI) (J3990 : pJ), MP g n L I3989 → 0 ≤ i3988.toInt → i3988.toInt ≤ 4 → (5 - i3988.toInt).toNat < mz → WP g mX11_copy 2 [(0, .ref (ad g 10)), (1, .ref (ad g 16)), (2, .int i3988)] [] I3989 J3990 R (fun r I' J' R' => (MP g n L I' ∧ R' = R) ∧ r = none) := by
    intro mz
    induction mz with
    | zero =>
      intro i3988 I3989 J3990 hI3989 ai3988 bi3988 hmlp2_3990
      exact absurd hmlp2_3990 (Nat.not_lt_zero _)
    | succ mz ihlp2_3990 =>
      intro i3988 I3989 J3990 hI3989 ai3988 bi3988 hmlp2_3990
      have e3992 : I3989 (ad g 0) 1 = L := hI3989.1.2
      have b3993 := BT_get hI3989.1.1 0 1 2 (0) (0) (900) (by decide) 1 (by decide) (by decide)
      rw [e3992] at b3993
      refine WP_iload_n dX11_copy_2 rfl ?_
      refine WP_aload_n dX11_copy_3 rfl ?_
      refine WP_alen dX11_copy_4 (ly_is hy 10 13 rfl) (by decide) ?_
      rw [(ly_n hy 10 4 rfl)]
      obtain ⟨v3994, hv3994, ev3994⟩ : ∃ v : Int32, v.toInt = 4 ∧ nI 4 = v := ⟨_, nI_toInt (by decide), rfl⟩
      rw [ev3994]; clear ev3994
      refine WQ_icmp_ge 20 dX11_copy_5 rfl (fun c3994 => ?_) (fun c3994 => ?_)
      · exact WP_vret dX11_copy_20 rfl ⟨⟨hI3989, rfl⟩, rfl⟩
      · refine WP_aload_n dX11_copy_8 rfl ?_
        refine WP_iload_n dX11_copy_9 rfl ?_
        refine WP_aload_n dX11_copy_10 rfl ?_
        refine WP_iload_n dX11_copy_11 rfl ?_
        refine WQ_iald dX11_copy_12 (ly_is hy 16 13 rfl) (ly_n hy 16 4 rfl) (by omega) (by omega) (fun q hq => BT_get hI3989.1.1 16 0 4 (0) (0) (60) (by decide) q (Nat.zero_le _) hq) (fun v3996 av3996 bv3996 ev3996 => ?_)
        clear ev3996
        refine WQ_iast dX11_copy_13 (ly_is hy 10 13 rfl) (ly_n hy 10 4 rfl) (by omega) (by omega) (fun I3997 eI3997 => ?_)
        have hI3997 : MP g n L I3997 := by rw [eI3997]; exact (mp_w hy hI3989 (c := 10) (mi_r hy hI3989.1 (c := 10) (0) (0) (60) (by decide) (Or.inl (by decide)) (by decide) (by omega) (by omega)) (by decide) (by decide) (Or.inl (by decide)))
        have e3998 : I3997 (ad g 0) 1 = L := by rw [eI3997, pp_ne _ _ (Or.inl (ly_ne hy (by decide) (by decide) (by decide)))]; exact e3992
        clear eI3997
        refine WP_iinc (ls' := [(0, _), (1, _), (2, _)]) dX11_copy_14 rfl (by decide) rfl ?_
        have hv3999 : (i3988 + Int32.ofInt (1)).toInt = i3988.toInt + (1) := ia_n rfl (by omega) (by omega)
        generalize i3988 + Int32.ofInt (1) = v3999 at hv3999 ⊢
        refine WP_goto 2 dX11_copy_17 rfl ?_
        exact WP_sub (fc rfl (fc rfl (fc rfl fn))) (ihlp2_3990 v3999 I3997 J3990 hI3997 (by omega) (by omega) (by omega))
  exact WP_sub (fc rfl (fc rfl (fc rfl fn))) (lp2_3990 _ v3987 I J hI (by omega) (by omega) (Nat.lt_succ_self _))
set_option maxHeartbeats 4000000 in
set_option maxRecDepth 100000 in
theorem sm_copy_11_17 {g : GG} {n : Int} {L : Int32} (hy : Ly g)  {I : pI} {J : pJ} {R : pR} (hr : Rf g R) (hI : MP g n L I)   : SP g mX11_copy [.ref (ad g 11), .ref (ad g 17)] I J R (fun r I' J' R' => (MP g n L I' ∧ R' = R) ∧ r = none) := by
  refine SP_of ⟨by decide, rfl⟩ (Nat.le_of_ble_eq_true rfl) ?_
  have e4000 : I (ad g 0) 1 = L := hI.1.2
  have b4001 := BT_get hI.1.1 0 1 2 (0) (0) (900) (by decide) 1 (by decide) (by decide)
  rw [e4000] at b4001
  refine WQ_iconst (0) (0) dX11_copy_0 rfl rfl (fun v4002 hv4002 => ?_)
  refine WP_istore_n (ls' := [(0, _), (1, _), (2, _)]) dX11_copy_1 (by decide) rfl ?_
  have lp2_4005 : ∀ (mz : Nat) (i4003 : Int32) (I4004 : pI) (J4005 : pJ), MP g n L I4004 → 0 ≤ i4003.toInt → i4003.toInt ≤ 4 → (5 - i4003.toInt).toNat < mz → WP g mX11_copy 2 [(0, .ref (ad g 11)), (1, .ref (ad g 17)), (2, .int i4003)] [] I4004 J4005 R (fun r I' J' R' => (MP g n L I' ∧ R' = R) ∧ r = none) := by
    intro mz
    induction mz with
    | zero =>
      intro i4003 I4004 J4005 hI4004 ai4003 bi4003 hmlp2_4005
      exact absurd hmlp2_4005 (Nat.not_lt_zero _)
    | succ mz ihlp2_4005 =>
      intro i4003 I4004 J4005 hI4004 ai4003 bi4003 hmlp2_4005
      have e4007 : I4004 (ad g 0) 1 = L := hI4004.1.2
      have b4008 := BT_get hI4004.1.1 0 1 2 (0) (0) (900) (by decide) 1 (by decide) (by decide)
      rw [e4007] at b4008
      refine WP_iload_n dX11_copy_2 rfl ?_
      refine WP_aload_n dX11_copy_3 rfl ?_
      refine WP_alen dX11_copy_4 (ly_is hy 11 13 rfl) (by decide) ?_
      rw [(ly_n hy 11 4 rfl)]
      obtain ⟨v4009, hv4009, ev4009⟩ : ∃ v : Int32, v.toInt = 4 ∧ nI 4 = v := ⟨_, nI_toInt (by decide), rfl⟩
      rw [ev4009]; clear ev4009
      refine WQ_icmp_ge 20 dX11_copy_5 rfl (fun c4009 => ?_) (fun c4009 => ?_)
      · exact WP_vret dX11_copy_20 rfl ⟨⟨hI4004, rfl⟩, rfl⟩
      · refine WP_aload_n dX11_copy_8 rfl ?_
        refine WP_iload_n dX11_copy_9 rfl ?_
        refine WP_aload_n dX11_copy_10 rfl ?_
        refine WP_iload_n dX11_copy_11 rfl ?_
        refine WQ_iald dX11_copy_12 (ly_is hy 17 13 rfl) (ly_n hy 17 4 rfl) (by omega) (by omega) (fun q hq => BT_get hI4004.1.1 17 0 4 (0) (0) (127) (by decide) q (Nat.zero_le _) hq) (fun v4011 av4011 bv4011 ev4011 => ?_)
        clear ev4011
        refine WQ_iast dX11_copy_13 (ly_is hy 11 13 rfl) (ly_n hy 11 4 rfl) (by omega) (by omega) (fun I4012 eI4012 => ?_)
        have hI4012 : MP g n L I4012 := by rw [eI4012]; exact (mp_w hy hI4004 (c := 11) (mi_r hy hI4004.1 (c := 11) (0) (0) (127) (by decide) (Or.inl (by decide)) (by decide) (by omega) (by omega)) (by decide) (by decide) (Or.inl (by decide)))
        have e4013 : I4012 (ad g 0) 1 = L := by rw [eI4012, pp_ne _ _ (Or.inl (ly_ne hy (by decide) (by decide) (by decide)))]; exact e4007
        clear eI4012
        refine WP_iinc (ls' := [(0, _), (1, _), (2, _)]) dX11_copy_14 rfl (by decide) rfl ?_
        have hv4014 : (i4003 + Int32.ofInt (1)).toInt = i4003.toInt + (1) := ia_n rfl (by omega) (by omega)
        generalize i4003 + Int32.ofInt (1) = v4014 at hv4014 ⊢
        refine WP_goto 2 dX11_copy_17 rfl ?_
        exact WP_sub (fc rfl (fc rfl (fc rfl fn))) (ihlp2_4005 v4014 I4012 J4005 hI4012 (by omega) (by omega) (by omega))
  exact WP_sub (fc rfl (fc rfl (fc rfl fn))) (lp2_4005 _ v4002 I J hI (by omega) (by omega) (Nat.lt_succ_self _))
set_option maxHeartbeats 4000000 in
set_option maxRecDepth 100000 in
theorem sm_copy_12_18 {g : GG} {n : Int} {L : Int32} (hy : Ly g)  {I : pI} {J : pJ} {R : pR} (hr : Rf g R) (hI : MP g n L I)   : SP g mX11_copy [.ref (ad g 12), .ref (ad g 18)] I J R (fun r I' J' R' => (MP g n L I' ∧ R' = R) ∧ r = none) := by
  refine SP_of ⟨by decide, rfl⟩ (Nat.le_of_ble_eq_true rfl) ?_
  have e4015 : I (ad g 0) 1 = L := hI.1.2
  have b4016 := BT_get hI.1.1 0 1 2 (0) (0) (900) (by decide) 1 (by decide) (by decide)
  rw [e4015] at b4016
  refine WQ_iconst (0) (0) dX11_copy_0 rfl rfl (fun v4017 hv4017 => ?_)
  refine WP_istore_n (ls' := [(0, _), (1, _), (2, _)]) dX11_copy_1 (by decide) rfl ?_
  have lp2_4020 : ∀ (mz : Nat) (i4018 : Int32) (I4019 : pI) (J4020 : pJ), MP g n L I4019 → 0 ≤ i4018.toInt → i4018.toInt ≤ 3 → (4 - i4018.toInt).toNat < mz → WP g mX11_copy 2 [(0, .ref (ad g 12)), (1, .ref (ad g 18)), (2, .int i4018)] [] I4019 J4020 R (fun r I' J' R' => (MP g n L I' ∧ R' = R) ∧ r = none) := by
    intro mz
    induction mz with
    | zero =>
      intro i4018 I4019 J4020 hI4019 ai4018 bi4018 hmlp2_4020
      exact absurd hmlp2_4020 (Nat.not_lt_zero _)
    | succ mz ihlp2_4020 =>
      intro i4018 I4019 J4020 hI4019 ai4018 bi4018 hmlp2_4020
      have e4022 : I4019 (ad g 0) 1 = L := hI4019.1.2
      have b4023 := BT_get hI4019.1.1 0 1 2 (0) (0) (900) (by decide) 1 (by decide) (by decide)
      rw [e4022] at b4023
      refine WP_iload_n dX11_copy_2 rfl ?_
      refine WP_aload_n dX11_copy_3 rfl ?_
      refine WP_alen dX11_copy_4 (ly_is hy 12 13 rfl) (by decide) ?_
      rw [(ly_n hy 12 3 rfl)]
      obtain ⟨v4024, hv4024, ev4024⟩ : ∃ v : Int32, v.toInt = 3 ∧ nI 3 = v := ⟨_, nI_toInt (by decide), rfl⟩
      rw [ev4024]; clear ev4024
      refine WQ_icmp_ge 20 dX11_copy_5 rfl (fun c4024 => ?_) (fun c4024 => ?_)
      · exact WP_vret dX11_copy_20 rfl ⟨⟨hI4019, rfl⟩, rfl⟩
      · refine WP_aload_n dX11_copy_8 rfl ?_
        refine WP_iload_n dX11_copy_9 rfl ?_
        refine WP_aload_n dX11_copy_10 rfl ?_
        refine WP_iload_n dX11_copy_11 rfl ?_
        refine WQ_iald dX11_copy_12 (ly_is hy 18 13 rfl) (ly_n hy 18 3 rfl) (by omega) (by omega) (fun q hq => BT_get hI4019.1.1 18 0 3 (0) (0) (1000) (by decide) q (Nat.zero_le _) hq) (fun v4026 av4026 bv4026 ev4026 => ?_)
        clear ev4026
        refine WQ_iast dX11_copy_13 (ly_is hy 12 13 rfl) (ly_n hy 12 3 rfl) (by omega) (by omega) (fun I4027 eI4027 => ?_)
        have hI4027 : MP g n L I4027 := by rw [eI4027]; exact (mp_w hy hI4019 (c := 12) (mi_r hy hI4019.1 (c := 12) (0) (0) (1000) (by decide) (Or.inl (by decide)) (by decide) (by omega) (by omega)) (by decide) (by decide) (Or.inl (by decide)))
        have e4028 : I4027 (ad g 0) 1 = L := by rw [eI4027, pp_ne _ _ (Or.inl (ly_ne hy (by decide) (by decide) (by decide)))]; exact e4022
        clear eI4027
        refine WP_iinc (ls' := [(0, _), (1, _), (2, _)]) dX11_copy_14 rfl (by decide) rfl ?_
        have hv4029 : (i4018 + Int32.ofInt (1)).toInt = i4018.toInt + (1) := ia_n rfl (by omega) (by omega)
        generalize i4018 + Int32.ofInt (1) = v4029 at hv4029 ⊢
        refine WP_goto 2 dX11_copy_17 rfl ?_
        exact WP_sub (fc rfl (fc rfl (fc rfl fn))) (ihlp2_4020 v4029 I4027 J4020 hI4027 (by omega) (by omega) (by omega))
  exact WP_sub (fc rfl (fc rfl (fc rfl fn))) (lp2_4020 _ v4017 I J hI (by omega) (by omega) (Nat.lt_succ_self _))
set_option maxHeartbeats 4000000 in
set_option maxRecDepth 100000 in
theorem sm_copy_13_19 {g : GG} {n : Int} {L : Int32} (hy : Ly g)  {I : pI} {J : pJ} {R : pR} (hr : Rf g R) (hI : MP g n L I)   : SP g mX11_copy [.ref (ad g 13), .ref (ad g 19)] I J R (fun r I' J' R' => (MP g n L I' ∧ R' = R) ∧ r = none) := by
  refine SP_of ⟨by decide, rfl⟩ (Nat.le_of_ble_eq_true rfl) ?_
  have e4030 : I (ad g 0) 1 = L := hI.1.2
  have b4031 := BT_get hI.1.1 0 1 2 (0) (0) (900) (by decide) 1 (by decide) (by decide)
  rw [e4030] at b4031
  refine WQ_iconst (0) (0) dX11_copy_0 rfl rfl (fun v4032 hv4032 => ?_)
  refine WP_istore_n (ls' := [(0, _), (1, _), (2, _)]) dX11_copy_1 (by decide) rfl ?_
  have lp2_4035 : ∀ (mz : Nat) (i4033 : Int32) (I4034 : pI) (J4035 : pJ), MP g n L I4034 → 0 ≤ i4033.toInt → i4033.toInt ≤ 3 → (4 - i4033.toInt).toNat < mz → WP g mX11_copy 2 [(0, .ref (ad g 13)), (1, .ref (ad g 19)), (2, .int i4033)] [] I4034 J4035 R (fun r I' J' R' => (MP g n L I' ∧ R' = R) ∧ r = none) := by
    intro mz
    induction mz with
    | zero =>
      intro i4033 I4034 J4035 hI4034 ai4033 bi4033 hmlp2_4035
      exact absurd hmlp2_4035 (Nat.not_lt_zero _)
    | succ mz ihlp2_4035 =>
      intro i4033 I4034 J4035 hI4034 ai4033 bi4033 hmlp2_4035
      have e4037 : I4034 (ad g 0) 1 = L := hI4034.1.2
      have b4038 := BT_get hI4034.1.1 0 1 2 (0) (0) (900) (by decide) 1 (by decide) (by decide)
      rw [e4037] at b4038
      refine WP_iload_n dX11_copy_2 rfl ?_
      refine WP_aload_n dX11_copy_3 rfl ?_
      refine WP_alen dX11_copy_4 (ly_is hy 13 13 rfl) (by decide) ?_
      rw [(ly_n hy 13 3 rfl)]
      obtain ⟨v4039, hv4039, ev4039⟩ : ∃ v : Int32, v.toInt = 3 ∧ nI 3 = v := ⟨_, nI_toInt (by decide), rfl⟩
      rw [ev4039]; clear ev4039
      refine WQ_icmp_ge 20 dX11_copy_5 rfl (fun c4039 => ?_) (fun c4039 => ?_)
      · exact WP_vret dX11_copy_20 rfl ⟨⟨hI4034, rfl⟩, rfl⟩
      · refine WP_aload_n dX11_copy_8 rfl ?_
        refine WP_iload_n dX11_copy_9 rfl ?_
        refine WP_aload_n dX11_copy_10 rfl ?_
        refine WP_iload_n dX11_copy_11 rfl ?_
        refine WQ_iald dX11_copy_12 (ly_is hy 19 13 rfl) (ly_n hy 19 3 rfl) (by omega) (by omega) (fun q hq => BT_get hI4034.1.1 19 0 3 (0) (0) (9) (by decide) q (Nat.zero_le _) hq) (fun v4041 av4041 bv4041 ev4041 => ?_)
        clear ev4041
        refine WQ_iast dX11_copy_13 (ly_is hy 13 13 rfl) (ly_n hy 13 3 rfl) (by omega) (by omega) (fun I4042 eI4042 => ?_)
        have hI4042 : MP g n L I4042 := by rw [eI4042]; exact (mp_w hy hI4034 (c := 13) (mi_r hy hI4034.1 (c := 13) (0) (0) (9) (by decide) (Or.inl (by decide)) (by decide) (by omega) (by omega)) (by decide) (by decide) (Or.inl (by decide)))
        have e4043 : I4042 (ad g 0) 1 = L := by rw [eI4042, pp_ne _ _ (Or.inl (ly_ne hy (by decide) (by decide) (by decide)))]; exact e4037
        clear eI4042
        refine WP_iinc (ls' := [(0, _), (1, _), (2, _)]) dX11_copy_14 rfl (by decide) rfl ?_
        have hv4044 : (i4033 + Int32.ofInt (1)).toInt = i4033.toInt + (1) := ia_n rfl (by omega) (by omega)
        generalize i4033 + Int32.ofInt (1) = v4044 at hv4044 ⊢
        refine WP_goto 2 dX11_copy_17 rfl ?_
        exact WP_sub (fc rfl (fc rfl (fc rfl fn))) (ihlp2_4035 v4044 I4042 J4035 hI4042 (by omega) (by omega) (by omega))
  exact WP_sub (fc rfl (fc rfl (fc rfl fn))) (lp2_4035 _ v4032 I J hI (by omega) (by omega) (Nat.lt_succ_self _))
set_option maxHeartbeats 4000000 in
set_option maxRecDepth 100000 in
theorem sm_copy_20_27 {g : GG} {n : Int} {L : Int32} (hy : Ly g)  {I : pI} {J : pJ} {R : pR} (hr : Rf g R) (hI : MP g n L I)   : SP g mX11_copy [.ref (ad g 20), .ref (ad g 27)] I J R (fun r I' J' R' => (MP g n L I' ∧ R' = R) ∧ r = none) := by
  refine SP_of ⟨by decide, rfl⟩ (Nat.le_of_ble_eq_true rfl) ?_
  have e4045 : I (ad g 0) 1 = L := hI.1.2
  have b4046 := BT_get hI.1.1 0 1 2 (0) (0) (900) (by decide) 1 (by decide) (by decide)
  rw [e4045] at b4046
  refine WQ_iconst (0) (0) dX11_copy_0 rfl rfl (fun v4047 hv4047 => ?_)
  refine WP_istore_n (ls' := [(0, _), (1, _), (2, _)]) dX11_copy_1 (by decide) rfl ?_
  have lp2_4050 : ∀ (mz : Nat) (i4048 : Int32) (I4049 : pI) (J4050 : pJ), MP g n L I4049 → 0 ≤ i4048.toInt → i4048.toInt ≤ 28 → (29 - i4048.toInt).toNat < mz → WP g mX11_copy 2 [(0, .ref (ad g 20)), (1, .ref (ad g 27)), (2, .int i4048)] [] I4049 J4050 R (fun r I' J' R' => (MP g n L I' ∧ R' = R) ∧ r = none) := by
    intro mz
    induction mz with
    | zero =>
      intro i4048 I4049 J4050 hI4049 ai4048 bi4048 hmlp2_4050
      exact absurd hmlp2_4050 (Nat.not_lt_zero _)
    | succ mz ihlp2_4050 =>
      intro i4048 I4049 J4050 hI4049 ai4048 bi4048 hmlp2_4050
      have e4052 : I4049 (ad g 0) 1 = L := hI4049.1.2
      have b4053 := BT_get hI4049.1.1 0 1 2 (0) (0) (900) (by decide) 1 (by decide) (by decide)
      rw [e4052] at b4053
      refine WP_iload_n dX11_copy_2 rfl ?_
      refine WP_aload_n dX11_copy_3 rfl ?_
      refine WP_alen dX11_copy_4 (ly_is hy 20 13 rfl) (by decide) ?_
      rw [(ly_n hy 20 28 rfl)]
      obtain ⟨v4054, hv4054, ev4054⟩ : ∃ v : Int32, v.toInt = 28 ∧ nI 28 = v := ⟨_, nI_toInt (by decide), rfl⟩
      rw [ev4054]; clear ev4054
      refine WQ_icmp_ge 20 dX11_copy_5 rfl (fun c4054 => ?_) (fun c4054 => ?_)
      · exact WP_vret dX11_copy_20 rfl ⟨⟨hI4049, rfl⟩, rfl⟩
      · refine WP_aload_n dX11_copy_8 rfl ?_
        refine WP_iload_n dX11_copy_9 rfl ?_
        refine WP_aload_n dX11_copy_10 rfl ?_
        refine WP_iload_n dX11_copy_11 rfl ?_
        refine WQ_iald dX11_copy_12 (ly_is hy 27 13 rfl) (ly_n hy 27 28 rfl) (by omega) (by omega) (fun q hq => BT_get hI4049.1.1 27 0 28 (0) (0) (20) (by decide) q (Nat.zero_le _) hq) (fun v4056 av4056 bv4056 ev4056 => ?_)
        clear ev4056
        refine WQ_iast dX11_copy_13 (ly_is hy 20 13 rfl) (ly_n hy 20 28 rfl) (by omega) (by omega) (fun I4057 eI4057 => ?_)
        have hI4057 : MP g n L I4057 := by rw [eI4057]; exact (mp_w hy hI4049 (c := 20) (mi_r hy hI4049.1 (c := 20) (0) (0) (20) (by decide) (Or.inl (by decide)) (by decide) (by omega) (by omega)) (by decide) (by decide) (Or.inl (by decide)))
        have e4058 : I4057 (ad g 0) 1 = L := by rw [eI4057, pp_ne _ _ (Or.inl (ly_ne hy (by decide) (by decide) (by decide)))]; exact e4052
        clear eI4057
        refine WP_iinc (ls' := [(0, _), (1, _), (2, _)]) dX11_copy_14 rfl (by decide) rfl ?_
        have hv4059 : (i4048 + Int32.ofInt (1)).toInt = i4048.toInt + (1) := ia_n rfl (by omega) (by omega)
        generalize i4048 + Int32.ofInt (1) = v4059 at hv4059 ⊢
        refine WP_goto 2 dX11_copy_17 rfl ?_
        exact WP_sub (fc rfl (fc rfl (fc rfl fn))) (ihlp2_4050 v4059 I4057 J4050 hI4057 (by omega) (by omega) (by omega))
  exact WP_sub (fc rfl (fc rfl (fc rfl fn))) (lp2_4050 _ v4047 I J hI (by omega) (by omega) (Nat.lt_succ_self _))
set_option maxHeartbeats 4000000 in
set_option maxRecDepth 100000 in
theorem sm_copy_21_28 {g : GG} {n : Int} {L : Int32} (hy : Ly g)  {I : pI} {J : pJ} {R : pR} (hr : Rf g R) (hI : MP g n L I)   : SP g mX11_copy [.ref (ad g 21), .ref (ad g 28)] I J R (fun r I' J' R' => (MP g n L I' ∧ R' = R) ∧ r = none) := by
  refine SP_of ⟨by decide, rfl⟩ (Nat.le_of_ble_eq_true rfl) ?_
  have e4060 : I (ad g 0) 1 = L := hI.1.2
  have b4061 := BT_get hI.1.1 0 1 2 (0) (0) (900) (by decide) 1 (by decide) (by decide)
  rw [e4060] at b4061
  refine WQ_iconst (0) (0) dX11_copy_0 rfl rfl (fun v4062 hv4062 => ?_)
  refine WP_istore_n (ls' := [(0, _), (1, _), (2, _)]) dX11_copy_1 (by decide) rfl ?_
  have lp2_4065 : ∀ (mz : Nat) (i4063 : Int32) (I4064 : pI) (J4065 : pJ), MP g n L I4064 → 0 ≤ i4063.toInt → i4063.toInt ≤ 21 → (22 - i4063.toInt).toNat < mz → WP g mX11_copy 2 [(0, .ref (ad g 21)), (1, .ref (ad g 28)), (2, .int i4063)] [] I4064 J4065 R (fun r I' J' R' => (MP g n L I' ∧ R' = R) ∧ r = none) := by
    intro mz
    induction mz with
    | zero =>
      intro i4063 I4064 J4065 hI4064 ai4063 bi4063 hmlp2_4065
      exact absurd hmlp2_4065 (Nat.not_lt_zero _)
    | succ mz ihlp2_4065 =>
      intro i4063 I4064 J4065 hI4064 ai4063 bi4063 hmlp2_4065
      have e4067 : I4064 (ad g 0) 1 = L := hI4064.1.2
      have b4068 := BT_get hI4064.1.1 0 1 2 (0) (0) (900) (by decide) 1 (by decide) (by decide)
      rw [e4067] at b4068
      refine WP_iload_n dX11_copy_2 rfl ?_
      refine WP_aload_n dX11_copy_3 rfl ?_
      refine WP_alen dX11_copy_4 (ly_is hy 21 13 rfl) (by decide) ?_
      rw [(ly_n hy 21 21 rfl)]
      obtain ⟨v4069, hv4069, ev4069⟩ : ∃ v : Int32, v.toInt = 21 ∧ nI 21 = v := ⟨_, nI_toInt (by decide), rfl⟩
      rw [ev4069]; clear ev4069
      refine WQ_icmp_ge 20 dX11_copy_5 rfl (fun c4069 => ?_) (fun c4069 => ?_)
      · exact WP_vret dX11_copy_20 rfl ⟨⟨hI4064, rfl⟩, rfl⟩
      · refine WP_aload_n dX11_copy_8 rfl ?_
        refine WP_iload_n dX11_copy_9 rfl ?_
        refine WP_aload_n dX11_copy_10 rfl ?_
        refine WP_iload_n dX11_copy_11 rfl ?_
        refine WQ_iald dX11_copy_12 (ly_is hy 28 13 rfl) (ly_n hy 28 21 rfl) (by omega) (by omega) (fun q hq => BT_get hI4064.1.1 28 0 21 (0) (0) (20) (by decide) q (Nat.zero_le _) hq) (fun v4071 av4071 bv4071 ev4071 => ?_)
        clear ev4071
        refine WQ_iast dX11_copy_13 (ly_is hy 21 13 rfl) (ly_n hy 21 21 rfl) (by omega) (by omega) (fun I4072 eI4072 => ?_)
        have hI4072 : MP g n L I4072 := by rw [eI4072]; exact (mp_w hy hI4064 (c := 21) (mi_r hy hI4064.1 (c := 21) (0) (0) (20) (by decide) (Or.inl (by decide)) (by decide) (by omega) (by omega)) (by decide) (by decide) (Or.inl (by decide)))
        have e4073 : I4072 (ad g 0) 1 = L := by rw [eI4072, pp_ne _ _ (Or.inl (ly_ne hy (by decide) (by decide) (by decide)))]; exact e4067
        clear eI4072
        refine WP_iinc (ls' := [(0, _), (1, _), (2, _)]) dX11_copy_14 rfl (by decide) rfl ?_
        have hv4074 : (i4063 + Int32.ofInt (1)).toInt = i4063.toInt + (1) := ia_n rfl (by omega) (by omega)
        generalize i4063 + Int32.ofInt (1) = v4074 at hv4074 ⊢
        refine WP_goto 2 dX11_copy_17 rfl ?_
        exact WP_sub (fc rfl (fc rfl (fc rfl fn))) (ihlp2_4065 v4074 I4072 J4065 hI4072 (by omega) (by omega) (by omega))
  exact WP_sub (fc rfl (fc rfl (fc rfl fn))) (lp2_4065 _ v4062 I J hI (by omega) (by omega) (Nat.lt_succ_self _))
set_option maxHeartbeats 4000000 in
set_option maxRecDepth 100000 in
theorem sm_copy_22_28 {g : GG} {n : Int} {L : Int32} (hy : Ly g)  {I : pI} {J : pJ} {R : pR} (hr : Rf g R) (hI : MP g n L I)   : SP g mX11_copy [.ref (ad g 22), .ref (ad g 28)] I J R (fun r I' J' R' => (MP g n L I' ∧ R' = R) ∧ r = none) := by
  refine SP_of ⟨by decide, rfl⟩ (Nat.le_of_ble_eq_true rfl) ?_
  have e4075 : I (ad g 0) 1 = L := hI.1.2
  have b4076 := BT_get hI.1.1 0 1 2 (0) (0) (900) (by decide) 1 (by decide) (by decide)
  rw [e4075] at b4076
  refine WQ_iconst (0) (0) dX11_copy_0 rfl rfl (fun v4077 hv4077 => ?_)
  refine WP_istore_n (ls' := [(0, _), (1, _), (2, _)]) dX11_copy_1 (by decide) rfl ?_
  have lp2_4080 : ∀ (mz : Nat) (i4078 : Int32) (I4079 : pI) (J4080 : pJ), MP g n L I4079 → 0 ≤ i4078.toInt → i4078.toInt ≤ 21 → (22 - i4078.toInt).toNat < mz → WP g mX11_copy 2 [(0, .ref (ad g 22)), (1, .ref (ad g 28)), (2, .int i4078)] [] I4079 J4080 R (fun r I' J' R' => (MP g n L I' ∧ R' = R) ∧ r = none) := by
    intro mz
    induction mz with
    | zero =>
      intro i4078 I4079 J4080 hI4079 ai4078 bi4078 hmlp2_4080
      exact absurd hmlp2_4080 (Nat.not_lt_zero _)
    | succ mz ihlp2_4080 =>
      intro i4078 I4079 J4080 hI4079 ai4078 bi4078 hmlp2_4080
      have e4082 : I4079 (ad g 0) 1 = L := hI4079.1.2
      have b4083 := BT_get hI4079.1.1 0 1 2 (0) (0) (900) (by decide) 1 (by decide) (by decide)
      rw [e4082] at b4083
      refine WP_iload_n dX11_copy_2 rfl ?_
      refine WP_aload_n dX11_copy_3 rfl ?_
      refine WP_alen dX11_copy_4 (ly_is hy 22 13 rfl) (by decide) ?_
      rw [(ly_n hy 22 21 rfl)]
      obtain ⟨v4084, hv4084, ev4084⟩ : ∃ v : Int32, v.toInt = 21 ∧ nI 21 = v := ⟨_, nI_toInt (by decide), rfl⟩
      rw [ev4084]; clear ev4084
      refine WQ_icmp_ge 20 dX11_copy_5 rfl (fun c4084 => ?_) (fun c4084 => ?_)
      · exact WP_vret dX11_copy_20 rfl ⟨⟨hI4079, rfl⟩, rfl⟩
      · refine WP_aload_n dX11_copy_8 rfl ?_
        refine WP_iload_n dX11_copy_9 rfl ?_
        refine WP_aload_n dX11_copy_10 rfl ?_
        refine WP_iload_n dX11_copy_11 rfl ?_
        refine WQ_iald dX11_copy_12 (ly_is hy 28 13 rfl) (ly_n hy 28 21 rfl) (by omega) (by omega) (fun q hq => BT_get hI4079.1.1 28 0 21 (0) (0) (20) (by decide) q (Nat.zero_le _) hq) (fun v4086 av4086 bv4086 ev4086 => ?_)
        clear ev4086
        refine WQ_iast dX11_copy_13 (ly_is hy 22 13 rfl) (ly_n hy 22 21 rfl) (by omega) (by omega) (fun I4087 eI4087 => ?_)
        have hI4087 : MP g n L I4087 := by rw [eI4087]; exact (mp_w hy hI4079 (c := 22) (mi_r hy hI4079.1 (c := 22) (0) (0) (20) (by decide) (Or.inl (by decide)) (by decide) (by omega) (by omega)) (by decide) (by decide) (Or.inl (by decide)))
        have e4088 : I4087 (ad g 0) 1 = L := by rw [eI4087, pp_ne _ _ (Or.inl (ly_ne hy (by decide) (by decide) (by decide)))]; exact e4082
        clear eI4087
        refine WP_iinc (ls' := [(0, _), (1, _), (2, _)]) dX11_copy_14 rfl (by decide) rfl ?_
        have hv4089 : (i4078 + Int32.ofInt (1)).toInt = i4078.toInt + (1) := ia_n rfl (by omega) (by omega)
        generalize i4078 + Int32.ofInt (1) = v4089 at hv4089 ⊢
        refine WP_goto 2 dX11_copy_17 rfl ?_
        exact WP_sub (fc rfl (fc rfl (fc rfl fn))) (ihlp2_4080 v4089 I4087 J4080 hI4087 (by omega) (by omega) (by omega))
  exact WP_sub (fc rfl (fc rfl (fc rfl fn))) (lp2_4080 _ v4077 I J hI (by omega) (by omega) (Nat.lt_succ_self _))
set_option maxHeartbeats 4000000 in
set_option maxRecDepth 100000 in
theorem sm_copy_23_29 {g : GG} {n : Int} {L : Int32} (hy : Ly g)  {I : pI} {J : pJ} {R : pR} (hr : Rf g R) (hI : MP g n L I)   : SP g mX11_copy [.ref (ad g 23), .ref (ad g 29)] I J R (fun r I' J' R' => (MP g n L I' ∧ R' = R) ∧ r = none) := by
  refine SP_of ⟨by decide, rfl⟩ (Nat.le_of_ble_eq_true rfl) ?_
  have e4090 : I (ad g 0) 1 = L := hI.1.2
  have b4091 := BT_get hI.1.1 0 1 2 (0) (0) (900) (by decide) 1 (by decide) (by decide)
  rw [e4090] at b4091
  refine WQ_iconst (0) (0) dX11_copy_0 rfl rfl (fun v4092 hv4092 => ?_)
  refine WP_istore_n (ls' := [(0, _), (1, _), (2, _)]) dX11_copy_1 (by decide) rfl ?_
  have lp2_4095 : ∀ (mz : Nat) (i4093 : Int32) (I4094 : pI) (J4095 : pJ), MP g n L I4094 → 0 ≤ i4093.toInt → i4093.toInt ≤ 21 → (22 - i4093.toInt).toNat < mz → WP g mX11_copy 2 [(0, .ref (ad g 23)), (1, .ref (ad g 29)), (2, .int i4093)] [] I4094 J4095 R (fun r I' J' R' => (MP g n L I' ∧ R' = R) ∧ r = none) := by
    intro mz
    induction mz with
    | zero =>
      intro i4093 I4094 J4095 hI4094 ai4093 bi4093 hmlp2_4095
      exact absurd hmlp2_4095 (Nat.not_lt_zero _)
    | succ mz ihlp2_4095 =>
      intro i4093 I4094 J4095 hI4094 ai4093 bi4093 hmlp2_4095
      have e4097 : I4094 (ad g 0) 1 = L := hI4094.1.2
      have b4098 := BT_get hI4094.1.1 0 1 2 (0) (0) (900) (by decide) 1 (by decide) (by decide)
      rw [e4097] at b4098
      refine WP_iload_n dX11_copy_2 rfl ?_
      refine WP_aload_n dX11_copy_3 rfl ?_
      refine WP_alen dX11_copy_4 (ly_is hy 23 13 rfl) (by decide) ?_
      rw [(ly_n hy 23 21 rfl)]
      obtain ⟨v4099, hv4099, ev4099⟩ : ∃ v : Int32, v.toInt = 21 ∧ nI 21 = v := ⟨_, nI_toInt (by decide), rfl⟩
      rw [ev4099]; clear ev4099
      refine WQ_icmp_ge 20 dX11_copy_5 rfl (fun c4099 => ?_) (fun c4099 => ?_)
      · exact WP_vret dX11_copy_20 rfl ⟨⟨hI4094, rfl⟩, rfl⟩
      · refine WP_aload_n dX11_copy_8 rfl ?_
        refine WP_iload_n dX11_copy_9 rfl ?_
        refine WP_aload_n dX11_copy_10 rfl ?_
        refine WP_iload_n dX11_copy_11 rfl ?_
        refine WQ_iald dX11_copy_12 (ly_is hy 29 13 rfl) (ly_n hy 29 21 rfl) (by omega) (by omega) (fun q hq => BT_get hI4094.1.1 29 0 21 (-1) (0) (999) (by decide) q (Nat.zero_le _) hq) (fun v4101 av4101 bv4101 ev4101 => ?_)
        clear ev4101
        refine WQ_iast dX11_copy_13 (ly_is hy 23 13 rfl) (ly_n hy 23 21 rfl) (by omega) (by omega) (fun I4102 eI4102 => ?_)
        have hI4102 : MP g n L I4102 := by rw [eI4102]; exact (mp_w hy hI4094 (c := 23) (mi_r hy hI4094.1 (c := 23) (-1) (0) (999) (by decide) (Or.inl (by decide)) (by decide) (by omega) (by omega)) (by decide) (by decide) (Or.inl (by decide)))
        have e4103 : I4102 (ad g 0) 1 = L := by rw [eI4102, pp_ne _ _ (Or.inl (ly_ne hy (by decide) (by decide) (by decide)))]; exact e4097
        clear eI4102
        refine WP_iinc (ls' := [(0, _), (1, _), (2, _)]) dX11_copy_14 rfl (by decide) rfl ?_
        have hv4104 : (i4093 + Int32.ofInt (1)).toInt = i4093.toInt + (1) := ia_n rfl (by omega) (by omega)
        generalize i4093 + Int32.ofInt (1) = v4104 at hv4104 ⊢
        refine WP_goto 2 dX11_copy_17 rfl ?_
        exact WP_sub (fc rfl (fc rfl (fc rfl fn))) (ihlp2_4095 v4104 I4102 J4095 hI4102 (by omega) (by omega) (by omega))
  exact WP_sub (fc rfl (fc rfl (fc rfl fn))) (lp2_4095 _ v4092 I J hI (by omega) (by omega) (Nat.lt_succ_self _))
set_option maxHeartbeats 4000000 in
set_option maxRecDepth 100000 in
theorem sm_copy_24_30 {g : GG} {n : Int} {L : Int32} (hy : Ly g)  {I : pI} {J : pJ} {R : pR} (hr : Rf g R) (hI : MP g n L I)   : SP g mX11_copy [.ref (ad g 24), .ref (ad g 30)] I J R (fun r I' J' R' => (MP g n L I' ∧ R' = R) ∧ r = none) := by
  refine SP_of ⟨by decide, rfl⟩ (Nat.le_of_ble_eq_true rfl) ?_
  have e4105 : I (ad g 0) 1 = L := hI.1.2
  have b4106 := BT_get hI.1.1 0 1 2 (0) (0) (900) (by decide) 1 (by decide) (by decide)
  rw [e4105] at b4106
  refine WQ_iconst (0) (0) dX11_copy_0 rfl rfl (fun v4107 hv4107 => ?_)
  refine WP_istore_n (ls' := [(0, _), (1, _), (2, _)]) dX11_copy_1 (by decide) rfl ?_
  have lp2_4110 : ∀ (mz : Nat) (i4108 : Int32) (I4109 : pI) (J4110 : pJ), MP g n L I4109 → 0 ≤ i4108.toInt → i4108.toInt ≤ 28 → (29 - i4108.toInt).toNat < mz → WP g mX11_copy 2 [(0, .ref (ad g 24)), (1, .ref (ad g 30)), (2, .int i4108)] [] I4109 J4110 R (fun r I' J' R' => (MP g n L I' ∧ R' = R) ∧ r = none) := by
    intro mz
    induction mz with
    | zero =>
      intro i4108 I4109 J4110 hI4109 ai4108 bi4108 hmlp2_4110
      exact absurd hmlp2_4110 (Nat.not_lt_zero _)
    | succ mz ihlp2_4110 =>
      intro i4108 I4109 J4110 hI4109 ai4108 bi4108 hmlp2_4110
      have e4112 : I4109 (ad g 0) 1 = L := hI4109.1.2
      have b4113 := BT_get hI4109.1.1 0 1 2 (0) (0) (900) (by decide) 1 (by decide) (by decide)
      rw [e4112] at b4113
      refine WP_iload_n dX11_copy_2 rfl ?_
      refine WP_aload_n dX11_copy_3 rfl ?_
      refine WP_alen dX11_copy_4 (ly_is hy 24 13 rfl) (by decide) ?_
      rw [(ly_n hy 24 28 rfl)]
      obtain ⟨v4114, hv4114, ev4114⟩ : ∃ v : Int32, v.toInt = 28 ∧ nI 28 = v := ⟨_, nI_toInt (by decide), rfl⟩
      rw [ev4114]; clear ev4114
      refine WQ_icmp_ge 20 dX11_copy_5 rfl (fun c4114 => ?_) (fun c4114 => ?_)
      · exact WP_vret dX11_copy_20 rfl ⟨⟨hI4109, rfl⟩, rfl⟩
      · refine WP_aload_n dX11_copy_8 rfl ?_
        refine WP_iload_n dX11_copy_9 rfl ?_
        refine WP_aload_n dX11_copy_10 rfl ?_
        refine WP_iload_n dX11_copy_11 rfl ?_
        refine WQ_iald dX11_copy_12 (ly_is hy 30 13 rfl) (ly_n hy 30 28 rfl) (by omega) (by omega) (fun q hq => BT_get hI4109.1.1 30 0 28 (-1) (0) (2) (by decide) q (Nat.zero_le _) hq) (fun v4116 av4116 bv4116 ev4116 => ?_)
        clear ev4116
        refine WQ_iast dX11_copy_13 (ly_is hy 24 13 rfl) (ly_n hy 24 28 rfl) (by omega) (by omega) (fun I4117 eI4117 => ?_)
        have hI4117 : MP g n L I4117 := by rw [eI4117]; exact (mp_w hy hI4109 (c := 24) (mi_r hy hI4109.1 (c := 24) (-1) (0) (2) (by decide) (Or.inl (by decide)) (by decide) (by omega) (by omega)) (by decide) (by decide) (Or.inl (by decide)))
        have e4118 : I4117 (ad g 0) 1 = L := by rw [eI4117, pp_ne _ _ (Or.inl (ly_ne hy (by decide) (by decide) (by decide)))]; exact e4112
        clear eI4117
        refine WP_iinc (ls' := [(0, _), (1, _), (2, _)]) dX11_copy_14 rfl (by decide) rfl ?_
        have hv4119 : (i4108 + Int32.ofInt (1)).toInt = i4108.toInt + (1) := ia_n rfl (by omega) (by omega)
        generalize i4108 + Int32.ofInt (1) = v4119 at hv4119 ⊢
        refine WP_goto 2 dX11_copy_17 rfl ?_
        exact WP_sub (fc rfl (fc rfl (fc rfl fn))) (ihlp2_4110 v4119 I4117 J4110 hI4117 (by omega) (by omega) (by omega))
  exact WP_sub (fc rfl (fc rfl (fc rfl fn))) (lp2_4110 _ v4107 I J hI (by omega) (by omega) (Nat.lt_succ_self _))
set_option maxHeartbeats 4000000 in
set_option maxRecDepth 100000 in
theorem sm_copy_25_31 {g : GG} {n : Int} {L : Int32} (hy : Ly g)  {I : pI} {J : pJ} {R : pR} (hr : Rf g R) (hI : MP g n L I)   : SP g mX11_copy [.ref (ad g 25), .ref (ad g 31)] I J R (fun r I' J' R' => (MP g n L I' ∧ R' = R) ∧ r = none) := by
  refine SP_of ⟨by decide, rfl⟩ (Nat.le_of_ble_eq_true rfl) ?_
  have e4120 : I (ad g 0) 1 = L := hI.1.2
  have b4121 := BT_get hI.1.1 0 1 2 (0) (0) (900) (by decide) 1 (by decide) (by decide)
  rw [e4120] at b4121
  refine WQ_iconst (0) (0) dX11_copy_0 rfl rfl (fun v4122 hv4122 => ?_)
  refine WP_istore_n (ls' := [(0, _), (1, _), (2, _)]) dX11_copy_1 (by decide) rfl ?_
  have lp2_4125 : ∀ (mz : Nat) (i4123 : Int32) (I4124 : pI) (J4125 : pJ), MP g n L I4124 → 0 ≤ i4123.toInt → i4123.toInt ≤ 28 → (29 - i4123.toInt).toNat < mz → WP g mX11_copy 2 [(0, .ref (ad g 25)), (1, .ref (ad g 31)), (2, .int i4123)] [] I4124 J4125 R (fun r I' J' R' => (MP g n L I' ∧ R' = R) ∧ r = none) := by
    intro mz
    induction mz with
    | zero =>
      intro i4123 I4124 J4125 hI4124 ai4123 bi4123 hmlp2_4125
      exact absurd hmlp2_4125 (Nat.not_lt_zero _)
    | succ mz ihlp2_4125 =>
      intro i4123 I4124 J4125 hI4124 ai4123 bi4123 hmlp2_4125
      have e4127 : I4124 (ad g 0) 1 = L := hI4124.1.2
      have b4128 := BT_get hI4124.1.1 0 1 2 (0) (0) (900) (by decide) 1 (by decide) (by decide)
      rw [e4127] at b4128
      refine WP_iload_n dX11_copy_2 rfl ?_
      refine WP_aload_n dX11_copy_3 rfl ?_
      refine WP_alen dX11_copy_4 (ly_is hy 25 13 rfl) (by decide) ?_
      rw [(ly_n hy 25 28 rfl)]
      obtain ⟨v4129, hv4129, ev4129⟩ : ∃ v : Int32, v.toInt = 28 ∧ nI 28 = v := ⟨_, nI_toInt (by decide), rfl⟩
      rw [ev4129]; clear ev4129
      refine WQ_icmp_ge 20 dX11_copy_5 rfl (fun c4129 => ?_) (fun c4129 => ?_)
      · exact WP_vret dX11_copy_20 rfl ⟨⟨hI4124, rfl⟩, rfl⟩
      · refine WP_aload_n dX11_copy_8 rfl ?_
        refine WP_iload_n dX11_copy_9 rfl ?_
        refine WP_aload_n dX11_copy_10 rfl ?_
        refine WP_iload_n dX11_copy_11 rfl ?_
        refine WQ_iald dX11_copy_12 (ly_is hy 31 13 rfl) (ly_n hy 31 28 rfl) (by omega) (by omega) (fun q hq => BT_get hI4124.1.1 31 0 28 (0) (0) (3) (by decide) q (Nat.zero_le _) hq) (fun v4131 av4131 bv4131 ev4131 => ?_)
        clear ev4131
        refine WQ_iast dX11_copy_13 (ly_is hy 25 13 rfl) (ly_n hy 25 28 rfl) (by omega) (by omega) (fun I4132 eI4132 => ?_)
        have hI4132 : MP g n L I4132 := by rw [eI4132]; exact (mp_w hy hI4124 (c := 25) (mi_r hy hI4124.1 (c := 25) (0) (0) (3) (by decide) (Or.inl (by decide)) (by decide) (by omega) (by omega)) (by decide) (by decide) (Or.inl (by decide)))
        have e4133 : I4132 (ad g 0) 1 = L := by rw [eI4132, pp_ne _ _ (Or.inl (ly_ne hy (by decide) (by decide) (by decide)))]; exact e4127
        clear eI4132
        refine WP_iinc (ls' := [(0, _), (1, _), (2, _)]) dX11_copy_14 rfl (by decide) rfl ?_
        have hv4134 : (i4123 + Int32.ofInt (1)).toInt = i4123.toInt + (1) := ia_n rfl (by omega) (by omega)
        generalize i4123 + Int32.ofInt (1) = v4134 at hv4134 ⊢
        refine WP_goto 2 dX11_copy_17 rfl ?_
        exact WP_sub (fc rfl (fc rfl (fc rfl fn))) (ihlp2_4125 v4134 I4132 J4125 hI4132 (by omega) (by omega) (by omega))
  exact WP_sub (fc rfl (fc rfl (fc rfl fn))) (lp2_4125 _ v4122 I J hI (by omega) (by omega) (Nat.lt_succ_self _))
set_option maxHeartbeats 4000000 in
set_option maxRecDepth 100000 in
theorem sm_copy_26_32 {g : GG} {n : Int} {L : Int32} (hy : Ly g)  {I : pI} {J : pJ} {R : pR} (hr : Rf g R) (hI : MP g n L I)   : SP g mX11_copy [.ref (ad g 26), .ref (ad g 32)] I J R (fun r I' J' R' => (MP g n L I' ∧ R' = R) ∧ r = none) := by
  refine SP_of ⟨by decide, rfl⟩ (Nat.le_of_ble_eq_true rfl) ?_
  have e4135 : I (ad g 0) 1 = L := hI.1.2
  have b4136 := BT_get hI.1.1 0 1 2 (0) (0) (900) (by decide) 1 (by decide) (by decide)
  rw [e4135] at b4136
  refine WQ_iconst (0) (0) dX11_copy_0 rfl rfl (fun v4137 hv4137 => ?_)
  refine WP_istore_n (ls' := [(0, _), (1, _), (2, _)]) dX11_copy_1 (by decide) rfl ?_
  have lp2_4140 : ∀ (mz : Nat) (i4138 : Int32) (I4139 : pI) (J4140 : pJ), MP g n L I4139 → 0 ≤ i4138.toInt → i4138.toInt ≤ 28 → (29 - i4138.toInt).toNat < mz → WP g mX11_copy 2 [(0, .ref (ad g 26)), (1, .ref (ad g 32)), (2, .int i4138)] [] I4139 J4140 R (fun r I' J' R' => (MP g n L I' ∧ R' = R) ∧ r = none) := by
    intro mz
    induction mz with
    | zero =>
      intro i4138 I4139 J4140 hI4139 ai4138 bi4138 hmlp2_4140
      exact absurd hmlp2_4140 (Nat.not_lt_zero _)
    | succ mz ihlp2_4140 =>
      intro i4138 I4139 J4140 hI4139 ai4138 bi4138 hmlp2_4140
      have e4142 : I4139 (ad g 0) 1 = L := hI4139.1.2
      have b4143 := BT_get hI4139.1.1 0 1 2 (0) (0) (900) (by decide) 1 (by decide) (by decide)
      rw [e4142] at b4143
      refine WP_iload_n dX11_copy_2 rfl ?_
      refine WP_aload_n dX11_copy_3 rfl ?_
      refine WP_alen dX11_copy_4 (ly_is hy 26 13 rfl) (by decide) ?_
      rw [(ly_n hy 26 28 rfl)]
      obtain ⟨v4144, hv4144, ev4144⟩ : ∃ v : Int32, v.toInt = 28 ∧ nI 28 = v := ⟨_, nI_toInt (by decide), rfl⟩
      rw [ev4144]; clear ev4144
      refine WQ_icmp_ge 20 dX11_copy_5 rfl (fun c4144 => ?_) (fun c4144 => ?_)
      · exact WP_vret dX11_copy_20 rfl ⟨⟨hI4139, rfl⟩, rfl⟩
      · refine WP_aload_n dX11_copy_8 rfl ?_
        refine WP_iload_n dX11_copy_9 rfl ?_
        refine WP_aload_n dX11_copy_10 rfl ?_
        refine WP_iload_n dX11_copy_11 rfl ?_
        refine WQ_iald dX11_copy_12 (ly_is hy 32 13 rfl) (ly_n hy 32 28 rfl) (by omega) (by omega) (fun q hq => BT_get hI4139.1.1 32 0 28 (0) (0) (99) (by decide) q (Nat.zero_le _) hq) (fun v4146 av4146 bv4146 ev4146 => ?_)
        clear ev4146
        refine WQ_iast dX11_copy_13 (ly_is hy 26 13 rfl) (ly_n hy 26 28 rfl) (by omega) (by omega) (fun I4147 eI4147 => ?_)
        have hI4147 : MP g n L I4147 := by rw [eI4147]; exact (mp_w hy hI4139 (c := 26) (mi_r hy hI4139.1 (c := 26) (0) (0) (99) (by decide) (Or.inl (by decide)) (by decide) (by omega) (by omega)) (by decide) (by decide) (Or.inl (by decide)))
        have e4148 : I4147 (ad g 0) 1 = L := by rw [eI4147, pp_ne _ _ (Or.inl (ly_ne hy (by decide) (by decide) (by decide)))]; exact e4142
        clear eI4147
        refine WP_iinc (ls' := [(0, _), (1, _), (2, _)]) dX11_copy_14 rfl (by decide) rfl ?_
        have hv4149 : (i4138 + Int32.ofInt (1)).toInt = i4138.toInt + (1) := ia_n rfl (by omega) (by omega)
        generalize i4138 + Int32.ofInt (1) = v4149 at hv4149 ⊢
        refine WP_goto 2 dX11_copy_17 rfl ?_
        exact WP_sub (fc rfl (fc rfl (fc rfl fn))) (ihlp2_4140 v4149 I4147 J4140 hI4147 (by omega) (by omega) (by omega))
  exact WP_sub (fc rfl (fc rfl (fc rfl fn))) (lp2_4140 _ v4137 I J hI (by omega) (by omega) (Nat.lt_succ_self _))
