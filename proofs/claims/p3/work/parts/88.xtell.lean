set_option maxHeartbeats 4000000 in
set_option maxRecDepth 100000 in
theorem sx_tellLoss_6 {g : GG} {n : Int} {L : Int32} (hy : LyX g)  {I : pI} {J : pJ} {R : pR} (hr : RfX g R) (hI : XI g n L I) (da : Int32) (lo : Int32) (da_lo : 0 ≤ da.toInt) (da_hi : da.toInt ≤ 6) (lo_lo : 0 ≤ lo.toInt) (lo_hi : lo.toInt ≤ 900) : SP g mX7_tellLoss [.ref (ad g 6), .int da, .int lo] I J R (fun r I' J' R' => (XI g n L I' ∧ R' = R) ∧ r = none) := by
  refine SP_of ⟨by decide, rfl⟩ (Nat.le_of_ble_eq_true rfl) ?_
  have e4017 : I (ad g 1) 1 = L := hI.2
  have b4018 := BT_get hI.1 1 1 2 (0) (0) (900) (by decide) 1 (by decide) (by decide)
  rw [e4017] at b4018
  refine WP_aload_n dX7_tellLoss_0 rfl ?_
  refine WP_getr dX7_tellLoss_1 fX7_9 rfl (lyx_is hy 6 7 rfl) (rfx hr 6 5 7 (by decide)) ?_
  refine WP_iload_n dX7_tellLoss_4 rfl ?_
  refine WP_iload_n dX7_tellLoss_5 rfl ?_
  refine WQ_iast dX7_tellLoss_6 (lyx_is hy 7 13 rfl) (lyx_n hy 7 7 rfl) (by omega) (by omega) (fun I4019 eI4019 => ?_)
  have hI4019 : XI g n L I4019 := by rw [eI4019]; exact (xi_r hy hI (c := 7) (0) (0) (900) (by decide) (Or.inl (by decide)) (by decide) (by omega) (by omega))
  have e4020 : I4019 (ad g 1) 1 = L := by rw [eI4019, pp_ne _ _ (Or.inl (lyx_ne hy (by decide) (by decide) (by decide)))]; exact e4017
  clear eI4019
  refine WP_aload_n dX7_tellLoss_7 rfl ?_
  refine WQ_iconst (0) (0) dX7_tellLoss_8 rfl rfl (fun v4021 hv4021 => ?_)
  refine WQ_iconst (0) (0) dX7_tellLoss_9 rfl rfl (fun v4022 hv4022 => ?_)
  refine WP_iload_n dX7_tellLoss_10 rfl ?_
  refine WP_callV3 (k := 7) dX7_tellLoss_11 ⟨⟨⟨by decide, by decide⟩, zX7_hold⟩, lX7_109, by decide, rfl, vX7_hold.1, vX7_hold.2⟩ (lyx_is hy 6 7 rfl) (sx_hold_6 hy hr hI4019 v4021 v4022 da (by omega) (by omega) (by omega) (by omega) ) (Nat.le_of_ble_eq_true rfl) ?_
  intro r I4023 J4024 Ra hq
  obtain ⟨⟨hI4023, ec⟩, rfl⟩ := hq
  rw [ec]
  clear ec Ra
  have e4025 : I4023 (ad g 1) 1 = L := hI4023.2
  have b4026 := BT_get hI4023.1 1 1 2 (0) (0) (900) (by decide) 1 (by decide) (by decide)
  rw [e4025] at b4026
  exact WP_vret dX7_tellLoss_14 rfl ⟨⟨hI4023, rfl⟩, rfl⟩
set_option maxHeartbeats 4000000 in
set_option maxRecDepth 100000 in
theorem sx_tellSort_6 {g : GG} {n : Int} {L : Int32} (hy : LyX g)  {I : pI} {J : pJ} {R : pR} (hr : RfX g R) (hI : XI g n L I)   (hb : (I (ad g 4) 1).toInt ≤ 99 ∧ (I (ad g 4) 2).toInt ≤ 1000 ∧ (I (ad g 4) 3).toInt ≤ 60 ∧ (I (ad g 6) 1).toInt ≤ 3) : SP g mX7_tellSort [.ref (ad g 6), .ref (ad g 4)] I J R (fun r I' J' R' => (XI g n L I' ∧ R' = R ∧ True) ∧ r = none) := by
  refine SP_of ⟨by decide, rfl⟩ (Nat.le_of_ble_eq_true rfl) ?_
  have e4027 : I (ad g 1) 1 = L := hI.2
  have b4028 := BT_get hI.1 1 1 2 (0) (0) (900) (by decide) 1 (by decide) (by decide)
  rw [e4027] at b4028
  obtain ⟨w4029, ew4029⟩ : ∃ w : Int32, I (ad g 4) 1 = w := ⟨_, rfl⟩
  have bw4029 := BT_get hI.1 4 0 5 (0) (0) (1000) (by decide) 1 (by decide) (by decide)
  rw [ew4029] at bw4029
  obtain ⟨w4030, ew4030⟩ : ∃ w : Int32, I (ad g 4) 2 = w := ⟨_, rfl⟩
  have bw4030 := BT_get hI.1 4 0 5 (0) (0) (1000) (by decide) 2 (by decide) (by decide)
  rw [ew4030] at bw4030
  obtain ⟨w4031, ew4031⟩ : ∃ w : Int32, I (ad g 4) 3 = w := ⟨_, rfl⟩
  have bw4031 := BT_get hI.1 4 0 5 (0) (0) (1000) (by decide) 3 (by decide) (by decide)
  rw [ew4031] at bw4031
  obtain ⟨w4032, ew4032⟩ : ∃ w : Int32, I (ad g 6) 1 = w := ⟨_, rfl⟩
  have bw4032 := BT_get hI.1 6 1 2 (0) (0) (4) (by decide) 1 (by decide) (by decide)
  rw [ew4032] at bw4032
  rw [ew4029, ew4030, ew4031, ew4032] at hb
  refine WP_aload_n dX7_tellSort_0 rfl ?_
  refine WP_getr dX7_tellSort_1 fX7_15 rfl (lyx_is hy 6 7 rfl) (rfx hr 6 6 8 (by decide)) ?_
  refine WP_aload_n dX7_tellSort_4 rfl ?_
  refine WQ_getim dX7_tellSort_5 fX7_65 rfl (lyx_is hy 6 7 rfl) ew4032 ?_
  refine WP_aload_n dX7_tellSort_8 rfl ?_
  refine WQ_iconst (1) (1) dX7_tellSort_9 rfl rfl (fun v4033 hv4033 => ?_)
  refine WQ_ialdm (z := 1) dX7_tellSort_10 (lyx_is hy 4 13 rfl) (lyx_n hy 4 5 rfl) hv4033 (by decide) ew4029 ?_
  refine WQ_iast dX7_tellSort_11 (lyx_is hy 8 13 rfl) (lyx_n hy 8 4 rfl) (by omega) (by omega) (fun I4035 eI4035 => ?_)
  have hI4035 : XI g n L I4035 := by rw [eI4035]; exact (xi_r hy hI (c := 8) (0) (0) (99) (by decide) (Or.inl (by decide)) (by decide) (by omega) (by omega))
  have e4036 : I4035 (ad g 1) 1 = L := by rw [eI4035, pp_ne _ _ (Or.inl (lyx_ne hy (by decide) (by decide) (by decide)))]; exact e4027
  have e4037 : I4035 (ad g 4) 1 = w4029 := by rw [eI4035, pp_ne _ _ (Or.inl (lyx_ne hy (by decide) (by decide) (by decide)))]; exact ew4029
  have e4038 : I4035 (ad g 4) 2 = w4030 := by rw [eI4035, pp_ne _ _ (Or.inl (lyx_ne hy (by decide) (by decide) (by decide)))]; exact ew4030
  have e4039 : I4035 (ad g 4) 3 = w4031 := by rw [eI4035, pp_ne _ _ (Or.inl (lyx_ne hy (by decide) (by decide) (by decide)))]; exact ew4031
  have e4040 : I4035 (ad g 6) 1 = w4032 := by rw [eI4035, pp_ne _ _ (Or.inl (lyx_ne hy (by decide) (by decide) (by decide)))]; exact ew4032
  clear eI4035
  refine WP_aload_n dX7_tellSort_12 rfl ?_
  refine WP_getr dX7_tellSort_13 fX7_18 rfl (lyx_is hy 6 7 rfl) (rfx hr 6 7 9 (by decide)) ?_
  refine WP_aload_n dX7_tellSort_16 rfl ?_
  refine WQ_getim dX7_tellSort_17 fX7_65 rfl (lyx_is hy 6 7 rfl) e4040 ?_
  refine WP_aload_n dX7_tellSort_20 rfl ?_
  refine WQ_iconst (2) (2) dX7_tellSort_21 rfl rfl (fun v4041 hv4041 => ?_)
  refine WQ_ialdm (z := 2) dX7_tellSort_22 (lyx_is hy 4 13 rfl) (lyx_n hy 4 5 rfl) hv4041 (by decide) e4038 ?_
  refine WQ_iast dX7_tellSort_23 (lyx_is hy 9 13 rfl) (lyx_n hy 9 4 rfl) (by omega) (by omega) (fun I4043 eI4043 => ?_)
  have hI4043 : XI g n L I4043 := by rw [eI4043]; exact (xi_r hy hI4035 (c := 9) (0) (0) (1000) (by decide) (Or.inl (by decide)) (by decide) (by omega) (by omega))
  have e4044 : I4043 (ad g 1) 1 = L := by rw [eI4043, pp_ne _ _ (Or.inl (lyx_ne hy (by decide) (by decide) (by decide)))]; exact e4036
  have e4045 : I4043 (ad g 4) 1 = w4029 := by rw [eI4043, pp_ne _ _ (Or.inl (lyx_ne hy (by decide) (by decide) (by decide)))]; exact e4037
  have e4046 : I4043 (ad g 4) 2 = w4030 := by rw [eI4043, pp_ne _ _ (Or.inl (lyx_ne hy (by decide) (by decide) (by decide)))]; exact e4038
  have e4047 : I4043 (ad g 4) 3 = w4031 := by rw [eI4043, pp_ne _ _ (Or.inl (lyx_ne hy (by decide) (by decide) (by decide)))]; exact e4039
  have e4048 : I4043 (ad g 6) 1 = w4032 := by rw [eI4043, pp_ne _ _ (Or.inl (lyx_ne hy (by decide) (by decide) (by decide)))]; exact e4040
  clear eI4043
  refine WP_aload_n dX7_tellSort_24 rfl ?_
  refine WP_getr dX7_tellSort_25 fX7_21 rfl (lyx_is hy 6 7 rfl) (rfx hr 6 8 10 (by decide)) ?_
  refine WP_aload_n dX7_tellSort_28 rfl ?_
  refine WQ_getim dX7_tellSort_29 fX7_65 rfl (lyx_is hy 6 7 rfl) e4048 ?_
  refine WP_aload_n dX7_tellSort_32 rfl ?_
  refine WQ_iconst (3) (3) dX7_tellSort_33 rfl rfl (fun v4049 hv4049 => ?_)
  refine WQ_ialdm (z := 3) dX7_tellSort_34 (lyx_is hy 4 13 rfl) (lyx_n hy 4 5 rfl) hv4049 (by decide) e4047 ?_
  refine WQ_iast dX7_tellSort_35 (lyx_is hy 10 13 rfl) (lyx_n hy 10 4 rfl) (by omega) (by omega) (fun I4051 eI4051 => ?_)
  have hI4051 : XI g n L I4051 := by rw [eI4051]; exact (xi_r hy hI4043 (c := 10) (0) (0) (60) (by decide) (Or.inl (by decide)) (by decide) (by omega) (by omega))
  have e4052 : I4051 (ad g 1) 1 = L := by rw [eI4051, pp_ne _ _ (Or.inl (lyx_ne hy (by decide) (by decide) (by decide)))]; exact e4044
  have e4053 : I4051 (ad g 4) 1 = w4029 := by rw [eI4051, pp_ne _ _ (Or.inl (lyx_ne hy (by decide) (by decide) (by decide)))]; exact e4045
  have e4054 : I4051 (ad g 4) 2 = w4030 := by rw [eI4051, pp_ne _ _ (Or.inl (lyx_ne hy (by decide) (by decide) (by decide)))]; exact e4046
  have e4055 : I4051 (ad g 4) 3 = w4031 := by rw [eI4051, pp_ne _ _ (Or.inl (lyx_ne hy (by decide) (by decide) (by decide)))]; exact e4047
  have e4056 : I4051 (ad g 6) 1 = w4032 := by rw [eI4051, pp_ne _ _ (Or.inl (lyx_ne hy (by decide) (by decide) (by decide)))]; exact e4048
  clear eI4051
  refine WP_aload_n dX7_tellSort_36 rfl ?_
  refine WP_dup dX7_tellSort_37 rfl ?_
  refine WQ_getim dX7_tellSort_38 fX7_65 rfl (lyx_is hy 6 7 rfl) e4056 ?_
  refine WQ_iconst (1) (1) dX7_tellSort_41 rfl rfl (fun v4057 hv4057 => ?_)
  refine WQ_iadd dX7_tellSort_42 (by omega) (by omega) (fun v4058 hv4058 => ?_)
  refine WQ_puti dX7_tellSort_43 fX7_65 rfl rfl (lyx_is hy 6 7 rfl) (fun I4059 eI4059 => ?_)
  have hI4059 : XI g n L I4059 := by rw [eI4059]; exact (xi_f hy hI4051 (c := 6) (0) (0) (4) (by decide) (Or.inl (by decide)) (by decide) (by omega) (by omega))
  have e4060 : I4059 (ad g 1) 1 = L := by rw [eI4059, pp_ne _ _ (Or.inl (lyx_ne hy (by decide) (by decide) (by decide)))]; exact e4052
  have e4061 : I4059 (ad g 4) 1 = w4029 := by rw [eI4059, pp_ne _ _ (Or.inl (lyx_ne hy (by decide) (by decide) (by decide)))]; exact e4053
  have e4062 : I4059 (ad g 4) 2 = w4030 := by rw [eI4059, pp_ne _ _ (Or.inl (lyx_ne hy (by decide) (by decide) (by decide)))]; exact e4054
  have e4063 : I4059 (ad g 4) 3 = w4031 := by rw [eI4059, pp_ne _ _ (Or.inl (lyx_ne hy (by decide) (by decide) (by decide)))]; exact e4055
  have e4064 : I4059 (ad g 6) 1 = v4058 := by rw [eI4059, pp_self]
  clear eI4059
  exact WP_vret dX7_tellSort_46 rfl ⟨⟨hI4059, rfl, trivial⟩, rfl⟩
set_option maxHeartbeats 4000000 in
set_option maxRecDepth 100000 in
theorem sx_tellThing_6 {g : GG} {n : Int} {L : Int32} (hy : LyX g)  {I : pI} {J : pJ} {R : pR} (hr : RfX g R) (hI : XI g n L I)   (hb : (I (ad g 4) 1).toInt ≤ 1000 ∧ (I (ad g 4) 2).toInt ≤ 9 ∧ (I (ad g 6) 2).toInt ≤ 2) : SP g mX7_tellThing [.ref (ad g 6), .ref (ad g 4)] I J R (fun r I' J' R' => (XI g n L I' ∧ R' = R ∧ True) ∧ r = none) := by
  refine SP_of ⟨by decide, rfl⟩ (Nat.le_of_ble_eq_true rfl) ?_
  have e4065 : I (ad g 1) 1 = L := hI.2
  have b4066 := BT_get hI.1 1 1 2 (0) (0) (900) (by decide) 1 (by decide) (by decide)
  rw [e4065] at b4066
  obtain ⟨w4067, ew4067⟩ : ∃ w : Int32, I (ad g 4) 1 = w := ⟨_, rfl⟩
  have bw4067 := BT_get hI.1 4 0 5 (0) (0) (1000) (by decide) 1 (by decide) (by decide)
  rw [ew4067] at bw4067
  obtain ⟨w4068, ew4068⟩ : ∃ w : Int32, I (ad g 4) 2 = w := ⟨_, rfl⟩
  have bw4068 := BT_get hI.1 4 0 5 (0) (0) (1000) (by decide) 2 (by decide) (by decide)
  rw [ew4068] at bw4068
  obtain ⟨w4069, ew4069⟩ : ∃ w : Int32, I (ad g 6) 2 = w := ⟨_, rfl⟩
  have bw4069 := BT_get hI.1 6 2 3 (0) (0) (3) (by decide) 2 (by decide) (by decide)
  rw [ew4069] at bw4069
  rw [ew4067, ew4068, ew4069] at hb
  refine WP_aload_n dX7_tellThing_0 rfl ?_
  refine WP_getr dX7_tellThing_1 fX7_39 rfl (lyx_is hy 6 7 rfl) (rfx hr 6 14 16 (by decide)) ?_
  refine WP_aload_n dX7_tellThing_4 rfl ?_
  refine WQ_getim dX7_tellThing_5 fX7_68 rfl (lyx_is hy 6 7 rfl) ew4069 ?_
  refine WP_aload_n dX7_tellThing_8 rfl ?_
  refine WQ_iconst (1) (1) dX7_tellThing_9 rfl rfl (fun v4070 hv4070 => ?_)
  refine WQ_ialdm (z := 1) dX7_tellThing_10 (lyx_is hy 4 13 rfl) (lyx_n hy 4 5 rfl) hv4070 (by decide) ew4067 ?_
  refine WQ_iast dX7_tellThing_11 (lyx_is hy 16 13 rfl) (lyx_n hy 16 3 rfl) (by omega) (by omega) (fun I4072 eI4072 => ?_)
  have hI4072 : XI g n L I4072 := by rw [eI4072]; exact (xi_r hy hI (c := 16) (0) (0) (1000) (by decide) (Or.inl (by decide)) (by decide) (by omega) (by omega))
  have e4073 : I4072 (ad g 1) 1 = L := by rw [eI4072, pp_ne _ _ (Or.inl (lyx_ne hy (by decide) (by decide) (by decide)))]; exact e4065
  have e4074 : I4072 (ad g 4) 1 = w4067 := by rw [eI4072, pp_ne _ _ (Or.inl (lyx_ne hy (by decide) (by decide) (by decide)))]; exact ew4067
  have e4075 : I4072 (ad g 4) 2 = w4068 := by rw [eI4072, pp_ne _ _ (Or.inl (lyx_ne hy (by decide) (by decide) (by decide)))]; exact ew4068
  have e4076 : I4072 (ad g 6) 2 = w4069 := by rw [eI4072, pp_ne _ _ (Or.inl (lyx_ne hy (by decide) (by decide) (by decide)))]; exact ew4069
  clear eI4072
  refine WP_aload_n dX7_tellThing_12 rfl ?_
  refine WP_getr dX7_tellThing_13 fX7_42 rfl (lyx_is hy 6 7 rfl) (rfx hr 6 15 17 (by decide)) ?_
  refine WP_aload_n dX7_tellThing_16 rfl ?_
  refine WQ_getim dX7_tellThing_17 fX7_68 rfl (lyx_is hy 6 7 rfl) e4076 ?_
  refine WP_aload_n dX7_tellThing_20 rfl ?_
  refine WQ_iconst (2) (2) dX7_tellThing_21 rfl rfl (fun v4077 hv4077 => ?_)
  refine WQ_ialdm (z := 2) dX7_tellThing_22 (lyx_is hy 4 13 rfl) (lyx_n hy 4 5 rfl) hv4077 (by decide) e4075 ?_
  refine WQ_iast dX7_tellThing_23 (lyx_is hy 17 13 rfl) (lyx_n hy 17 3 rfl) (by omega) (by omega) (fun I4079 eI4079 => ?_)
  have hI4079 : XI g n L I4079 := by rw [eI4079]; exact (xi_r hy hI4072 (c := 17) (0) (0) (9) (by decide) (Or.inl (by decide)) (by decide) (by omega) (by omega))
  have e4080 : I4079 (ad g 1) 1 = L := by rw [eI4079, pp_ne _ _ (Or.inl (lyx_ne hy (by decide) (by decide) (by decide)))]; exact e4073
  have e4081 : I4079 (ad g 4) 1 = w4067 := by rw [eI4079, pp_ne _ _ (Or.inl (lyx_ne hy (by decide) (by decide) (by decide)))]; exact e4074
  have e4082 : I4079 (ad g 4) 2 = w4068 := by rw [eI4079, pp_ne _ _ (Or.inl (lyx_ne hy (by decide) (by decide) (by decide)))]; exact e4075
  have e4083 : I4079 (ad g 6) 2 = w4069 := by rw [eI4079, pp_ne _ _ (Or.inl (lyx_ne hy (by decide) (by decide) (by decide)))]; exact e4076
  clear eI4079
  refine WP_aload_n dX7_tellThing_24 rfl ?_
  refine WP_dup dX7_tellThing_25 rfl ?_
  refine WQ_getim dX7_tellThing_26 fX7_68 rfl (lyx_is hy 6 7 rfl) e4083 ?_
  refine WQ_iconst (1) (1) dX7_tellThing_29 rfl rfl (fun v4084 hv4084 => ?_)
  refine WQ_iadd dX7_tellThing_30 (by omega) (by omega) (fun v4085 hv4085 => ?_)
  refine WQ_puti dX7_tellThing_31 fX7_68 rfl rfl (lyx_is hy 6 7 rfl) (fun I4086 eI4086 => ?_)
  have hI4086 : XI g n L I4086 := by rw [eI4086]; exact (xi_f hy hI4079 (c := 6) (0) (0) (3) (by decide) (Or.inl (by decide)) (by decide) (by omega) (by omega))
  have e4087 : I4086 (ad g 1) 1 = L := by rw [eI4086, pp_ne _ _ (Or.inl (lyx_ne hy (by decide) (by decide) (by decide)))]; exact e4080
  have e4088 : I4086 (ad g 4) 1 = w4067 := by rw [eI4086, pp_ne _ _ (Or.inl (lyx_ne hy (by decide) (by decide) (by decide)))]; exact e4081
  have e4089 : I4086 (ad g 4) 2 = w4068 := by rw [eI4086, pp_ne _ _ (Or.inl (lyx_ne hy (by decide) (by decide) (by decide)))]; exact e4082
  have e4090 : I4086 (ad g 6) 2 = v4085 := by rw [eI4086, pp_self]
  clear eI4086
  refine WP_aload_n dX7_tellThing_34 rfl ?_
  refine WQ_geti dX7_tellThing_35 fX7_74 rfl (lyx_is hy 6 7 rfl) (BT_get hI4086.1 6 4 5 (-1) (0) (2) (by decide) 4 (by decide) (by decide)) (fun v4091 ev4091 av4091 bv4091 => ?_)
  refine WQ_iconst (-1) (-1) dX7_tellThing_38 rfl rfl (fun v4092 hv4092 => ?_)
  refine WQ_icmp_ne 47 dX7_tellThing_39 rfl (fun c4092 => ?_) (fun c4092 => ?_)
  · exact WP_vret dX7_tellThing_47 rfl ⟨⟨hI4086, rfl, trivial⟩, rfl⟩
  · refine WP_aload_n dX7_tellThing_42 rfl ?_
    refine WQ_iconst (0) (0) dX7_tellThing_43 rfl rfl (fun v4094 hv4094 => ?_)
    refine WQ_puti dX7_tellThing_44 fX7_74 rfl rfl (lyx_is hy 6 7 rfl) (fun I4095 eI4095 => ?_)
    have hI4095 : XI g n L I4095 := by rw [eI4095]; exact (xi_f hy hI4086 (c := 6) (-1) (0) (2) (by decide) (Or.inl (by decide)) (by decide) (by omega) (by omega))
    have e4096 : I4095 (ad g 1) 1 = L := by rw [eI4095, pp_ne _ _ (Or.inl (lyx_ne hy (by decide) (by decide) (by decide)))]; exact e4087
    have e4097 : I4095 (ad g 4) 1 = w4067 := by rw [eI4095, pp_ne _ _ (Or.inl (lyx_ne hy (by decide) (by decide) (by decide)))]; exact e4088
    have e4098 : I4095 (ad g 4) 2 = w4068 := by rw [eI4095, pp_ne _ _ (Or.inl (lyx_ne hy (by decide) (by decide) (by decide)))]; exact e4089
    have e4099 : I4095 (ad g 6) 2 = v4085 := by rw [eI4095, pp_ne _ _ (Or.inr (by decide))]; exact e4090
    have e4100 : I4095 (ad g 6) 4 = v4094 := by rw [eI4095, pp_self]
    clear eI4095
    exact WP_vret dX7_tellThing_47 rfl ⟨⟨hI4095, rfl, trivial⟩, rfl⟩
set_option maxHeartbeats 4000000 in
set_option maxRecDepth 100000 in
theorem sx_tellWant_6 {g : GG} {n : Int} {L : Int32} (hy : LyX g)  {I : pI} {J : pJ} {R : pR} (hr : RfX g R) (hI : XI g n L I)   (hb : (I (ad g 4) 0).toInt ≤ 3 ∧ (I (ad g 4) 1).toInt ≤ 2 ∧ (I (ad g 4) 2).toInt ≤ 6 ∧ (I (ad g 4) 3).toInt ≤ 3 ∧ (I (ad g 4) 4).toInt ≤ 99) : SP g mX7_tellWant [.ref (ad g 6), .ref (ad g 4)] I J R (fun r I' J' R' => (XI g n L I' ∧ R' = R ∧ True) ∧ r = none) := by
  refine SP_of ⟨by decide, rfl⟩ (Nat.le_of_ble_eq_true rfl) ?_
  have e4101 : I (ad g 1) 1 = L := hI.2
  have b4102 := BT_get hI.1 1 1 2 (0) (0) (900) (by decide) 1 (by decide) (by decide)
  rw [e4101] at b4102
  obtain ⟨w4103, ew4103⟩ : ∃ w : Int32, I (ad g 4) 0 = w := ⟨_, rfl⟩
  have bw4103 := BT_get hI.1 4 0 5 (0) (0) (1000) (by decide) 0 (by decide) (by decide)
  rw [ew4103] at bw4103
  obtain ⟨w4104, ew4104⟩ : ∃ w : Int32, I (ad g 4) 1 = w := ⟨_, rfl⟩
  have bw4104 := BT_get hI.1 4 0 5 (0) (0) (1000) (by decide) 1 (by decide) (by decide)
  rw [ew4104] at bw4104
  obtain ⟨w4105, ew4105⟩ : ∃ w : Int32, I (ad g 4) 2 = w := ⟨_, rfl⟩
  have bw4105 := BT_get hI.1 4 0 5 (0) (0) (1000) (by decide) 2 (by decide) (by decide)
  rw [ew4105] at bw4105
  obtain ⟨w4106, ew4106⟩ : ∃ w : Int32, I (ad g 4) 3 = w := ⟨_, rfl⟩
  have bw4106 := BT_get hI.1 4 0 5 (0) (0) (1000) (by decide) 3 (by decide) (by decide)
  rw [ew4106] at bw4106
  obtain ⟨w4107, ew4107⟩ : ∃ w : Int32, I (ad g 4) 4 = w := ⟨_, rfl⟩
  have bw4107 := BT_get hI.1 4 0 5 (0) (0) (1000) (by decide) 4 (by decide) (by decide)
  rw [ew4107] at bw4107
  rw [ew4103, ew4104, ew4105, ew4106, ew4107] at hb
  refine WP_aload_n dX7_tellWant_0 rfl ?_
  refine WQ_iconst (0) (0) dX7_tellWant_1 rfl rfl (fun v4108 hv4108 => ?_)
  refine WQ_ialdm (z := 0) dX7_tellWant_2 (lyx_is hy 4 13 rfl) (lyx_n hy 4 5 rfl) hv4108 (by decide) ew4103 ?_
  refine WQ_bipush (7) (7) dX7_tellWant_3 rfl rfl (fun v4110 hv4110 => ?_)
  refine WQ_imulk (7) dX7_tellWant_5 hv4110 (by omega) (by omega) (fun v4111 hv4111 => ?_)
  refine WP_aload_n dX7_tellWant_6 rfl ?_
  refine WQ_iconst (2) (2) dX7_tellWant_7 rfl rfl (fun v4112 hv4112 => ?_)
  refine WQ_ialdm (z := 2) dX7_tellWant_8 (lyx_is hy 4 13 rfl) (lyx_n hy 4 5 rfl) hv4112 (by decide) ew4105 ?_
  refine WQ_iadd dX7_tellWant_9 (by omega) (by omega) (fun v4114 hv4114 => ?_)
  refine WP_istore_n (ls' := [(0, _), (1, _), (2, _)]) dX7_tellWant_10 (by decide) rfl ?_
  refine WP_aload_n dX7_tellWant_11 rfl ?_
  refine WP_getr dX7_tellWant_12 fX7_30 rfl (lyx_is hy 6 7 rfl) (rfx hr 6 11 13 (by decide)) ?_
  refine WP_iload_n dX7_tellWant_15 rfl ?_
  refine WP_aload_n dX7_tellWant_16 rfl ?_
  refine WQ_iconst (1) (1) dX7_tellWant_17 rfl rfl (fun v4115 hv4115 => ?_)
  refine WQ_ialdm (z := 1) dX7_tellWant_18 (lyx_is hy 4 13 rfl) (lyx_n hy 4 5 rfl) hv4115 (by decide) ew4104 ?_
  refine WQ_iast dX7_tellWant_19 (lyx_is hy 13 13 rfl) (lyx_n hy 13 28 rfl) (by omega) (by omega) (fun I4117 eI4117 => ?_)
  have hI4117 : XI g n L I4117 := by rw [eI4117]; exact (xi_r hy hI (c := 13) (-1) (0) (2) (by decide) (Or.inl (by decide)) (by decide) (by omega) (by omega))
  have e4118 : I4117 (ad g 1) 1 = L := by rw [eI4117, pp_ne _ _ (Or.inl (lyx_ne hy (by decide) (by decide) (by decide)))]; exact e4101
  have e4119 : I4117 (ad g 4) 0 = w4103 := by rw [eI4117, pp_ne _ _ (Or.inl (lyx_ne hy (by decide) (by decide) (by decide)))]; exact ew4103
  have e4120 : I4117 (ad g 4) 1 = w4104 := by rw [eI4117, pp_ne _ _ (Or.inl (lyx_ne hy (by decide) (by decide) (by decide)))]; exact ew4104
  have e4121 : I4117 (ad g 4) 2 = w4105 := by rw [eI4117, pp_ne _ _ (Or.inl (lyx_ne hy (by decide) (by decide) (by decide)))]; exact ew4105
  have e4122 : I4117 (ad g 4) 3 = w4106 := by rw [eI4117, pp_ne _ _ (Or.inl (lyx_ne hy (by decide) (by decide) (by decide)))]; exact ew4106
  have e4123 : I4117 (ad g 4) 4 = w4107 := by rw [eI4117, pp_ne _ _ (Or.inl (lyx_ne hy (by decide) (by decide) (by decide)))]; exact ew4107
  clear eI4117
  refine WP_aload_n dX7_tellWant_20 rfl ?_
  refine WP_getr dX7_tellWant_21 fX7_33 rfl (lyx_is hy 6 7 rfl) (rfx hr 6 12 14 (by decide)) ?_
  refine WP_iload_n dX7_tellWant_24 rfl ?_
  refine WP_aload_n dX7_tellWant_25 rfl ?_
  refine WQ_iconst (3) (3) dX7_tellWant_26 rfl rfl (fun v4124 hv4124 => ?_)
  refine WQ_ialdm (z := 3) dX7_tellWant_27 (lyx_is hy 4 13 rfl) (lyx_n hy 4 5 rfl) hv4124 (by decide) e4122 ?_
  refine WQ_iast dX7_tellWant_28 (lyx_is hy 14 13 rfl) (lyx_n hy 14 28 rfl) (by omega) (by omega) (fun I4126 eI4126 => ?_)
  have hI4126 : XI g n L I4126 := by rw [eI4126]; exact (xi_r hy hI4117 (c := 14) (0) (0) (3) (by decide) (Or.inl (by decide)) (by decide) (by omega) (by omega))
  have e4127 : I4126 (ad g 1) 1 = L := by rw [eI4126, pp_ne _ _ (Or.inl (lyx_ne hy (by decide) (by decide) (by decide)))]; exact e4118
  have e4128 : I4126 (ad g 4) 0 = w4103 := by rw [eI4126, pp_ne _ _ (Or.inl (lyx_ne hy (by decide) (by decide) (by decide)))]; exact e4119
  have e4129 : I4126 (ad g 4) 1 = w4104 := by rw [eI4126, pp_ne _ _ (Or.inl (lyx_ne hy (by decide) (by decide) (by decide)))]; exact e4120
  have e4130 : I4126 (ad g 4) 2 = w4105 := by rw [eI4126, pp_ne _ _ (Or.inl (lyx_ne hy (by decide) (by decide) (by decide)))]; exact e4121
  have e4131 : I4126 (ad g 4) 3 = w4106 := by rw [eI4126, pp_ne _ _ (Or.inl (lyx_ne hy (by decide) (by decide) (by decide)))]; exact e4122
  have e4132 : I4126 (ad g 4) 4 = w4107 := by rw [eI4126, pp_ne _ _ (Or.inl (lyx_ne hy (by decide) (by decide) (by decide)))]; exact e4123
  clear eI4126
  refine WP_aload_n dX7_tellWant_29 rfl ?_
  refine WP_getr dX7_tellWant_30 fX7_36 rfl (lyx_is hy 6 7 rfl) (rfx hr 6 13 15 (by decide)) ?_
  refine WP_iload_n dX7_tellWant_33 rfl ?_
  refine WP_aload_n dX7_tellWant_34 rfl ?_
  refine WQ_iconst (4) (4) dX7_tellWant_35 rfl rfl (fun v4133 hv4133 => ?_)
  refine WQ_ialdm (z := 4) dX7_tellWant_36 (lyx_is hy 4 13 rfl) (lyx_n hy 4 5 rfl) hv4133 (by decide) e4132 ?_
  refine WQ_iast dX7_tellWant_37 (lyx_is hy 15 13 rfl) (lyx_n hy 15 28 rfl) (by omega) (by omega) (fun I4135 eI4135 => ?_)
  have hI4135 : XI g n L I4135 := by rw [eI4135]; exact (xi_r hy hI4126 (c := 15) (0) (0) (99) (by decide) (Or.inl (by decide)) (by decide) (by omega) (by omega))
  have e4136 : I4135 (ad g 1) 1 = L := by rw [eI4135, pp_ne _ _ (Or.inl (lyx_ne hy (by decide) (by decide) (by decide)))]; exact e4127
  have e4137 : I4135 (ad g 4) 0 = w4103 := by rw [eI4135, pp_ne _ _ (Or.inl (lyx_ne hy (by decide) (by decide) (by decide)))]; exact e4128
  have e4138 : I4135 (ad g 4) 1 = w4104 := by rw [eI4135, pp_ne _ _ (Or.inl (lyx_ne hy (by decide) (by decide) (by decide)))]; exact e4129
  have e4139 : I4135 (ad g 4) 2 = w4105 := by rw [eI4135, pp_ne _ _ (Or.inl (lyx_ne hy (by decide) (by decide) (by decide)))]; exact e4130
  have e4140 : I4135 (ad g 4) 3 = w4106 := by rw [eI4135, pp_ne _ _ (Or.inl (lyx_ne hy (by decide) (by decide) (by decide)))]; exact e4131
  have e4141 : I4135 (ad g 4) 4 = w4107 := by rw [eI4135, pp_ne _ _ (Or.inl (lyx_ne hy (by decide) (by decide) (by decide)))]; exact e4132
  clear eI4135
  refine WP_aload_n dX7_tellWant_38 rfl ?_
  refine WQ_bipush (6) (6) dX7_tellWant_39 rfl rfl (fun v4142 hv4142 => ?_)
  refine WP_aload_n dX7_tellWant_41 rfl ?_
  refine WQ_iconst (0) (0) dX7_tellWant_42 rfl rfl (fun v4143 hv4143 => ?_)
  refine WQ_ialdm (z := 0) dX7_tellWant_43 (lyx_is hy 4 13 rfl) (lyx_n hy 4 5 rfl) hv4143 (by decide) e4137 ?_
  refine WP_aload_n dX7_tellWant_44 rfl ?_
  refine WQ_iconst (2) (2) dX7_tellWant_45 rfl rfl (fun v4145 hv4145 => ?_)
  refine WQ_ialdm (z := 2) dX7_tellWant_46 (lyx_is hy 4 13 rfl) (lyx_n hy 4 5 rfl) hv4145 (by decide) e4139 ?_
  refine WP_callV3 (k := 7) dX7_tellWant_47 ⟨⟨⟨by decide, by decide⟩, zX7_hold⟩, lX7_109, by decide, rfl, vX7_hold.1, vX7_hold.2⟩ (lyx_is hy 6 7 rfl) (sx_hold_6 hy hr hI4135 v4142 w4103 w4105 (by omega) (by omega) (by omega) (by omega) ) (Nat.le_of_ble_eq_true rfl) ?_
  intro r I4147 J4148 Ra hq
  obtain ⟨⟨hI4147, ec⟩, rfl⟩ := hq
  rw [ec]
  clear ec Ra
  have e4149 : I4147 (ad g 1) 1 = L := hI4147.2
  have b4150 := BT_get hI4147.1 1 1 2 (0) (0) (900) (by decide) 1 (by decide) (by decide)
  rw [e4149] at b4150
  exact WP_vret dX7_tellWant_50 rfl ⟨⟨hI4147, rfl, trivial⟩, rfl⟩
set_option maxHeartbeats 4000000 in
set_option maxRecDepth 100000 in
theorem sx_tellOn_6_3 {g : GG} {n : Int} {L : Int32} (hy : LyX g)  {I : pI} {J : pJ} {R : pR} (hr : RfX g R) (hI : XI g n L I) (cl : Int32) (cl_lo : 3 ≤ cl.toInt) (cl_hi : cl.toInt ≤ 3) (hb : (I (ad g 4) 0).toInt ≤ 3 ∧ (I (ad g 4) 1).toInt ≤ 6 ∧ (I (ad g 4) 2).toInt ≤ 20) : SP g mX7_tellOn [.ref (ad g 6), .ref (ad g 12), .int cl, .ref (ad g 4)] I J R (fun r I' J' R' => (XI g n L I' ∧ R' = R ∧ True) ∧ r = none) := by
  refine SP_of ⟨by decide, rfl⟩ (Nat.le_of_ble_eq_true rfl) ?_
  have e4151 : I (ad g 1) 1 = L := hI.2
  have b4152 := BT_get hI.1 1 1 2 (0) (0) (900) (by decide) 1 (by decide) (by decide)
  rw [e4151] at b4152
  obtain ⟨w4153, ew4153⟩ : ∃ w : Int32, I (ad g 4) 0 = w := ⟨_, rfl⟩
  have bw4153 := BT_get hI.1 4 0 5 (0) (0) (1000) (by decide) 0 (by decide) (by decide)
  rw [ew4153] at bw4153
  obtain ⟨w4154, ew4154⟩ : ∃ w : Int32, I (ad g 4) 1 = w := ⟨_, rfl⟩
  have bw4154 := BT_get hI.1 4 0 5 (0) (0) (1000) (by decide) 1 (by decide) (by decide)
  rw [ew4154] at bw4154
  obtain ⟨w4155, ew4155⟩ : ∃ w : Int32, I (ad g 4) 2 = w := ⟨_, rfl⟩
  have bw4155 := BT_get hI.1 4 0 5 (0) (0) (1000) (by decide) 2 (by decide) (by decide)
  rw [ew4155] at bw4155
  rw [ew4153, ew4154, ew4155] at hb
  refine WP_aload_n dX7_tellOn_0 rfl ?_
  refine WP_aload_n dX7_tellOn_1 rfl ?_
  refine WQ_iconst (0) (0) dX7_tellOn_2 rfl rfl (fun v4156 hv4156 => ?_)
  refine WQ_ialdm (z := 0) dX7_tellOn_3 (lyx_is hy 4 13 rfl) (lyx_n hy 4 5 rfl) hv4156 (by decide) ew4153 ?_
  refine WQ_bipush (7) (7) dX7_tellOn_4 rfl rfl (fun v4158 hv4158 => ?_)
  refine WQ_imulk (7) dX7_tellOn_6 hv4158 (by omega) (by omega) (fun v4159 hv4159 => ?_)
  refine WP_aload_n dX7_tellOn_7 rfl ?_
  refine WQ_iconst (1) (1) dX7_tellOn_8 rfl rfl (fun v4160 hv4160 => ?_)
  refine WQ_ialdm (z := 1) dX7_tellOn_9 (lyx_is hy 4 13 rfl) (lyx_n hy 4 5 rfl) hv4160 (by decide) ew4154 ?_
  refine WQ_iadd dX7_tellOn_10 (by omega) (by omega) (fun v4162 hv4162 => ?_)
  refine WP_aload_n dX7_tellOn_11 rfl ?_
  refine WQ_iconst (2) (2) dX7_tellOn_12 rfl rfl (fun v4163 hv4163 => ?_)
  refine WQ_ialdm (z := 2) dX7_tellOn_13 (lyx_is hy 4 13 rfl) (lyx_n hy 4 5 rfl) hv4163 (by decide) ew4155 ?_
  refine WQ_iast dX7_tellOn_14 (lyx_is hy 12 13 rfl) (lyx_n hy 12 28 rfl) (by omega) (by omega) (fun I4165 eI4165 => ?_)
  have hI4165 : XI g n L I4165 := by rw [eI4165]; exact (xi_r hy hI (c := 12) (0) (0) (20) (by decide) (Or.inl (by decide)) (by decide) (by omega) (by omega))
  have e4166 : I4165 (ad g 1) 1 = L := by rw [eI4165, pp_ne _ _ (Or.inl (lyx_ne hy (by decide) (by decide) (by decide)))]; exact e4151
  have e4167 : I4165 (ad g 4) 0 = w4153 := by rw [eI4165, pp_ne _ _ (Or.inl (lyx_ne hy (by decide) (by decide) (by decide)))]; exact ew4153
  have e4168 : I4165 (ad g 4) 1 = w4154 := by rw [eI4165, pp_ne _ _ (Or.inl (lyx_ne hy (by decide) (by decide) (by decide)))]; exact ew4154
  have e4169 : I4165 (ad g 4) 2 = w4155 := by rw [eI4165, pp_ne _ _ (Or.inl (lyx_ne hy (by decide) (by decide) (by decide)))]; exact ew4155
  clear eI4165
  refine WP_aload_n dX7_tellOn_15 rfl ?_
  refine WP_iload_n dX7_tellOn_16 rfl ?_
  refine WP_aload_n dX7_tellOn_17 rfl ?_
  refine WQ_iconst (0) (0) dX7_tellOn_18 rfl rfl (fun v4170 hv4170 => ?_)
  refine WQ_ialdm (z := 0) dX7_tellOn_19 (lyx_is hy 4 13 rfl) (lyx_n hy 4 5 rfl) hv4170 (by decide) e4167 ?_
  refine WP_aload_n dX7_tellOn_20 rfl ?_
  refine WQ_iconst (1) (1) dX7_tellOn_21 rfl rfl (fun v4172 hv4172 => ?_)
  refine WQ_ialdm (z := 1) dX7_tellOn_22 (lyx_is hy 4 13 rfl) (lyx_n hy 4 5 rfl) hv4172 (by decide) e4168 ?_
  refine WP_callV3 (k := 7) dX7_tellOn_23 ⟨⟨⟨by decide, by decide⟩, zX7_hold⟩, lX7_109, by decide, rfl, vX7_hold.1, vX7_hold.2⟩ (lyx_is hy 6 7 rfl) (sx_hold_6 hy hr hI4165 cl w4153 w4154 (by omega) (by omega) (by omega) (by omega) ) (Nat.le_of_ble_eq_true rfl) ?_
  intro r I4174 J4175 Ra hq
  obtain ⟨⟨hI4174, ec⟩, rfl⟩ := hq
  rw [ec]
  clear ec Ra
  have e4176 : I4174 (ad g 1) 1 = L := hI4174.2
  have b4177 := BT_get hI4174.1 1 1 2 (0) (0) (900) (by decide) 1 (by decide) (by decide)
  rw [e4176] at b4177
  exact WP_vret dX7_tellOn_26 rfl ⟨⟨hI4174, rfl, trivial⟩, rfl⟩
set_option maxHeartbeats 4000000 in
set_option maxRecDepth 100000 in
theorem sx_tellOn_6_4 {g : GG} {n : Int} {L : Int32} (hy : LyX g)  {I : pI} {J : pJ} {R : pR} (hr : RfX g R) (hI : XI g n L I) (cl : Int32) (cl_lo : 4 ≤ cl.toInt) (cl_hi : cl.toInt ≤ 4) (hb : (I (ad g 4) 0).toInt ≤ 2 ∧ (I (ad g 4) 1).toInt ≤ 6 ∧ (I (ad g 4) 2).toInt ≤ 20) : SP g mX7_tellOn [.ref (ad g 6), .ref (ad g 18), .int cl, .ref (ad g 4)] I J R (fun r I' J' R' => (XI g n L I' ∧ R' = R ∧ True) ∧ r = none) := by
  refine SP_of ⟨by decide, rfl⟩ (Nat.le_of_ble_eq_true rfl) ?_
  have e4178 : I (ad g 1) 1 = L := hI.2
  have b4179 := BT_get hI.1 1 1 2 (0) (0) (900) (by decide) 1 (by decide) (by decide)
  rw [e4178] at b4179
  obtain ⟨w4180, ew4180⟩ : ∃ w : Int32, I (ad g 4) 0 = w := ⟨_, rfl⟩
  have bw4180 := BT_get hI.1 4 0 5 (0) (0) (1000) (by decide) 0 (by decide) (by decide)
  rw [ew4180] at bw4180
  obtain ⟨w4181, ew4181⟩ : ∃ w : Int32, I (ad g 4) 1 = w := ⟨_, rfl⟩
  have bw4181 := BT_get hI.1 4 0 5 (0) (0) (1000) (by decide) 1 (by decide) (by decide)
  rw [ew4181] at bw4181
  obtain ⟨w4182, ew4182⟩ : ∃ w : Int32, I (ad g 4) 2 = w := ⟨_, rfl⟩
  have bw4182 := BT_get hI.1 4 0 5 (0) (0) (1000) (by decide) 2 (by decide) (by decide)
  rw [ew4182] at bw4182
  rw [ew4180, ew4181, ew4182] at hb
  refine WP_aload_n dX7_tellOn_0 rfl ?_
  refine WP_aload_n dX7_tellOn_1 rfl ?_
  refine WQ_iconst (0) (0) dX7_tellOn_2 rfl rfl (fun v4183 hv4183 => ?_)
  refine WQ_ialdm (z := 0) dX7_tellOn_3 (lyx_is hy 4 13 rfl) (lyx_n hy 4 5 rfl) hv4183 (by decide) ew4180 ?_
  refine WQ_bipush (7) (7) dX7_tellOn_4 rfl rfl (fun v4185 hv4185 => ?_)
  refine WQ_imulk (7) dX7_tellOn_6 hv4185 (by omega) (by omega) (fun v4186 hv4186 => ?_)
  refine WP_aload_n dX7_tellOn_7 rfl ?_
  refine WQ_iconst (1) (1) dX7_tellOn_8 rfl rfl (fun v4187 hv4187 => ?_)
  refine WQ_ialdm (z := 1) dX7_tellOn_9 (lyx_is hy 4 13 rfl) (lyx_n hy 4 5 rfl) hv4187 (by decide) ew4181 ?_
  refine WQ_iadd dX7_tellOn_10 (by omega) (by omega) (fun v4189 hv4189 => ?_)
  refine WP_aload_n dX7_tellOn_11 rfl ?_
  refine WQ_iconst (2) (2) dX7_tellOn_12 rfl rfl (fun v4190 hv4190 => ?_)
  refine WQ_ialdm (z := 2) dX7_tellOn_13 (lyx_is hy 4 13 rfl) (lyx_n hy 4 5 rfl) hv4190 (by decide) ew4182 ?_
  refine WQ_iast dX7_tellOn_14 (lyx_is hy 18 13 rfl) (lyx_n hy 18 21 rfl) (by omega) (by omega) (fun I4192 eI4192 => ?_)
  have hI4192 : XI g n L I4192 := by rw [eI4192]; exact (xi_r hy hI (c := 18) (0) (0) (20) (by decide) (Or.inl (by decide)) (by decide) (by omega) (by omega))
  have e4193 : I4192 (ad g 1) 1 = L := by rw [eI4192, pp_ne _ _ (Or.inl (lyx_ne hy (by decide) (by decide) (by decide)))]; exact e4178
  have e4194 : I4192 (ad g 4) 0 = w4180 := by rw [eI4192, pp_ne _ _ (Or.inl (lyx_ne hy (by decide) (by decide) (by decide)))]; exact ew4180
  have e4195 : I4192 (ad g 4) 1 = w4181 := by rw [eI4192, pp_ne _ _ (Or.inl (lyx_ne hy (by decide) (by decide) (by decide)))]; exact ew4181
  have e4196 : I4192 (ad g 4) 2 = w4182 := by rw [eI4192, pp_ne _ _ (Or.inl (lyx_ne hy (by decide) (by decide) (by decide)))]; exact ew4182
  clear eI4192
  refine WP_aload_n dX7_tellOn_15 rfl ?_
  refine WP_iload_n dX7_tellOn_16 rfl ?_
  refine WP_aload_n dX7_tellOn_17 rfl ?_
  refine WQ_iconst (0) (0) dX7_tellOn_18 rfl rfl (fun v4197 hv4197 => ?_)
  refine WQ_ialdm (z := 0) dX7_tellOn_19 (lyx_is hy 4 13 rfl) (lyx_n hy 4 5 rfl) hv4197 (by decide) e4194 ?_
  refine WP_aload_n dX7_tellOn_20 rfl ?_
  refine WQ_iconst (1) (1) dX7_tellOn_21 rfl rfl (fun v4199 hv4199 => ?_)
  refine WQ_ialdm (z := 1) dX7_tellOn_22 (lyx_is hy 4 13 rfl) (lyx_n hy 4 5 rfl) hv4199 (by decide) e4195 ?_
  refine WP_callV3 (k := 7) dX7_tellOn_23 ⟨⟨⟨by decide, by decide⟩, zX7_hold⟩, lX7_109, by decide, rfl, vX7_hold.1, vX7_hold.2⟩ (lyx_is hy 6 7 rfl) (sx_hold_6 hy hr hI4192 cl w4180 w4181 (by omega) (by omega) (by omega) (by omega) ) (Nat.le_of_ble_eq_true rfl) ?_
  intro r I4201 J4202 Ra hq
  obtain ⟨⟨hI4201, ec⟩, rfl⟩ := hq
  rw [ec]
  clear ec Ra
  have e4203 : I4201 (ad g 1) 1 = L := hI4201.2
  have b4204 := BT_get hI4201.1 1 1 2 (0) (0) (900) (by decide) 1 (by decide) (by decide)
  rw [e4203] at b4204
  exact WP_vret dX7_tellOn_26 rfl ⟨⟨hI4201, rfl, trivial⟩, rfl⟩
set_option maxHeartbeats 4000000 in
set_option maxRecDepth 100000 in
theorem sx_tellOn_6_5 {g : GG} {n : Int} {L : Int32} (hy : LyX g)  {I : pI} {J : pJ} {R : pR} (hr : RfX g R) (hI : XI g n L I) (cl : Int32) (cl_lo : 5 ≤ cl.toInt) (cl_hi : cl.toInt ≤ 5) (hb : (I (ad g 4) 0).toInt ≤ 2 ∧ (I (ad g 4) 1).toInt ≤ 6 ∧ (I (ad g 4) 2).toInt ≤ 999) : SP g mX7_tellOn [.ref (ad g 6), .ref (ad g 19), .int cl, .ref (ad g 4)] I J R (fun r I' J' R' => (XI g n L I' ∧ R' = R ∧ True) ∧ r = none) := by
  refine SP_of ⟨by decide, rfl⟩ (Nat.le_of_ble_eq_true rfl) ?_
  have e4205 : I (ad g 1) 1 = L := hI.2
  have b4206 := BT_get hI.1 1 1 2 (0) (0) (900) (by decide) 1 (by decide) (by decide)
  rw [e4205] at b4206
  obtain ⟨w4207, ew4207⟩ : ∃ w : Int32, I (ad g 4) 0 = w := ⟨_, rfl⟩
  have bw4207 := BT_get hI.1 4 0 5 (0) (0) (1000) (by decide) 0 (by decide) (by decide)
  rw [ew4207] at bw4207
  obtain ⟨w4208, ew4208⟩ : ∃ w : Int32, I (ad g 4) 1 = w := ⟨_, rfl⟩
  have bw4208 := BT_get hI.1 4 0 5 (0) (0) (1000) (by decide) 1 (by decide) (by decide)
  rw [ew4208] at bw4208
  obtain ⟨w4209, ew4209⟩ : ∃ w : Int32, I (ad g 4) 2 = w := ⟨_, rfl⟩
  have bw4209 := BT_get hI.1 4 0 5 (0) (0) (1000) (by decide) 2 (by decide) (by decide)
  rw [ew4209] at bw4209
  rw [ew4207, ew4208, ew4209] at hb
  refine WP_aload_n dX7_tellOn_0 rfl ?_
  refine WP_aload_n dX7_tellOn_1 rfl ?_
  refine WQ_iconst (0) (0) dX7_tellOn_2 rfl rfl (fun v4210 hv4210 => ?_)
  refine WQ_ialdm (z := 0) dX7_tellOn_3 (lyx_is hy 4 13 rfl) (lyx_n hy 4 5 rfl) hv4210 (by decide) ew4207 ?_
  refine WQ_bipush (7) (7) dX7_tellOn_4 rfl rfl (fun v4212 hv4212 => ?_)
  refine WQ_imulk (7) dX7_tellOn_6 hv4212 (by omega) (by omega) (fun v4213 hv4213 => ?_)
  refine WP_aload_n dX7_tellOn_7 rfl ?_
  refine WQ_iconst (1) (1) dX7_tellOn_8 rfl rfl (fun v4214 hv4214 => ?_)
  refine WQ_ialdm (z := 1) dX7_tellOn_9 (lyx_is hy 4 13 rfl) (lyx_n hy 4 5 rfl) hv4214 (by decide) ew4208 ?_
  refine WQ_iadd dX7_tellOn_10 (by omega) (by omega) (fun v4216 hv4216 => ?_)
  refine WP_aload_n dX7_tellOn_11 rfl ?_
  refine WQ_iconst (2) (2) dX7_tellOn_12 rfl rfl (fun v4217 hv4217 => ?_)
  refine WQ_ialdm (z := 2) dX7_tellOn_13 (lyx_is hy 4 13 rfl) (lyx_n hy 4 5 rfl) hv4217 (by decide) ew4209 ?_
  refine WQ_iast dX7_tellOn_14 (lyx_is hy 19 13 rfl) (lyx_n hy 19 21 rfl) (by omega) (by omega) (fun I4219 eI4219 => ?_)
  have hI4219 : XI g n L I4219 := by rw [eI4219]; exact (xi_r hy hI (c := 19) (-1) (0) (999) (by decide) (Or.inl (by decide)) (by decide) (by omega) (by omega))
  have e4220 : I4219 (ad g 1) 1 = L := by rw [eI4219, pp_ne _ _ (Or.inl (lyx_ne hy (by decide) (by decide) (by decide)))]; exact e4205
  have e4221 : I4219 (ad g 4) 0 = w4207 := by rw [eI4219, pp_ne _ _ (Or.inl (lyx_ne hy (by decide) (by decide) (by decide)))]; exact ew4207
  have e4222 : I4219 (ad g 4) 1 = w4208 := by rw [eI4219, pp_ne _ _ (Or.inl (lyx_ne hy (by decide) (by decide) (by decide)))]; exact ew4208
  have e4223 : I4219 (ad g 4) 2 = w4209 := by rw [eI4219, pp_ne _ _ (Or.inl (lyx_ne hy (by decide) (by decide) (by decide)))]; exact ew4209
  clear eI4219
  refine WP_aload_n dX7_tellOn_15 rfl ?_
  refine WP_iload_n dX7_tellOn_16 rfl ?_
  refine WP_aload_n dX7_tellOn_17 rfl ?_
  refine WQ_iconst (0) (0) dX7_tellOn_18 rfl rfl (fun v4224 hv4224 => ?_)
  refine WQ_ialdm (z := 0) dX7_tellOn_19 (lyx_is hy 4 13 rfl) (lyx_n hy 4 5 rfl) hv4224 (by decide) e4221 ?_
  refine WP_aload_n dX7_tellOn_20 rfl ?_
  refine WQ_iconst (1) (1) dX7_tellOn_21 rfl rfl (fun v4226 hv4226 => ?_)
  refine WQ_ialdm (z := 1) dX7_tellOn_22 (lyx_is hy 4 13 rfl) (lyx_n hy 4 5 rfl) hv4226 (by decide) e4222 ?_
  refine WP_callV3 (k := 7) dX7_tellOn_23 ⟨⟨⟨by decide, by decide⟩, zX7_hold⟩, lX7_109, by decide, rfl, vX7_hold.1, vX7_hold.2⟩ (lyx_is hy 6 7 rfl) (sx_hold_6 hy hr hI4219 cl w4207 w4208 (by omega) (by omega) (by omega) (by omega) ) (Nat.le_of_ble_eq_true rfl) ?_
  intro r I4228 J4229 Ra hq
  obtain ⟨⟨hI4228, ec⟩, rfl⟩ := hq
  rw [ec]
  clear ec Ra
  have e4230 : I4228 (ad g 1) 1 = L := hI4228.2
  have b4231 := BT_get hI4228.1 1 1 2 (0) (0) (900) (by decide) 1 (by decide) (by decide)
  rw [e4230] at b4231
  exact WP_vret dX7_tellOn_26 rfl ⟨⟨hI4228, rfl, trivial⟩, rfl⟩
set_option maxHeartbeats 4000000 in
set_option maxRecDepth 100000 in
theorem sx_tell_6_0 {g : GG} {n : Int} {L : Int32} (hy : LyX g)  {I : pI} {J : pJ} {R : pR} (hr : RfX g R) (hI : XI g n L I) (cl : Int32) (cl_lo : 0 ≤ cl.toInt) (cl_hi : cl.toInt ≤ 0) (hb : (I (ad g 4) 0).toInt ≤ 6 ∧ (I (ad g 4) 1).toInt ≤ 900) : SP g mX7_tell [.ref (ad g 6), .int cl, .ref (ad g 4)] I J R (fun r I' J' R' => (XI g n L I' ∧ R' = R ∧ True) ∧ r = none) := by
  refine SP_of ⟨by decide, rfl⟩ (Nat.le_of_ble_eq_true rfl) ?_
  have e4232 : I (ad g 1) 1 = L := hI.2
  have b4233 := BT_get hI.1 1 1 2 (0) (0) (900) (by decide) 1 (by decide) (by decide)
  rw [e4232] at b4233
  obtain ⟨w4234, ew4234⟩ : ∃ w : Int32, I (ad g 4) 0 = w := ⟨_, rfl⟩
  have bw4234 := BT_get hI.1 4 0 5 (0) (0) (1000) (by decide) 0 (by decide) (by decide)
  rw [ew4234] at bw4234
  obtain ⟨w4235, ew4235⟩ : ∃ w : Int32, I (ad g 4) 1 = w := ⟨_, rfl⟩
  have bw4235 := BT_get hI.1 4 0 5 (0) (0) (1000) (by decide) 1 (by decide) (by decide)
  rw [ew4235] at bw4235
  rw [ew4234, ew4235] at hb
  refine WP_aload_n dX7_tell_0 rfl ?_
  refine WP_dup dX7_tell_1 rfl ?_
  refine WQ_getiu dX7_tell_2 fX7_61 rfl (lyx_is hy 6 7 rfl) (fun v4236 ev4236 => ?_)
  refine WQ_iconst (1) (1) dX7_tell_5 rfl rfl (fun v4237 hv4237 => ?_)
  refine WQ_iaddu dX7_tell_6 (fun v4238 => ?_)
  refine WQ_puti dX7_tell_7 fX7_61 rfl rfl (lyx_is hy 6 7 rfl) (fun I4239 eI4239 => ?_)
  have hI4239 : XI g n L I4239 := by rw [eI4239]; exact (xi_f0 hy hI (c := 6) (by decide) (Or.inl (by decide)) (by decide))
  have e4240 : I4239 (ad g 1) 1 = L := by rw [eI4239, pp_ne _ _ (Or.inl (lyx_ne hy (by decide) (by decide) (by decide)))]; exact e4232
  have e4241 : I4239 (ad g 4) 0 = w4234 := by rw [eI4239, pp_ne _ _ (Or.inl (lyx_ne hy (by decide) (by decide) (by decide)))]; exact ew4234
  have e4242 : I4239 (ad g 4) 1 = w4235 := by rw [eI4239, pp_ne _ _ (Or.inl (lyx_ne hy (by decide) (by decide) (by decide)))]; exact ew4235
  have e4243 : I4239 (ad g 6) 0 = v4238 := by rw [eI4239, pp_self]
  clear eI4239
  refine WP_iload_n dX7_tell_10 rfl ?_
  refine WP_tab 178 dX7_tell_11 rfl rfl (fun c4243 => ?_) (fun j off c4243 hj => ?_) (by decide)
  · exact False.elim (by omega)
  · have hlt : j < 9 := by have := (Array.getElem?_eq_some_iff.mp hj).1; simpa using this
    have hcs : (j = 0 ∧ off = 49) ∨ (j = 1 ∧ off = 62) ∨ (j = 2 ∧ off = 70) ∨ (j = 3 ∧ off = 78) ∨ (j = 4 ∧ off = 91) ∨ (j = 5 ∧ off = 104) ∨ (j = 6 ∧ off = 117) ∨ (j = 7 ∧ off = 125) ∨ (j = 8 ∧ off = 149) := by
      match j, hlt, hj with
      | 0, _, hj => exact Or.inl ⟨rfl, (Option.some.inj hj).symm⟩
      | 1, _, hj => exact Or.inr (Or.inl ⟨rfl, (Option.some.inj hj).symm⟩)
      | 2, _, hj => exact Or.inr (Or.inr (Or.inl ⟨rfl, (Option.some.inj hj).symm⟩))
      | 3, _, hj => exact Or.inr (Or.inr (Or.inr (Or.inl ⟨rfl, (Option.some.inj hj).symm⟩)))
      | 4, _, hj => exact Or.inr (Or.inr (Or.inr (Or.inr (Or.inl ⟨rfl, (Option.some.inj hj).symm⟩))))
      | 5, _, hj => exact Or.inr (Or.inr (Or.inr (Or.inr (Or.inr (Or.inl ⟨rfl, (Option.some.inj hj).symm⟩)))))
      | 6, _, hj => exact Or.inr (Or.inr (Or.inr (Or.inr (Or.inr (Or.inr (Or.inl ⟨rfl, (Option.some.inj hj).symm⟩))))))
      | 7, _, hj => exact Or.inr (Or.inr (Or.inr (Or.inr (Or.inr (Or.inr (Or.inr (Or.inl ⟨rfl, (Option.some.inj hj).symm⟩)))))))
      | 8, _, hj => exact Or.inr (Or.inr (Or.inr (Or.inr (Or.inr (Or.inr (Or.inr (Or.inr (⟨rfl, (Option.some.inj hj).symm⟩))))))))
    clear hj hlt
    rcases hcs with ⟨rfl, rfl⟩ | ⟨rfl, rfl⟩ | ⟨rfl, rfl⟩ | ⟨rfl, rfl⟩ | ⟨rfl, rfl⟩ | ⟨rfl, rfl⟩ | ⟨rfl, rfl⟩ | ⟨rfl, rfl⟩ | ⟨rfl, rfl⟩
    · show WP _ _ 60 _ _ _ _ _ _
      refine WP_aload_n dX7_tell_60 rfl ?_
      refine WP_aload_n dX7_tell_61 rfl ?_
      refine WQ_iconst (0) (0) dX7_tell_62 rfl rfl (fun v4245 hv4245 => ?_)
      refine WQ_ialdm (z := 0) dX7_tell_63 (lyx_is hy 4 13 rfl) (lyx_n hy 4 5 rfl) hv4245 (by decide) e4241 ?_
      refine WP_aload_n dX7_tell_64 rfl ?_
      refine WQ_iconst (1) (1) dX7_tell_65 rfl rfl (fun v4247 hv4247 => ?_)
      refine WQ_ialdm (z := 1) dX7_tell_66 (lyx_is hy 4 13 rfl) (lyx_n hy 4 5 rfl) hv4247 (by decide) e4242 ?_
      refine WP_callV2 (k := 7) dX7_tell_67 ⟨⟨⟨by decide, by decide⟩, zX7_tellLoss⟩, lX7_91, by decide, rfl, vX7_tellLoss.1, vX7_tellLoss.2⟩ (lyx_is hy 6 7 rfl) (sx_tellLoss_6 hy hr hI4239 w4234 w4235 (by omega) (by omega) (by omega) (by omega)) (Nat.le_of_ble_eq_true rfl) ?_
      intro r I4249 J4250 Ra hq
      obtain ⟨⟨hI4249, ec⟩, rfl⟩ := hq
      rw [ec]
      clear ec Ra
      have e4251 : I4249 (ad g 1) 1 = L := hI4249.2
      have b4252 := BT_get hI4249.1 1 1 2 (0) (0) (900) (by decide) 1 (by decide) (by decide)
      rw [e4251] at b4252
      refine WP_goto 193 dX7_tell_70 rfl ?_
      exact WP_vret dX7_tell_193 rfl ⟨⟨hI4249, rfl, trivial⟩, rfl⟩
    · exact False.elim (by omega)
    · exact False.elim (by omega)
    · exact False.elim (by omega)
    · exact False.elim (by omega)
    · exact False.elim (by omega)
    · exact False.elim (by omega)
    · exact False.elim (by omega)
    · exact False.elim (by omega)
set_option maxHeartbeats 4000000 in
set_option maxRecDepth 100000 in
theorem sx_tell_6_1 {g : GG} {n : Int} {L : Int32} (hy : LyX g)  {I : pI} {J : pJ} {R : pR} (hr : RfX g R) (hI : XI g n L I) (cl : Int32) (cl_lo : 1 ≤ cl.toInt) (cl_hi : cl.toInt ≤ 1) (hb : (I (ad g 4) 1).toInt ≤ 99 ∧ (I (ad g 4) 2).toInt ≤ 1000 ∧ (I (ad g 4) 3).toInt ≤ 60 ∧ (I (ad g 6) 1).toInt ≤ 3) : SP g mX7_tell [.ref (ad g 6), .int cl, .ref (ad g 4)] I J R (fun r I' J' R' => (XI g n L I' ∧ R' = R ∧ True) ∧ r = none) := by
  refine SP_of ⟨by decide, rfl⟩ (Nat.le_of_ble_eq_true rfl) ?_
  have e4253 : I (ad g 1) 1 = L := hI.2
  have b4254 := BT_get hI.1 1 1 2 (0) (0) (900) (by decide) 1 (by decide) (by decide)
  rw [e4253] at b4254
  obtain ⟨w4255, ew4255⟩ : ∃ w : Int32, I (ad g 4) 1 = w := ⟨_, rfl⟩
  have bw4255 := BT_get hI.1 4 0 5 (0) (0) (1000) (by decide) 1 (by decide) (by decide)
  rw [ew4255] at bw4255
  obtain ⟨w4256, ew4256⟩ : ∃ w : Int32, I (ad g 4) 2 = w := ⟨_, rfl⟩
  have bw4256 := BT_get hI.1 4 0 5 (0) (0) (1000) (by decide) 2 (by decide) (by decide)
  rw [ew4256] at bw4256
  obtain ⟨w4257, ew4257⟩ : ∃ w : Int32, I (ad g 4) 3 = w := ⟨_, rfl⟩
  have bw4257 := BT_get hI.1 4 0 5 (0) (0) (1000) (by decide) 3 (by decide) (by decide)
  rw [ew4257] at bw4257
  obtain ⟨w4258, ew4258⟩ : ∃ w : Int32, I (ad g 6) 1 = w := ⟨_, rfl⟩
  have bw4258 := BT_get hI.1 6 1 2 (0) (0) (4) (by decide) 1 (by decide) (by decide)
  rw [ew4258] at bw4258
  rw [ew4255, ew4256, ew4257, ew4258] at hb
  refine WP_aload_n dX7_tell_0 rfl ?_
  refine WP_dup dX7_tell_1 rfl ?_
  refine WQ_getiu dX7_tell_2 fX7_61 rfl (lyx_is hy 6 7 rfl) (fun v4259 ev4259 => ?_)
  refine WQ_iconst (1) (1) dX7_tell_5 rfl rfl (fun v4260 hv4260 => ?_)
  refine WQ_iaddu dX7_tell_6 (fun v4261 => ?_)
  refine WQ_puti dX7_tell_7 fX7_61 rfl rfl (lyx_is hy 6 7 rfl) (fun I4262 eI4262 => ?_)
  have hI4262 : XI g n L I4262 := by rw [eI4262]; exact (xi_f0 hy hI (c := 6) (by decide) (Or.inl (by decide)) (by decide))
  have e4263 : I4262 (ad g 1) 1 = L := by rw [eI4262, pp_ne _ _ (Or.inl (lyx_ne hy (by decide) (by decide) (by decide)))]; exact e4253
  have e4264 : I4262 (ad g 4) 1 = w4255 := by rw [eI4262, pp_ne _ _ (Or.inl (lyx_ne hy (by decide) (by decide) (by decide)))]; exact ew4255
  have e4265 : I4262 (ad g 4) 2 = w4256 := by rw [eI4262, pp_ne _ _ (Or.inl (lyx_ne hy (by decide) (by decide) (by decide)))]; exact ew4256
  have e4266 : I4262 (ad g 4) 3 = w4257 := by rw [eI4262, pp_ne _ _ (Or.inl (lyx_ne hy (by decide) (by decide) (by decide)))]; exact ew4257
  have e4267 : I4262 (ad g 6) 1 = w4258 := by rw [eI4262, pp_ne _ _ (Or.inr (by decide))]; exact ew4258
  have e4268 : I4262 (ad g 6) 0 = v4261 := by rw [eI4262, pp_self]
  clear eI4262
  refine WP_iload_n dX7_tell_10 rfl ?_
  refine WP_tab 178 dX7_tell_11 rfl rfl (fun c4268 => ?_) (fun j off c4268 hj => ?_) (by decide)
  · exact False.elim (by omega)
  · have hlt : j < 9 := by have := (Array.getElem?_eq_some_iff.mp hj).1; simpa using this
    have hcs : (j = 0 ∧ off = 49) ∨ (j = 1 ∧ off = 62) ∨ (j = 2 ∧ off = 70) ∨ (j = 3 ∧ off = 78) ∨ (j = 4 ∧ off = 91) ∨ (j = 5 ∧ off = 104) ∨ (j = 6 ∧ off = 117) ∨ (j = 7 ∧ off = 125) ∨ (j = 8 ∧ off = 149) := by
      match j, hlt, hj with
      | 0, _, hj => exact Or.inl ⟨rfl, (Option.some.inj hj).symm⟩
      | 1, _, hj => exact Or.inr (Or.inl ⟨rfl, (Option.some.inj hj).symm⟩)
      | 2, _, hj => exact Or.inr (Or.inr (Or.inl ⟨rfl, (Option.some.inj hj).symm⟩))
      | 3, _, hj => exact Or.inr (Or.inr (Or.inr (Or.inl ⟨rfl, (Option.some.inj hj).symm⟩)))
      | 4, _, hj => exact Or.inr (Or.inr (Or.inr (Or.inr (Or.inl ⟨rfl, (Option.some.inj hj).symm⟩))))
      | 5, _, hj => exact Or.inr (Or.inr (Or.inr (Or.inr (Or.inr (Or.inl ⟨rfl, (Option.some.inj hj).symm⟩)))))
      | 6, _, hj => exact Or.inr (Or.inr (Or.inr (Or.inr (Or.inr (Or.inr (Or.inl ⟨rfl, (Option.some.inj hj).symm⟩))))))
      | 7, _, hj => exact Or.inr (Or.inr (Or.inr (Or.inr (Or.inr (Or.inr (Or.inr (Or.inl ⟨rfl, (Option.some.inj hj).symm⟩)))))))
      | 8, _, hj => exact Or.inr (Or.inr (Or.inr (Or.inr (Or.inr (Or.inr (Or.inr (Or.inr (⟨rfl, (Option.some.inj hj).symm⟩))))))))
    clear hj hlt
    rcases hcs with ⟨rfl, rfl⟩ | ⟨rfl, rfl⟩ | ⟨rfl, rfl⟩ | ⟨rfl, rfl⟩ | ⟨rfl, rfl⟩ | ⟨rfl, rfl⟩ | ⟨rfl, rfl⟩ | ⟨rfl, rfl⟩ | ⟨rfl, rfl⟩
    · exact False.elim (by omega)
    · show WP _ _ 73 _ _ _ _ _ _
      refine WP_aload_n dX7_tell_73 rfl ?_
      refine WP_aload_n dX7_tell_74 rfl ?_
      refine WP_callV1 (k := 7) dX7_tell_75 ⟨⟨⟨by decide, by decide⟩, zX7_tellSort⟩, lX7_95, by decide, rfl, vX7_tellSort.1, vX7_tellSort.2⟩ (lyx_is hy 6 7 rfl) (sx_tellSort_6 hy hr hI4262   (by rw [e4264, e4265, e4266, e4267]; omega)) (Nat.le_of_ble_eq_true rfl) ?_
      intro r I4270 J4271 Ra hq
      obtain ⟨⟨hI4270, ec, pI4270⟩, rfl⟩ := hq
      rw [ec]
      clear ec Ra
      have e4272 : I4270 (ad g 1) 1 = L := hI4270.2
      have b4273 := BT_get hI4270.1 1 1 2 (0) (0) (900) (by decide) 1 (by decide) (by decide)
      rw [e4272] at b4273
      refine WP_goto 193 dX7_tell_78 rfl ?_
      exact WP_vret dX7_tell_193 rfl ⟨⟨hI4270, rfl, trivial⟩, rfl⟩
    · exact False.elim (by omega)
    · exact False.elim (by omega)
    · exact False.elim (by omega)
    · exact False.elim (by omega)
    · exact False.elim (by omega)
    · exact False.elim (by omega)
    · exact False.elim (by omega)
set_option maxHeartbeats 4000000 in
set_option maxRecDepth 100000 in
theorem sx_tell_6_2 {g : GG} {n : Int} {L : Int32} (hy : LyX g)  {I : pI} {J : pJ} {R : pR} (hr : RfX g R) (hI : XI g n L I) (cl : Int32) (cl_lo : 2 ≤ cl.toInt) (cl_hi : cl.toInt ≤ 2) (hb : (I (ad g 4) 1).toInt ≤ 1000 ∧ (I (ad g 4) 2).toInt ≤ 9 ∧ (I (ad g 6) 2).toInt ≤ 2) : SP g mX7_tell [.ref (ad g 6), .int cl, .ref (ad g 4)] I J R (fun r I' J' R' => (XI g n L I' ∧ R' = R ∧ True) ∧ r = none) := by
  refine SP_of ⟨by decide, rfl⟩ (Nat.le_of_ble_eq_true rfl) ?_
  have e4274 : I (ad g 1) 1 = L := hI.2
  have b4275 := BT_get hI.1 1 1 2 (0) (0) (900) (by decide) 1 (by decide) (by decide)
  rw [e4274] at b4275
  obtain ⟨w4276, ew4276⟩ : ∃ w : Int32, I (ad g 4) 1 = w := ⟨_, rfl⟩
  have bw4276 := BT_get hI.1 4 0 5 (0) (0) (1000) (by decide) 1 (by decide) (by decide)
  rw [ew4276] at bw4276
  obtain ⟨w4277, ew4277⟩ : ∃ w : Int32, I (ad g 4) 2 = w := ⟨_, rfl⟩
  have bw4277 := BT_get hI.1 4 0 5 (0) (0) (1000) (by decide) 2 (by decide) (by decide)
  rw [ew4277] at bw4277
  obtain ⟨w4278, ew4278⟩ : ∃ w : Int32, I (ad g 6) 2 = w := ⟨_, rfl⟩
  have bw4278 := BT_get hI.1 6 2 3 (0) (0) (3) (by decide) 2 (by decide) (by decide)
  rw [ew4278] at bw4278
  rw [ew4276, ew4277, ew4278] at hb
  refine WP_aload_n dX7_tell_0 rfl ?_
  refine WP_dup dX7_tell_1 rfl ?_
  refine WQ_getiu dX7_tell_2 fX7_61 rfl (lyx_is hy 6 7 rfl) (fun v4279 ev4279 => ?_)
  refine WQ_iconst (1) (1) dX7_tell_5 rfl rfl (fun v4280 hv4280 => ?_)
  refine WQ_iaddu dX7_tell_6 (fun v4281 => ?_)
  refine WQ_puti dX7_tell_7 fX7_61 rfl rfl (lyx_is hy 6 7 rfl) (fun I4282 eI4282 => ?_)
  have hI4282 : XI g n L I4282 := by rw [eI4282]; exact (xi_f0 hy hI (c := 6) (by decide) (Or.inl (by decide)) (by decide))
  have e4283 : I4282 (ad g 1) 1 = L := by rw [eI4282, pp_ne _ _ (Or.inl (lyx_ne hy (by decide) (by decide) (by decide)))]; exact e4274
  have e4284 : I4282 (ad g 4) 1 = w4276 := by rw [eI4282, pp_ne _ _ (Or.inl (lyx_ne hy (by decide) (by decide) (by decide)))]; exact ew4276
  have e4285 : I4282 (ad g 4) 2 = w4277 := by rw [eI4282, pp_ne _ _ (Or.inl (lyx_ne hy (by decide) (by decide) (by decide)))]; exact ew4277
  have e4286 : I4282 (ad g 6) 2 = w4278 := by rw [eI4282, pp_ne _ _ (Or.inr (by decide))]; exact ew4278
  have e4287 : I4282 (ad g 6) 0 = v4281 := by rw [eI4282, pp_self]
  clear eI4282
  refine WP_iload_n dX7_tell_10 rfl ?_
  refine WP_tab 178 dX7_tell_11 rfl rfl (fun c4287 => ?_) (fun j off c4287 hj => ?_) (by decide)
  · exact False.elim (by omega)
  · have hlt : j < 9 := by have := (Array.getElem?_eq_some_iff.mp hj).1; simpa using this
    have hcs : (j = 0 ∧ off = 49) ∨ (j = 1 ∧ off = 62) ∨ (j = 2 ∧ off = 70) ∨ (j = 3 ∧ off = 78) ∨ (j = 4 ∧ off = 91) ∨ (j = 5 ∧ off = 104) ∨ (j = 6 ∧ off = 117) ∨ (j = 7 ∧ off = 125) ∨ (j = 8 ∧ off = 149) := by
      match j, hlt, hj with
      | 0, _, hj => exact Or.inl ⟨rfl, (Option.some.inj hj).symm⟩
      | 1, _, hj => exact Or.inr (Or.inl ⟨rfl, (Option.some.inj hj).symm⟩)
      | 2, _, hj => exact Or.inr (Or.inr (Or.inl ⟨rfl, (Option.some.inj hj).symm⟩))
      | 3, _, hj => exact Or.inr (Or.inr (Or.inr (Or.inl ⟨rfl, (Option.some.inj hj).symm⟩)))
      | 4, _, hj => exact Or.inr (Or.inr (Or.inr (Or.inr (Or.inl ⟨rfl, (Option.some.inj hj).symm⟩))))
      | 5, _, hj => exact Or.inr (Or.inr (Or.inr (Or.inr (Or.inr (Or.inl ⟨rfl, (Option.some.inj hj).symm⟩)))))
      | 6, _, hj => exact Or.inr (Or.inr (Or.inr (Or.inr (Or.inr (Or.inr (Or.inl ⟨rfl, (Option.some.inj hj).symm⟩))))))
      | 7, _, hj => exact Or.inr (Or.inr (Or.inr (Or.inr (Or.inr (Or.inr (Or.inr (Or.inl ⟨rfl, (Option.some.inj hj).symm⟩)))))))
      | 8, _, hj => exact Or.inr (Or.inr (Or.inr (Or.inr (Or.inr (Or.inr (Or.inr (Or.inr (⟨rfl, (Option.some.inj hj).symm⟩))))))))
    clear hj hlt
    rcases hcs with ⟨rfl, rfl⟩ | ⟨rfl, rfl⟩ | ⟨rfl, rfl⟩ | ⟨rfl, rfl⟩ | ⟨rfl, rfl⟩ | ⟨rfl, rfl⟩ | ⟨rfl, rfl⟩ | ⟨rfl, rfl⟩ | ⟨rfl, rfl⟩
    · exact False.elim (by omega)
    · exact False.elim (by omega)
    · show WP _ _ 81 _ _ _ _ _ _
      refine WP_aload_n dX7_tell_81 rfl ?_
      refine WP_aload_n dX7_tell_82 rfl ?_
      refine WP_callV1 (k := 7) dX7_tell_83 ⟨⟨⟨by decide, by decide⟩, zX7_tellThing⟩, lX7_99, by decide, rfl, vX7_tellThing.1, vX7_tellThing.2⟩ (lyx_is hy 6 7 rfl) (sx_tellThing_6 hy hr hI4282   (by rw [e4284, e4285, e4286]; omega)) (Nat.le_of_ble_eq_true rfl) ?_
      intro r I4289 J4290 Ra hq
      obtain ⟨⟨hI4289, ec, pI4289⟩, rfl⟩ := hq
      rw [ec]
      clear ec Ra
      have e4291 : I4289 (ad g 1) 1 = L := hI4289.2
      have b4292 := BT_get hI4289.1 1 1 2 (0) (0) (900) (by decide) 1 (by decide) (by decide)
      rw [e4291] at b4292
      refine WP_goto 193 dX7_tell_86 rfl ?_
      exact WP_vret dX7_tell_193 rfl ⟨⟨hI4289, rfl, trivial⟩, rfl⟩
    · exact False.elim (by omega)
    · exact False.elim (by omega)
    · exact False.elim (by omega)
    · exact False.elim (by omega)
    · exact False.elim (by omega)
    · exact False.elim (by omega)
set_option maxHeartbeats 4000000 in
set_option maxRecDepth 100000 in
theorem sx_tell_6_3 {g : GG} {n : Int} {L : Int32} (hy : LyX g)  {I : pI} {J : pJ} {R : pR} (hr : RfX g R) (hI : XI g n L I) (cl : Int32) (cl_lo : 3 ≤ cl.toInt) (cl_hi : cl.toInt ≤ 3) (hb : (I (ad g 4) 0).toInt ≤ 3 ∧ (I (ad g 4) 1).toInt ≤ 6 ∧ (I (ad g 4) 2).toInt ≤ 20) : SP g mX7_tell [.ref (ad g 6), .int cl, .ref (ad g 4)] I J R (fun r I' J' R' => (XI g n L I' ∧ R' = R ∧ True) ∧ r = none) := by
  refine SP_of ⟨by decide, rfl⟩ (Nat.le_of_ble_eq_true rfl) ?_
  have e4293 : I (ad g 1) 1 = L := hI.2
  have b4294 := BT_get hI.1 1 1 2 (0) (0) (900) (by decide) 1 (by decide) (by decide)
  rw [e4293] at b4294
  obtain ⟨w4295, ew4295⟩ : ∃ w : Int32, I (ad g 4) 0 = w := ⟨_, rfl⟩
  have bw4295 := BT_get hI.1 4 0 5 (0) (0) (1000) (by decide) 0 (by decide) (by decide)
  rw [ew4295] at bw4295
  obtain ⟨w4296, ew4296⟩ : ∃ w : Int32, I (ad g 4) 1 = w := ⟨_, rfl⟩
  have bw4296 := BT_get hI.1 4 0 5 (0) (0) (1000) (by decide) 1 (by decide) (by decide)
  rw [ew4296] at bw4296
  obtain ⟨w4297, ew4297⟩ : ∃ w : Int32, I (ad g 4) 2 = w := ⟨_, rfl⟩
  have bw4297 := BT_get hI.1 4 0 5 (0) (0) (1000) (by decide) 2 (by decide) (by decide)
  rw [ew4297] at bw4297
  rw [ew4295, ew4296, ew4297] at hb
  refine WP_aload_n dX7_tell_0 rfl ?_
  refine WP_dup dX7_tell_1 rfl ?_
  refine WQ_getiu dX7_tell_2 fX7_61 rfl (lyx_is hy 6 7 rfl) (fun v4298 ev4298 => ?_)
  refine WQ_iconst (1) (1) dX7_tell_5 rfl rfl (fun v4299 hv4299 => ?_)
  refine WQ_iaddu dX7_tell_6 (fun v4300 => ?_)
  refine WQ_puti dX7_tell_7 fX7_61 rfl rfl (lyx_is hy 6 7 rfl) (fun I4301 eI4301 => ?_)
  have hI4301 : XI g n L I4301 := by rw [eI4301]; exact (xi_f0 hy hI (c := 6) (by decide) (Or.inl (by decide)) (by decide))
  have e4302 : I4301 (ad g 1) 1 = L := by rw [eI4301, pp_ne _ _ (Or.inl (lyx_ne hy (by decide) (by decide) (by decide)))]; exact e4293
  have e4303 : I4301 (ad g 4) 0 = w4295 := by rw [eI4301, pp_ne _ _ (Or.inl (lyx_ne hy (by decide) (by decide) (by decide)))]; exact ew4295
  have e4304 : I4301 (ad g 4) 1 = w4296 := by rw [eI4301, pp_ne _ _ (Or.inl (lyx_ne hy (by decide) (by decide) (by decide)))]; exact ew4296
  have e4305 : I4301 (ad g 4) 2 = w4297 := by rw [eI4301, pp_ne _ _ (Or.inl (lyx_ne hy (by decide) (by decide) (by decide)))]; exact ew4297
  have e4306 : I4301 (ad g 6) 0 = v4300 := by rw [eI4301, pp_self]
  clear eI4301
  refine WP_iload_n dX7_tell_10 rfl ?_
  refine WP_tab 178 dX7_tell_11 rfl rfl (fun c4306 => ?_) (fun j off c4306 hj => ?_) (by decide)
  · exact False.elim (by omega)
  · have hlt : j < 9 := by have := (Array.getElem?_eq_some_iff.mp hj).1; simpa using this
    have hcs : (j = 0 ∧ off = 49) ∨ (j = 1 ∧ off = 62) ∨ (j = 2 ∧ off = 70) ∨ (j = 3 ∧ off = 78) ∨ (j = 4 ∧ off = 91) ∨ (j = 5 ∧ off = 104) ∨ (j = 6 ∧ off = 117) ∨ (j = 7 ∧ off = 125) ∨ (j = 8 ∧ off = 149) := by
      match j, hlt, hj with
      | 0, _, hj => exact Or.inl ⟨rfl, (Option.some.inj hj).symm⟩
      | 1, _, hj => exact Or.inr (Or.inl ⟨rfl, (Option.some.inj hj).symm⟩)
      | 2, _, hj => exact Or.inr (Or.inr (Or.inl ⟨rfl, (Option.some.inj hj).symm⟩))
      | 3, _, hj => exact Or.inr (Or.inr (Or.inr (Or.inl ⟨rfl, (Option.some.inj hj).symm⟩)))
      | 4, _, hj => exact Or.inr (Or.inr (Or.inr (Or.inr (Or.inl ⟨rfl, (Option.some.inj hj).symm⟩))))
      | 5, _, hj => exact Or.inr (Or.inr (Or.inr (Or.inr (Or.inr (Or.inl ⟨rfl, (Option.some.inj hj).symm⟩)))))
      | 6, _, hj => exact Or.inr (Or.inr (Or.inr (Or.inr (Or.inr (Or.inr (Or.inl ⟨rfl, (Option.some.inj hj).symm⟩))))))
      | 7, _, hj => exact Or.inr (Or.inr (Or.inr (Or.inr (Or.inr (Or.inr (Or.inr (Or.inl ⟨rfl, (Option.some.inj hj).symm⟩)))))))
      | 8, _, hj => exact Or.inr (Or.inr (Or.inr (Or.inr (Or.inr (Or.inr (Or.inr (Or.inr (⟨rfl, (Option.some.inj hj).symm⟩))))))))
    clear hj hlt
    rcases hcs with ⟨rfl, rfl⟩ | ⟨rfl, rfl⟩ | ⟨rfl, rfl⟩ | ⟨rfl, rfl⟩ | ⟨rfl, rfl⟩ | ⟨rfl, rfl⟩ | ⟨rfl, rfl⟩ | ⟨rfl, rfl⟩ | ⟨rfl, rfl⟩
    · exact False.elim (by omega)
    · exact False.elim (by omega)
    · exact False.elim (by omega)
    · show WP _ _ 89 _ _ _ _ _ _
      refine WP_aload_n dX7_tell_89 rfl ?_
      refine WP_aload_n dX7_tell_90 rfl ?_
      refine WP_getr dX7_tell_91 fX7_27 rfl (lyx_is hy 6 7 rfl) (rfx hr 6 10 12 (by decide)) ?_
      refine WP_iload_n dX7_tell_94 rfl ?_
      refine WP_aload_n dX7_tell_95 rfl ?_
      refine WP_callV3 (k := 7) dX7_tell_96 ⟨⟨⟨by decide, by decide⟩, zX7_tellOn⟩, lX7_102, by decide, rfl, vX7_tellOn.1, vX7_tellOn.2⟩ (lyx_is hy 6 7 rfl) (sx_tellOn_6_3 hy hr hI4301 cl (by omega) (by omega) (by rw [e4303, e4304, e4305]; omega)) (Nat.le_of_ble_eq_true rfl) ?_
      intro r I4308 J4309 Ra hq
      obtain ⟨⟨hI4308, ec, pI4308⟩, rfl⟩ := hq
      rw [ec]
      clear ec Ra
      have e4310 : I4308 (ad g 1) 1 = L := hI4308.2
      have b4311 := BT_get hI4308.1 1 1 2 (0) (0) (900) (by decide) 1 (by decide) (by decide)
      rw [e4310] at b4311
      refine WP_goto 193 dX7_tell_99 rfl ?_
      exact WP_vret dX7_tell_193 rfl ⟨⟨hI4308, rfl, trivial⟩, rfl⟩
    · exact False.elim (by omega)
    · exact False.elim (by omega)
    · exact False.elim (by omega)
    · exact False.elim (by omega)
    · exact False.elim (by omega)
set_option maxHeartbeats 4000000 in
set_option maxRecDepth 100000 in
theorem sx_tell_6_4 {g : GG} {n : Int} {L : Int32} (hy : LyX g)  {I : pI} {J : pJ} {R : pR} (hr : RfX g R) (hI : XI g n L I) (cl : Int32) (cl_lo : 4 ≤ cl.toInt) (cl_hi : cl.toInt ≤ 4) (hb : (I (ad g 4) 0).toInt ≤ 2 ∧ (I (ad g 4) 1).toInt ≤ 6 ∧ (I (ad g 4) 2).toInt ≤ 20) : SP g mX7_tell [.ref (ad g 6), .int cl, .ref (ad g 4)] I J R (fun r I' J' R' => (XI g n L I' ∧ R' = R ∧ True) ∧ r = none) := by
  refine SP_of ⟨by decide, rfl⟩ (Nat.le_of_ble_eq_true rfl) ?_
  have e4312 : I (ad g 1) 1 = L := hI.2
  have b4313 := BT_get hI.1 1 1 2 (0) (0) (900) (by decide) 1 (by decide) (by decide)
  rw [e4312] at b4313
  obtain ⟨w4314, ew4314⟩ : ∃ w : Int32, I (ad g 4) 0 = w := ⟨_, rfl⟩
  have bw4314 := BT_get hI.1 4 0 5 (0) (0) (1000) (by decide) 0 (by decide) (by decide)
  rw [ew4314] at bw4314
  obtain ⟨w4315, ew4315⟩ : ∃ w : Int32, I (ad g 4) 1 = w := ⟨_, rfl⟩
  have bw4315 := BT_get hI.1 4 0 5 (0) (0) (1000) (by decide) 1 (by decide) (by decide)
  rw [ew4315] at bw4315
  obtain ⟨w4316, ew4316⟩ : ∃ w : Int32, I (ad g 4) 2 = w := ⟨_, rfl⟩
  have bw4316 := BT_get hI.1 4 0 5 (0) (0) (1000) (by decide) 2 (by decide) (by decide)
  rw [ew4316] at bw4316
  rw [ew4314, ew4315, ew4316] at hb
  refine WP_aload_n dX7_tell_0 rfl ?_
  refine WP_dup dX7_tell_1 rfl ?_
  refine WQ_getiu dX7_tell_2 fX7_61 rfl (lyx_is hy 6 7 rfl) (fun v4317 ev4317 => ?_)
  refine WQ_iconst (1) (1) dX7_tell_5 rfl rfl (fun v4318 hv4318 => ?_)
  refine WQ_iaddu dX7_tell_6 (fun v4319 => ?_)
  refine WQ_puti dX7_tell_7 fX7_61 rfl rfl (lyx_is hy 6 7 rfl) (fun I4320 eI4320 => ?_)
  have hI4320 : XI g n L I4320 := by rw [eI4320]; exact (xi_f0 hy hI (c := 6) (by decide) (Or.inl (by decide)) (by decide))
  have e4321 : I4320 (ad g 1) 1 = L := by rw [eI4320, pp_ne _ _ (Or.inl (lyx_ne hy (by decide) (by decide) (by decide)))]; exact e4312
  have e4322 : I4320 (ad g 4) 0 = w4314 := by rw [eI4320, pp_ne _ _ (Or.inl (lyx_ne hy (by decide) (by decide) (by decide)))]; exact ew4314
  have e4323 : I4320 (ad g 4) 1 = w4315 := by rw [eI4320, pp_ne _ _ (Or.inl (lyx_ne hy (by decide) (by decide) (by decide)))]; exact ew4315
  have e4324 : I4320 (ad g 4) 2 = w4316 := by rw [eI4320, pp_ne _ _ (Or.inl (lyx_ne hy (by decide) (by decide) (by decide)))]; exact ew4316
  have e4325 : I4320 (ad g 6) 0 = v4319 := by rw [eI4320, pp_self]
  clear eI4320
  refine WP_iload_n dX7_tell_10 rfl ?_
  refine WP_tab 178 dX7_tell_11 rfl rfl (fun c4325 => ?_) (fun j off c4325 hj => ?_) (by decide)
  · exact False.elim (by omega)
  · have hlt : j < 9 := by have := (Array.getElem?_eq_some_iff.mp hj).1; simpa using this
    have hcs : (j = 0 ∧ off = 49) ∨ (j = 1 ∧ off = 62) ∨ (j = 2 ∧ off = 70) ∨ (j = 3 ∧ off = 78) ∨ (j = 4 ∧ off = 91) ∨ (j = 5 ∧ off = 104) ∨ (j = 6 ∧ off = 117) ∨ (j = 7 ∧ off = 125) ∨ (j = 8 ∧ off = 149) := by
      match j, hlt, hj with
      | 0, _, hj => exact Or.inl ⟨rfl, (Option.some.inj hj).symm⟩
      | 1, _, hj => exact Or.inr (Or.inl ⟨rfl, (Option.some.inj hj).symm⟩)
      | 2, _, hj => exact Or.inr (Or.inr (Or.inl ⟨rfl, (Option.some.inj hj).symm⟩))
      | 3, _, hj => exact Or.inr (Or.inr (Or.inr (Or.inl ⟨rfl, (Option.some.inj hj).symm⟩)))
      | 4, _, hj => exact Or.inr (Or.inr (Or.inr (Or.inr (Or.inl ⟨rfl, (Option.some.inj hj).symm⟩))))
      | 5, _, hj => exact Or.inr (Or.inr (Or.inr (Or.inr (Or.inr (Or.inl ⟨rfl, (Option.some.inj hj).symm⟩)))))
      | 6, _, hj => exact Or.inr (Or.inr (Or.inr (Or.inr (Or.inr (Or.inr (Or.inl ⟨rfl, (Option.some.inj hj).symm⟩))))))
      | 7, _, hj => exact Or.inr (Or.inr (Or.inr (Or.inr (Or.inr (Or.inr (Or.inr (Or.inl ⟨rfl, (Option.some.inj hj).symm⟩)))))))
      | 8, _, hj => exact Or.inr (Or.inr (Or.inr (Or.inr (Or.inr (Or.inr (Or.inr (Or.inr (⟨rfl, (Option.some.inj hj).symm⟩))))))))
    clear hj hlt
    rcases hcs with ⟨rfl, rfl⟩ | ⟨rfl, rfl⟩ | ⟨rfl, rfl⟩ | ⟨rfl, rfl⟩ | ⟨rfl, rfl⟩ | ⟨rfl, rfl⟩ | ⟨rfl, rfl⟩ | ⟨rfl, rfl⟩ | ⟨rfl, rfl⟩
    · exact False.elim (by omega)
    · exact False.elim (by omega)
    · exact False.elim (by omega)
    · exact False.elim (by omega)
    · show WP _ _ 102 _ _ _ _ _ _
      refine WP_aload_n dX7_tell_102 rfl ?_
      refine WP_aload_n dX7_tell_103 rfl ?_
      refine WP_getr dX7_tell_104 fX7_45 rfl (lyx_is hy 6 7 rfl) (rfx hr 6 16 18 (by decide)) ?_
      refine WP_iload_n dX7_tell_107 rfl ?_
      refine WP_aload_n dX7_tell_108 rfl ?_
      refine WP_callV3 (k := 7) dX7_tell_109 ⟨⟨⟨by decide, by decide⟩, zX7_tellOn⟩, lX7_102, by decide, rfl, vX7_tellOn.1, vX7_tellOn.2⟩ (lyx_is hy 6 7 rfl) (sx_tellOn_6_4 hy hr hI4320 cl (by omega) (by omega) (by rw [e4322, e4323, e4324]; omega)) (Nat.le_of_ble_eq_true rfl) ?_
      intro r I4327 J4328 Ra hq
      obtain ⟨⟨hI4327, ec, pI4327⟩, rfl⟩ := hq
      rw [ec]
      clear ec Ra
      have e4329 : I4327 (ad g 1) 1 = L := hI4327.2
      have b4330 := BT_get hI4327.1 1 1 2 (0) (0) (900) (by decide) 1 (by decide) (by decide)
      rw [e4329] at b4330
      refine WP_goto 193 dX7_tell_112 rfl ?_
      exact WP_vret dX7_tell_193 rfl ⟨⟨hI4327, rfl, trivial⟩, rfl⟩
    · exact False.elim (by omega)
    · exact False.elim (by omega)
    · exact False.elim (by omega)
    · exact False.elim (by omega)
set_option maxHeartbeats 4000000 in
set_option maxRecDepth 100000 in
theorem sx_tell_6_5 {g : GG} {n : Int} {L : Int32} (hy : LyX g)  {I : pI} {J : pJ} {R : pR} (hr : RfX g R) (hI : XI g n L I) (cl : Int32) (cl_lo : 5 ≤ cl.toInt) (cl_hi : cl.toInt ≤ 5) (hb : (I (ad g 4) 0).toInt ≤ 2 ∧ (I (ad g 4) 1).toInt ≤ 6 ∧ (I (ad g 4) 2).toInt ≤ 999) : SP g mX7_tell [.ref (ad g 6), .int cl, .ref (ad g 4)] I J R (fun r I' J' R' => (XI g n L I' ∧ R' = R ∧ True) ∧ r = none) := by
  refine SP_of ⟨by decide, rfl⟩ (Nat.le_of_ble_eq_true rfl) ?_
  have e4331 : I (ad g 1) 1 = L := hI.2
  have b4332 := BT_get hI.1 1 1 2 (0) (0) (900) (by decide) 1 (by decide) (by decide)
  rw [e4331] at b4332
  obtain ⟨w4333, ew4333⟩ : ∃ w : Int32, I (ad g 4) 0 = w := ⟨_, rfl⟩
  have bw4333 := BT_get hI.1 4 0 5 (0) (0) (1000) (by decide) 0 (by decide) (by decide)
  rw [ew4333] at bw4333
  obtain ⟨w4334, ew4334⟩ : ∃ w : Int32, I (ad g 4) 1 = w := ⟨_, rfl⟩
  have bw4334 := BT_get hI.1 4 0 5 (0) (0) (1000) (by decide) 1 (by decide) (by decide)
  rw [ew4334] at bw4334
  obtain ⟨w4335, ew4335⟩ : ∃ w : Int32, I (ad g 4) 2 = w := ⟨_, rfl⟩
  have bw4335 := BT_get hI.1 4 0 5 (0) (0) (1000) (by decide) 2 (by decide) (by decide)
  rw [ew4335] at bw4335
  rw [ew4333, ew4334, ew4335] at hb
  refine WP_aload_n dX7_tell_0 rfl ?_
  refine WP_dup dX7_tell_1 rfl ?_
  refine WQ_getiu dX7_tell_2 fX7_61 rfl (lyx_is hy 6 7 rfl) (fun v4336 ev4336 => ?_)
  refine WQ_iconst (1) (1) dX7_tell_5 rfl rfl (fun v4337 hv4337 => ?_)
  refine WQ_iaddu dX7_tell_6 (fun v4338 => ?_)
  refine WQ_puti dX7_tell_7 fX7_61 rfl rfl (lyx_is hy 6 7 rfl) (fun I4339 eI4339 => ?_)
  have hI4339 : XI g n L I4339 := by rw [eI4339]; exact (xi_f0 hy hI (c := 6) (by decide) (Or.inl (by decide)) (by decide))
  have e4340 : I4339 (ad g 1) 1 = L := by rw [eI4339, pp_ne _ _ (Or.inl (lyx_ne hy (by decide) (by decide) (by decide)))]; exact e4331
  have e4341 : I4339 (ad g 4) 0 = w4333 := by rw [eI4339, pp_ne _ _ (Or.inl (lyx_ne hy (by decide) (by decide) (by decide)))]; exact ew4333
  have e4342 : I4339 (ad g 4) 1 = w4334 := by rw [eI4339, pp_ne _ _ (Or.inl (lyx_ne hy (by decide) (by decide) (by decide)))]; exact ew4334
  have e4343 : I4339 (ad g 4) 2 = w4335 := by rw [eI4339, pp_ne _ _ (Or.inl (lyx_ne hy (by decide) (by decide) (by decide)))]; exact ew4335
  have e4344 : I4339 (ad g 6) 0 = v4338 := by rw [eI4339, pp_self]
  clear eI4339
  refine WP_iload_n dX7_tell_10 rfl ?_
  refine WP_tab 178 dX7_tell_11 rfl rfl (fun c4344 => ?_) (fun j off c4344 hj => ?_) (by decide)
  · exact False.elim (by omega)
  · have hlt : j < 9 := by have := (Array.getElem?_eq_some_iff.mp hj).1; simpa using this
    have hcs : (j = 0 ∧ off = 49) ∨ (j = 1 ∧ off = 62) ∨ (j = 2 ∧ off = 70) ∨ (j = 3 ∧ off = 78) ∨ (j = 4 ∧ off = 91) ∨ (j = 5 ∧ off = 104) ∨ (j = 6 ∧ off = 117) ∨ (j = 7 ∧ off = 125) ∨ (j = 8 ∧ off = 149) := by
      match j, hlt, hj with
      | 0, _, hj => exact Or.inl ⟨rfl, (Option.some.inj hj).symm⟩
      | 1, _, hj => exact Or.inr (Or.inl ⟨rfl, (Option.some.inj hj).symm⟩)
      | 2, _, hj => exact Or.inr (Or.inr (Or.inl ⟨rfl, (Option.some.inj hj).symm⟩))
      | 3, _, hj => exact Or.inr (Or.inr (Or.inr (Or.inl ⟨rfl, (Option.some.inj hj).symm⟩)))
      | 4, _, hj => exact Or.inr (Or.inr (Or.inr (Or.inr (Or.inl ⟨rfl, (Option.some.inj hj).symm⟩))))
      | 5, _, hj => exact Or.inr (Or.inr (Or.inr (Or.inr (Or.inr (Or.inl ⟨rfl, (Option.some.inj hj).symm⟩)))))
      | 6, _, hj => exact Or.inr (Or.inr (Or.inr (Or.inr (Or.inr (Or.inr (Or.inl ⟨rfl, (Option.some.inj hj).symm⟩))))))
      | 7, _, hj => exact Or.inr (Or.inr (Or.inr (Or.inr (Or.inr (Or.inr (Or.inr (Or.inl ⟨rfl, (Option.some.inj hj).symm⟩)))))))
      | 8, _, hj => exact Or.inr (Or.inr (Or.inr (Or.inr (Or.inr (Or.inr (Or.inr (Or.inr (⟨rfl, (Option.some.inj hj).symm⟩))))))))
    clear hj hlt
    rcases hcs with ⟨rfl, rfl⟩ | ⟨rfl, rfl⟩ | ⟨rfl, rfl⟩ | ⟨rfl, rfl⟩ | ⟨rfl, rfl⟩ | ⟨rfl, rfl⟩ | ⟨rfl, rfl⟩ | ⟨rfl, rfl⟩ | ⟨rfl, rfl⟩
    · exact False.elim (by omega)
    · exact False.elim (by omega)
    · exact False.elim (by omega)
    · exact False.elim (by omega)
    · exact False.elim (by omega)
    · show WP _ _ 115 _ _ _ _ _ _
      refine WP_aload_n dX7_tell_115 rfl ?_
      refine WP_aload_n dX7_tell_116 rfl ?_
      refine WP_getr dX7_tell_117 fX7_48 rfl (lyx_is hy 6 7 rfl) (rfx hr 6 17 19 (by decide)) ?_
      refine WP_iload_n dX7_tell_120 rfl ?_
      refine WP_aload_n dX7_tell_121 rfl ?_
      refine WP_callV3 (k := 7) dX7_tell_122 ⟨⟨⟨by decide, by decide⟩, zX7_tellOn⟩, lX7_102, by decide, rfl, vX7_tellOn.1, vX7_tellOn.2⟩ (lyx_is hy 6 7 rfl) (sx_tellOn_6_5 hy hr hI4339 cl (by omega) (by omega) (by rw [e4341, e4342, e4343]; omega)) (Nat.le_of_ble_eq_true rfl) ?_
      intro r I4346 J4347 Ra hq
      obtain ⟨⟨hI4346, ec, pI4346⟩, rfl⟩ := hq
      rw [ec]
      clear ec Ra
      have e4348 : I4346 (ad g 1) 1 = L := hI4346.2
      have b4349 := BT_get hI4346.1 1 1 2 (0) (0) (900) (by decide) 1 (by decide) (by decide)
      rw [e4348] at b4349
      refine WP_goto 193 dX7_tell_125 rfl ?_
      exact WP_vret dX7_tell_193 rfl ⟨⟨hI4346, rfl, trivial⟩, rfl⟩
    · exact False.elim (by omega)
    · exact False.elim (by omega)
    · exact False.elim (by omega)
set_option maxHeartbeats 4000000 in
set_option maxRecDepth 100000 in
theorem sx_tell_6_6 {g : GG} {n : Int} {L : Int32} (hy : LyX g)  {I : pI} {J : pJ} {R : pR} (hr : RfX g R) (hI : XI g n L I) (cl : Int32) (cl_lo : 6 ≤ cl.toInt) (cl_hi : cl.toInt ≤ 6) (hb : (I (ad g 4) 0).toInt ≤ 3 ∧ (I (ad g 4) 1).toInt ≤ 2 ∧ (I (ad g 4) 2).toInt ≤ 6 ∧ (I (ad g 4) 3).toInt ≤ 3 ∧ (I (ad g 4) 4).toInt ≤ 99) : SP g mX7_tell [.ref (ad g 6), .int cl, .ref (ad g 4)] I J R (fun r I' J' R' => (XI g n L I' ∧ R' = R ∧ True) ∧ r = none) := by
  refine SP_of ⟨by decide, rfl⟩ (Nat.le_of_ble_eq_true rfl) ?_
  have e4350 : I (ad g 1) 1 = L := hI.2
  have b4351 := BT_get hI.1 1 1 2 (0) (0) (900) (by decide) 1 (by decide) (by decide)
  rw [e4350] at b4351
  obtain ⟨w4352, ew4352⟩ : ∃ w : Int32, I (ad g 4) 0 = w := ⟨_, rfl⟩
  have bw4352 := BT_get hI.1 4 0 5 (0) (0) (1000) (by decide) 0 (by decide) (by decide)
  rw [ew4352] at bw4352
  obtain ⟨w4353, ew4353⟩ : ∃ w : Int32, I (ad g 4) 1 = w := ⟨_, rfl⟩
  have bw4353 := BT_get hI.1 4 0 5 (0) (0) (1000) (by decide) 1 (by decide) (by decide)
  rw [ew4353] at bw4353
  obtain ⟨w4354, ew4354⟩ : ∃ w : Int32, I (ad g 4) 2 = w := ⟨_, rfl⟩
  have bw4354 := BT_get hI.1 4 0 5 (0) (0) (1000) (by decide) 2 (by decide) (by decide)
  rw [ew4354] at bw4354
  obtain ⟨w4355, ew4355⟩ : ∃ w : Int32, I (ad g 4) 3 = w := ⟨_, rfl⟩
  have bw4355 := BT_get hI.1 4 0 5 (0) (0) (1000) (by decide) 3 (by decide) (by decide)
  rw [ew4355] at bw4355
  obtain ⟨w4356, ew4356⟩ : ∃ w : Int32, I (ad g 4) 4 = w := ⟨_, rfl⟩
  have bw4356 := BT_get hI.1 4 0 5 (0) (0) (1000) (by decide) 4 (by decide) (by decide)
  rw [ew4356] at bw4356
  rw [ew4352, ew4353, ew4354, ew4355, ew4356] at hb
  refine WP_aload_n dX7_tell_0 rfl ?_
  refine WP_dup dX7_tell_1 rfl ?_
  refine WQ_getiu dX7_tell_2 fX7_61 rfl (lyx_is hy 6 7 rfl) (fun v4357 ev4357 => ?_)
  refine WQ_iconst (1) (1) dX7_tell_5 rfl rfl (fun v4358 hv4358 => ?_)
  refine WQ_iaddu dX7_tell_6 (fun v4359 => ?_)
  refine WQ_puti dX7_tell_7 fX7_61 rfl rfl (lyx_is hy 6 7 rfl) (fun I4360 eI4360 => ?_)
  have hI4360 : XI g n L I4360 := by rw [eI4360]; exact (xi_f0 hy hI (c := 6) (by decide) (Or.inl (by decide)) (by decide))
  have e4361 : I4360 (ad g 1) 1 = L := by rw [eI4360, pp_ne _ _ (Or.inl (lyx_ne hy (by decide) (by decide) (by decide)))]; exact e4350
  have e4362 : I4360 (ad g 4) 0 = w4352 := by rw [eI4360, pp_ne _ _ (Or.inl (lyx_ne hy (by decide) (by decide) (by decide)))]; exact ew4352
  have e4363 : I4360 (ad g 4) 1 = w4353 := by rw [eI4360, pp_ne _ _ (Or.inl (lyx_ne hy (by decide) (by decide) (by decide)))]; exact ew4353
  have e4364 : I4360 (ad g 4) 2 = w4354 := by rw [eI4360, pp_ne _ _ (Or.inl (lyx_ne hy (by decide) (by decide) (by decide)))]; exact ew4354
  have e4365 : I4360 (ad g 4) 3 = w4355 := by rw [eI4360, pp_ne _ _ (Or.inl (lyx_ne hy (by decide) (by decide) (by decide)))]; exact ew4355
  have e4366 : I4360 (ad g 4) 4 = w4356 := by rw [eI4360, pp_ne _ _ (Or.inl (lyx_ne hy (by decide) (by decide) (by decide)))]; exact ew4356
  have e4367 : I4360 (ad g 6) 0 = v4359 := by rw [eI4360, pp_self]
  clear eI4360
  refine WP_iload_n dX7_tell_10 rfl ?_
  refine WP_tab 178 dX7_tell_11 rfl rfl (fun c4367 => ?_) (fun j off c4367 hj => ?_) (by decide)
  · exact False.elim (by omega)
  · have hlt : j < 9 := by have := (Array.getElem?_eq_some_iff.mp hj).1; simpa using this
    have hcs : (j = 0 ∧ off = 49) ∨ (j = 1 ∧ off = 62) ∨ (j = 2 ∧ off = 70) ∨ (j = 3 ∧ off = 78) ∨ (j = 4 ∧ off = 91) ∨ (j = 5 ∧ off = 104) ∨ (j = 6 ∧ off = 117) ∨ (j = 7 ∧ off = 125) ∨ (j = 8 ∧ off = 149) := by
      match j, hlt, hj with
      | 0, _, hj => exact Or.inl ⟨rfl, (Option.some.inj hj).symm⟩
      | 1, _, hj => exact Or.inr (Or.inl ⟨rfl, (Option.some.inj hj).symm⟩)
      | 2, _, hj => exact Or.inr (Or.inr (Or.inl ⟨rfl, (Option.some.inj hj).symm⟩))
      | 3, _, hj => exact Or.inr (Or.inr (Or.inr (Or.inl ⟨rfl, (Option.some.inj hj).symm⟩)))
      | 4, _, hj => exact Or.inr (Or.inr (Or.inr (Or.inr (Or.inl ⟨rfl, (Option.some.inj hj).symm⟩))))
      | 5, _, hj => exact Or.inr (Or.inr (Or.inr (Or.inr (Or.inr (Or.inl ⟨rfl, (Option.some.inj hj).symm⟩)))))
      | 6, _, hj => exact Or.inr (Or.inr (Or.inr (Or.inr (Or.inr (Or.inr (Or.inl ⟨rfl, (Option.some.inj hj).symm⟩))))))
      | 7, _, hj => exact Or.inr (Or.inr (Or.inr (Or.inr (Or.inr (Or.inr (Or.inr (Or.inl ⟨rfl, (Option.some.inj hj).symm⟩)))))))
      | 8, _, hj => exact Or.inr (Or.inr (Or.inr (Or.inr (Or.inr (Or.inr (Or.inr (Or.inr (⟨rfl, (Option.some.inj hj).symm⟩))))))))
    clear hj hlt
    rcases hcs with ⟨rfl, rfl⟩ | ⟨rfl, rfl⟩ | ⟨rfl, rfl⟩ | ⟨rfl, rfl⟩ | ⟨rfl, rfl⟩ | ⟨rfl, rfl⟩ | ⟨rfl, rfl⟩ | ⟨rfl, rfl⟩ | ⟨rfl, rfl⟩
    · exact False.elim (by omega)
    · exact False.elim (by omega)
    · exact False.elim (by omega)
    · exact False.elim (by omega)
    · exact False.elim (by omega)
    · exact False.elim (by omega)
    · show WP _ _ 128 _ _ _ _ _ _
      refine WP_aload_n dX7_tell_128 rfl ?_
      refine WP_aload_n dX7_tell_129 rfl ?_
      refine WP_callV1 (k := 7) dX7_tell_130 ⟨⟨⟨by decide, by decide⟩, zX7_tellWant⟩, lX7_106, by decide, rfl, vX7_tellWant.1, vX7_tellWant.2⟩ (lyx_is hy 6 7 rfl) (sx_tellWant_6 hy hr hI4360   (by rw [e4362, e4363, e4364, e4365, e4366]; omega)) (Nat.le_of_ble_eq_true rfl) ?_
      intro r I4369 J4370 Ra hq
      obtain ⟨⟨hI4369, ec, pI4369⟩, rfl⟩ := hq
      rw [ec]
      clear ec Ra
      have e4371 : I4369 (ad g 1) 1 = L := hI4369.2
      have b4372 := BT_get hI4369.1 1 1 2 (0) (0) (900) (by decide) 1 (by decide) (by decide)
      rw [e4371] at b4372
      refine WP_goto 193 dX7_tell_133 rfl ?_
      exact WP_vret dX7_tell_193 rfl ⟨⟨hI4369, rfl, trivial⟩, rfl⟩
    · exact False.elim (by omega)
    · exact False.elim (by omega)
set_option maxHeartbeats 4000000 in
set_option maxRecDepth 100000 in
theorem sx_tell_6_7 {g : GG} {n : Int} {L : Int32} (hy : LyX g)  {I : pI} {J : pJ} {R : pR} (hr : RfX g R) (hI : XI g n L I) (cl : Int32) (cl_lo : 7 ≤ cl.toInt) (cl_hi : cl.toInt ≤ 7) (hb : (I (ad g 4) 0).toInt ≤ 3) : SP g mX7_tell [.ref (ad g 6), .int cl, .ref (ad g 4)] I J R (fun r I' J' R' => (XI g n L I' ∧ R' = R ∧ True) ∧ r = none) := by
  refine SP_of ⟨by decide, rfl⟩ (Nat.le_of_ble_eq_true rfl) ?_
  have e4373 : I (ad g 1) 1 = L := hI.2
  have b4374 := BT_get hI.1 1 1 2 (0) (0) (900) (by decide) 1 (by decide) (by decide)
  rw [e4373] at b4374
  obtain ⟨w4375, ew4375⟩ : ∃ w : Int32, I (ad g 4) 0 = w := ⟨_, rfl⟩
  have bw4375 := BT_get hI.1 4 0 5 (0) (0) (1000) (by decide) 0 (by decide) (by decide)
  rw [ew4375] at bw4375
  rw [ew4375] at hb
  refine WP_aload_n dX7_tell_0 rfl ?_
  refine WP_dup dX7_tell_1 rfl ?_
  refine WQ_getiu dX7_tell_2 fX7_61 rfl (lyx_is hy 6 7 rfl) (fun v4376 ev4376 => ?_)
  refine WQ_iconst (1) (1) dX7_tell_5 rfl rfl (fun v4377 hv4377 => ?_)
  refine WQ_iaddu dX7_tell_6 (fun v4378 => ?_)
  refine WQ_puti dX7_tell_7 fX7_61 rfl rfl (lyx_is hy 6 7 rfl) (fun I4379 eI4379 => ?_)
  have hI4379 : XI g n L I4379 := by rw [eI4379]; exact (xi_f0 hy hI (c := 6) (by decide) (Or.inl (by decide)) (by decide))
  have e4380 : I4379 (ad g 1) 1 = L := by rw [eI4379, pp_ne _ _ (Or.inl (lyx_ne hy (by decide) (by decide) (by decide)))]; exact e4373
  have e4381 : I4379 (ad g 4) 0 = w4375 := by rw [eI4379, pp_ne _ _ (Or.inl (lyx_ne hy (by decide) (by decide) (by decide)))]; exact ew4375
  have e4382 : I4379 (ad g 6) 0 = v4378 := by rw [eI4379, pp_self]
  clear eI4379
  refine WP_iload_n dX7_tell_10 rfl ?_
  refine WP_tab 178 dX7_tell_11 rfl rfl (fun c4382 => ?_) (fun j off c4382 hj => ?_) (by decide)
  · exact False.elim (by omega)
  · have hlt : j < 9 := by have := (Array.getElem?_eq_some_iff.mp hj).1; simpa using this
    have hcs : (j = 0 ∧ off = 49) ∨ (j = 1 ∧ off = 62) ∨ (j = 2 ∧ off = 70) ∨ (j = 3 ∧ off = 78) ∨ (j = 4 ∧ off = 91) ∨ (j = 5 ∧ off = 104) ∨ (j = 6 ∧ off = 117) ∨ (j = 7 ∧ off = 125) ∨ (j = 8 ∧ off = 149) := by
      match j, hlt, hj with
      | 0, _, hj => exact Or.inl ⟨rfl, (Option.some.inj hj).symm⟩
      | 1, _, hj => exact Or.inr (Or.inl ⟨rfl, (Option.some.inj hj).symm⟩)
      | 2, _, hj => exact Or.inr (Or.inr (Or.inl ⟨rfl, (Option.some.inj hj).symm⟩))
      | 3, _, hj => exact Or.inr (Or.inr (Or.inr (Or.inl ⟨rfl, (Option.some.inj hj).symm⟩)))
      | 4, _, hj => exact Or.inr (Or.inr (Or.inr (Or.inr (Or.inl ⟨rfl, (Option.some.inj hj).symm⟩))))
      | 5, _, hj => exact Or.inr (Or.inr (Or.inr (Or.inr (Or.inr (Or.inl ⟨rfl, (Option.some.inj hj).symm⟩)))))
      | 6, _, hj => exact Or.inr (Or.inr (Or.inr (Or.inr (Or.inr (Or.inr (Or.inl ⟨rfl, (Option.some.inj hj).symm⟩))))))
      | 7, _, hj => exact Or.inr (Or.inr (Or.inr (Or.inr (Or.inr (Or.inr (Or.inr (Or.inl ⟨rfl, (Option.some.inj hj).symm⟩)))))))
      | 8, _, hj => exact Or.inr (Or.inr (Or.inr (Or.inr (Or.inr (Or.inr (Or.inr (Or.inr (⟨rfl, (Option.some.inj hj).symm⟩))))))))
    clear hj hlt
    rcases hcs with ⟨rfl, rfl⟩ | ⟨rfl, rfl⟩ | ⟨rfl, rfl⟩ | ⟨rfl, rfl⟩ | ⟨rfl, rfl⟩ | ⟨rfl, rfl⟩ | ⟨rfl, rfl⟩ | ⟨rfl, rfl⟩ | ⟨rfl, rfl⟩
    · exact False.elim (by omega)
    · exact False.elim (by omega)
    · exact False.elim (by omega)
    · exact False.elim (by omega)
    · exact False.elim (by omega)
    · exact False.elim (by omega)
    · exact False.elim (by omega)
    · show WP _ _ 136 _ _ _ _ _ _
      refine WP_aload_n dX7_tell_136 rfl ?_
      refine WP_getr dX7_tell_137 fX7_24 rfl (lyx_is hy 6 7 rfl) (rfx hr 6 9 11 (by decide)) ?_
      refine WP_aload_n dX7_tell_140 rfl ?_
      refine WQ_iconst (0) (0) dX7_tell_141 rfl rfl (fun v4384 hv4384 => ?_)
      refine WQ_ialdm (z := 0) dX7_tell_142 (lyx_is hy 4 13 rfl) (lyx_n hy 4 5 rfl) hv4384 (by decide) e4381 ?_
      refine WP_aload_n dX7_tell_143 rfl ?_
      refine WQ_iconst (1) (1) dX7_tell_144 rfl rfl (fun v4386 hv4386 => ?_)
      refine WQ_iald dX7_tell_145 (lyx_is hy 4 13 rfl) (lyx_n hy 4 5 rfl) (by omega) (by omega) (fun q hq => BT_get hI4379.1 4 0 5 (0) (0) (1000) (by decide) q (Nat.zero_le _) hq) (fun v4387 av4387 bv4387 ev4387 => ?_)
      clear ev4387
      refine WQ_iast dX7_tell_146 (lyx_is hy 11 13 rfl) (lyx_n hy 11 4 rfl) (by omega) (by omega) (fun I4388 eI4388 => ?_)
      have hI4388 : XI g n L I4388 := by rw [eI4388]; exact (xi_r0 hy hI4379 (c := 11) (by decide) (Or.inl (by decide)) (by decide))
      have e4389 : I4388 (ad g 1) 1 = L := by rw [eI4388, pp_ne _ _ (Or.inl (lyx_ne hy (by decide) (by decide) (by decide)))]; exact e4380
      have e4390 : I4388 (ad g 4) 0 = w4375 := by rw [eI4388, pp_ne _ _ (Or.inl (lyx_ne hy (by decide) (by decide) (by decide)))]; exact e4381
      have e4391 : I4388 (ad g 6) 0 = v4378 := by rw [eI4388, pp_ne _ _ (Or.inl (lyx_ne hy (by decide) (by decide) (by decide)))]; exact e4382
      clear eI4388
      refine WP_aload_n dX7_tell_147 rfl ?_
      refine WQ_bipush (7) (7) dX7_tell_148 rfl rfl (fun v4392 hv4392 => ?_)
      refine WP_aload_n dX7_tell_150 rfl ?_
      refine WQ_iconst (0) (0) dX7_tell_151 rfl rfl (fun v4393 hv4393 => ?_)
      refine WQ_ialdm (z := 0) dX7_tell_152 (lyx_is hy 4 13 rfl) (lyx_n hy 4 5 rfl) hv4393 (by decide) e4390 ?_
      refine WQ_iconst (0) (0) dX7_tell_153 rfl rfl (fun v4395 hv4395 => ?_)
      refine WP_callV3 (k := 7) dX7_tell_154 ⟨⟨⟨by decide, by decide⟩, zX7_hold⟩, lX7_109, by decide, rfl, vX7_hold.1, vX7_hold.2⟩ (lyx_is hy 6 7 rfl) (sx_hold_6 hy hr hI4388 v4392 w4375 v4395 (by omega) (by omega) (by omega) (by omega) ) (Nat.le_of_ble_eq_true rfl) ?_
      intro r I4396 J4397 Ra hq
      obtain ⟨⟨hI4396, ec⟩, rfl⟩ := hq
      rw [ec]
      clear ec Ra
      have e4398 : I4396 (ad g 1) 1 = L := hI4396.2
      have b4399 := BT_get hI4396.1 1 1 2 (0) (0) (900) (by decide) 1 (by decide) (by decide)
      rw [e4398] at b4399
      refine WP_goto 193 dX7_tell_157 rfl ?_
      exact WP_vret dX7_tell_193 rfl ⟨⟨hI4396, rfl, trivial⟩, rfl⟩
    · exact False.elim (by omega)
set_option maxHeartbeats 4000000 in
set_option maxRecDepth 100000 in
theorem sx_tell_6_8 {g : GG} {n : Int} {L : Int32} (hy : LyX g)  {I : pI} {J : pJ} {R : pR} (hr : RfX g R) (hI : XI g n L I) (cl : Int32) (cl_lo : 8 ≤ cl.toInt) (cl_hi : cl.toInt ≤ 8) (hb : (I (ad g 4) 0).toInt ≤ 3) : SP g mX7_tell [.ref (ad g 6), .int cl, .ref (ad g 4)] I J R (fun r I' J' R' => (XI g n L I' ∧ R' = R ∧ True) ∧ r = none) := by
  refine SP_of ⟨by decide, rfl⟩ (Nat.le_of_ble_eq_true rfl) ?_
  have e4400 : I (ad g 1) 1 = L := hI.2
  have b4401 := BT_get hI.1 1 1 2 (0) (0) (900) (by decide) 1 (by decide) (by decide)
  rw [e4400] at b4401
  obtain ⟨w4402, ew4402⟩ : ∃ w : Int32, I (ad g 4) 0 = w := ⟨_, rfl⟩
  have bw4402 := BT_get hI.1 4 0 5 (0) (0) (1000) (by decide) 0 (by decide) (by decide)
  rw [ew4402] at bw4402
  rw [ew4402] at hb
  refine WP_aload_n dX7_tell_0 rfl ?_
  refine WP_dup dX7_tell_1 rfl ?_
  refine WQ_getiu dX7_tell_2 fX7_61 rfl (lyx_is hy 6 7 rfl) (fun v4403 ev4403 => ?_)
  refine WQ_iconst (1) (1) dX7_tell_5 rfl rfl (fun v4404 hv4404 => ?_)
  refine WQ_iaddu dX7_tell_6 (fun v4405 => ?_)
  refine WQ_puti dX7_tell_7 fX7_61 rfl rfl (lyx_is hy 6 7 rfl) (fun I4406 eI4406 => ?_)
  have hI4406 : XI g n L I4406 := by rw [eI4406]; exact (xi_f0 hy hI (c := 6) (by decide) (Or.inl (by decide)) (by decide))
  have e4407 : I4406 (ad g 1) 1 = L := by rw [eI4406, pp_ne _ _ (Or.inl (lyx_ne hy (by decide) (by decide) (by decide)))]; exact e4400
  have e4408 : I4406 (ad g 4) 0 = w4402 := by rw [eI4406, pp_ne _ _ (Or.inl (lyx_ne hy (by decide) (by decide) (by decide)))]; exact ew4402
  have e4409 : I4406 (ad g 6) 0 = v4405 := by rw [eI4406, pp_self]
  clear eI4406
  refine WP_iload_n dX7_tell_10 rfl ?_
  refine WP_tab 178 dX7_tell_11 rfl rfl (fun c4409 => ?_) (fun j off c4409 hj => ?_) (by decide)
  · exact False.elim (by omega)
  · have hlt : j < 9 := by have := (Array.getElem?_eq_some_iff.mp hj).1; simpa using this
    have hcs : (j = 0 ∧ off = 49) ∨ (j = 1 ∧ off = 62) ∨ (j = 2 ∧ off = 70) ∨ (j = 3 ∧ off = 78) ∨ (j = 4 ∧ off = 91) ∨ (j = 5 ∧ off = 104) ∨ (j = 6 ∧ off = 117) ∨ (j = 7 ∧ off = 125) ∨ (j = 8 ∧ off = 149) := by
      match j, hlt, hj with
      | 0, _, hj => exact Or.inl ⟨rfl, (Option.some.inj hj).symm⟩
      | 1, _, hj => exact Or.inr (Or.inl ⟨rfl, (Option.some.inj hj).symm⟩)
      | 2, _, hj => exact Or.inr (Or.inr (Or.inl ⟨rfl, (Option.some.inj hj).symm⟩))
      | 3, _, hj => exact Or.inr (Or.inr (Or.inr (Or.inl ⟨rfl, (Option.some.inj hj).symm⟩)))
      | 4, _, hj => exact Or.inr (Or.inr (Or.inr (Or.inr (Or.inl ⟨rfl, (Option.some.inj hj).symm⟩))))
      | 5, _, hj => exact Or.inr (Or.inr (Or.inr (Or.inr (Or.inr (Or.inl ⟨rfl, (Option.some.inj hj).symm⟩)))))
      | 6, _, hj => exact Or.inr (Or.inr (Or.inr (Or.inr (Or.inr (Or.inr (Or.inl ⟨rfl, (Option.some.inj hj).symm⟩))))))
      | 7, _, hj => exact Or.inr (Or.inr (Or.inr (Or.inr (Or.inr (Or.inr (Or.inr (Or.inl ⟨rfl, (Option.some.inj hj).symm⟩)))))))
      | 8, _, hj => exact Or.inr (Or.inr (Or.inr (Or.inr (Or.inr (Or.inr (Or.inr (Or.inr (⟨rfl, (Option.some.inj hj).symm⟩))))))))
    clear hj hlt
    rcases hcs with ⟨rfl, rfl⟩ | ⟨rfl, rfl⟩ | ⟨rfl, rfl⟩ | ⟨rfl, rfl⟩ | ⟨rfl, rfl⟩ | ⟨rfl, rfl⟩ | ⟨rfl, rfl⟩ | ⟨rfl, rfl⟩ | ⟨rfl, rfl⟩
    · exact False.elim (by omega)
    · exact False.elim (by omega)
    · exact False.elim (by omega)
    · exact False.elim (by omega)
    · exact False.elim (by omega)
    · exact False.elim (by omega)
    · exact False.elim (by omega)
    · exact False.elim (by omega)
    · show WP _ _ 160 _ _ _ _ _ _
      refine WP_aload_n dX7_tell_160 rfl ?_
      refine WP_aload_n dX7_tell_161 rfl ?_
      refine WQ_iconst (0) (0) dX7_tell_162 rfl rfl (fun v4411 hv4411 => ?_)
      refine WQ_ialdm (z := 0) dX7_tell_163 (lyx_is hy 4 13 rfl) (lyx_n hy 4 5 rfl) hv4411 (by decide) e4408 ?_
      refine WQ_puti dX7_tell_164 fX7_71 rfl rfl (lyx_is hy 6 7 rfl) (fun I4413 eI4413 => ?_)
      have hI4413 : XI g n L I4413 := by rw [eI4413]; exact (xi_f hy hI4406 (c := 6) (-1) (0) (3) (by decide) (Or.inl (by decide)) (by decide) (by omega) (by omega))
      have e4414 : I4413 (ad g 1) 1 = L := by rw [eI4413, pp_ne _ _ (Or.inl (lyx_ne hy (by decide) (by decide) (by decide)))]; exact e4407
      have e4415 : I4413 (ad g 4) 0 = w4402 := by rw [eI4413, pp_ne _ _ (Or.inl (lyx_ne hy (by decide) (by decide) (by decide)))]; exact e4408
      have e4416 : I4413 (ad g 6) 0 = v4405 := by rw [eI4413, pp_ne _ _ (Or.inr (by decide))]; exact e4409
      have e4417 : I4413 (ad g 6) 3 = w4402 := by rw [eI4413, pp_self]
      clear eI4413
      refine WP_aload_n dX7_tell_167 rfl ?_
      refine WQ_bipush (8) (8) dX7_tell_168 rfl rfl (fun v4418 hv4418 => ?_)
      refine WQ_iconst (0) (0) dX7_tell_170 rfl rfl (fun v4419 hv4419 => ?_)
      refine WQ_iconst (0) (0) dX7_tell_171 rfl rfl (fun v4420 hv4420 => ?_)
      refine WP_callV3 (k := 7) dX7_tell_172 ⟨⟨⟨by decide, by decide⟩, zX7_hold⟩, lX7_109, by decide, rfl, vX7_hold.1, vX7_hold.2⟩ (lyx_is hy 6 7 rfl) (sx_hold_6 hy hr hI4413 v4418 v4419 v4420 (by omega) (by omega) (by omega) (by omega) ) (Nat.le_of_ble_eq_true rfl) ?_
      intro r I4421 J4422 Ra hq
      obtain ⟨⟨hI4421, ec⟩, rfl⟩ := hq
      rw [ec]
      clear ec Ra
      have e4423 : I4421 (ad g 1) 1 = L := hI4421.2
      have b4424 := BT_get hI4421.1 1 1 2 (0) (0) (900) (by decide) 1 (by decide) (by decide)
      rw [e4423] at b4424
      refine WP_goto 193 dX7_tell_175 rfl ?_
      exact WP_vret dX7_tell_193 rfl ⟨⟨hI4421, rfl, trivial⟩, rfl⟩
set_option maxHeartbeats 4000000 in
set_option maxRecDepth 100000 in
theorem sx_tell_6_9 {g : GG} {n : Int} {L : Int32} (hy : LyX g)  {I : pI} {J : pJ} {R : pR} (hr : RfX g R) (hI : XI g n L I) (cl : Int32) (cl_lo : 9 ≤ cl.toInt) (cl_hi : cl.toInt ≤ 9) (hb : (I (ad g 4) 0).toInt ≤ 2) : SP g mX7_tell [.ref (ad g 6), .int cl, .ref (ad g 4)] I J R (fun r I' J' R' => (XI g n L I' ∧ R' = R ∧ True) ∧ r = none) := by
  refine SP_of ⟨by decide, rfl⟩ (Nat.le_of_ble_eq_true rfl) ?_
  have e4425 : I (ad g 1) 1 = L := hI.2
  have b4426 := BT_get hI.1 1 1 2 (0) (0) (900) (by decide) 1 (by decide) (by decide)
  rw [e4425] at b4426
  obtain ⟨w4427, ew4427⟩ : ∃ w : Int32, I (ad g 4) 0 = w := ⟨_, rfl⟩
  have bw4427 := BT_get hI.1 4 0 5 (0) (0) (1000) (by decide) 0 (by decide) (by decide)
  rw [ew4427] at bw4427
  rw [ew4427] at hb
  refine WP_aload_n dX7_tell_0 rfl ?_
  refine WP_dup dX7_tell_1 rfl ?_
  refine WQ_getiu dX7_tell_2 fX7_61 rfl (lyx_is hy 6 7 rfl) (fun v4428 ev4428 => ?_)
  refine WQ_iconst (1) (1) dX7_tell_5 rfl rfl (fun v4429 hv4429 => ?_)
  refine WQ_iaddu dX7_tell_6 (fun v4430 => ?_)
  refine WQ_puti dX7_tell_7 fX7_61 rfl rfl (lyx_is hy 6 7 rfl) (fun I4431 eI4431 => ?_)
  have hI4431 : XI g n L I4431 := by rw [eI4431]; exact (xi_f0 hy hI (c := 6) (by decide) (Or.inl (by decide)) (by decide))
  have e4432 : I4431 (ad g 1) 1 = L := by rw [eI4431, pp_ne _ _ (Or.inl (lyx_ne hy (by decide) (by decide) (by decide)))]; exact e4425
  have e4433 : I4431 (ad g 4) 0 = w4427 := by rw [eI4431, pp_ne _ _ (Or.inl (lyx_ne hy (by decide) (by decide) (by decide)))]; exact ew4427
  have e4434 : I4431 (ad g 6) 0 = v4430 := by rw [eI4431, pp_self]
  clear eI4431
  refine WP_iload_n dX7_tell_10 rfl ?_
  refine WP_tab 178 dX7_tell_11 rfl rfl (fun c4434 => ?_) (fun j off c4434 hj => ?_) (by decide)
  · refine WP_aload_n dX7_tell_178 rfl ?_
    refine WP_aload_n dX7_tell_179 rfl ?_
    refine WQ_iconst (0) (0) dX7_tell_180 rfl rfl (fun v4436 hv4436 => ?_)
    refine WQ_ialdm (z := 0) dX7_tell_181 (lyx_is hy 4 13 rfl) (lyx_n hy 4 5 rfl) hv4436 (by decide) e4433 ?_
    refine WQ_puti dX7_tell_182 fX7_74 rfl rfl (lyx_is hy 6 7 rfl) (fun I4438 eI4438 => ?_)
    have hI4438 : XI g n L I4438 := by rw [eI4438]; exact (xi_f hy hI4431 (c := 6) (-1) (0) (2) (by decide) (Or.inl (by decide)) (by decide) (by omega) (by omega))
    have e4439 : I4438 (ad g 1) 1 = L := by rw [eI4438, pp_ne _ _ (Or.inl (lyx_ne hy (by decide) (by decide) (by decide)))]; exact e4432
    have e4440 : I4438 (ad g 4) 0 = w4427 := by rw [eI4438, pp_ne _ _ (Or.inl (lyx_ne hy (by decide) (by decide) (by decide)))]; exact e4433
    have e4441 : I4438 (ad g 6) 0 = v4430 := by rw [eI4438, pp_ne _ _ (Or.inr (by decide))]; exact e4434
    have e4442 : I4438 (ad g 6) 4 = w4427 := by rw [eI4438, pp_self]
    clear eI4438
    refine WP_aload_n dX7_tell_185 rfl ?_
    refine WQ_bipush (9) (9) dX7_tell_186 rfl rfl (fun v4443 hv4443 => ?_)
    refine WQ_iconst (0) (0) dX7_tell_188 rfl rfl (fun v4444 hv4444 => ?_)
    refine WQ_iconst (0) (0) dX7_tell_189 rfl rfl (fun v4445 hv4445 => ?_)
    refine WP_callV3 (k := 7) dX7_tell_190 ⟨⟨⟨by decide, by decide⟩, zX7_hold⟩, lX7_109, by decide, rfl, vX7_hold.1, vX7_hold.2⟩ (lyx_is hy 6 7 rfl) (sx_hold_6 hy hr hI4438 v4443 v4444 v4445 (by omega) (by omega) (by omega) (by omega) ) (Nat.le_of_ble_eq_true rfl) ?_
    intro r I4446 J4447 Ra hq
    obtain ⟨⟨hI4446, ec⟩, rfl⟩ := hq
    rw [ec]
    clear ec Ra
    have e4448 : I4446 (ad g 1) 1 = L := hI4446.2
    have b4449 := BT_get hI4446.1 1 1 2 (0) (0) (900) (by decide) 1 (by decide) (by decide)
    rw [e4448] at b4449
    exact WP_vret dX7_tell_193 rfl ⟨⟨hI4446, rfl, trivial⟩, rfl⟩
  · have hlt : j < 9 := by have := (Array.getElem?_eq_some_iff.mp hj).1; simpa using this
    have hcs : (j = 0 ∧ off = 49) ∨ (j = 1 ∧ off = 62) ∨ (j = 2 ∧ off = 70) ∨ (j = 3 ∧ off = 78) ∨ (j = 4 ∧ off = 91) ∨ (j = 5 ∧ off = 104) ∨ (j = 6 ∧ off = 117) ∨ (j = 7 ∧ off = 125) ∨ (j = 8 ∧ off = 149) := by
      match j, hlt, hj with
      | 0, _, hj => exact Or.inl ⟨rfl, (Option.some.inj hj).symm⟩
      | 1, _, hj => exact Or.inr (Or.inl ⟨rfl, (Option.some.inj hj).symm⟩)
      | 2, _, hj => exact Or.inr (Or.inr (Or.inl ⟨rfl, (Option.some.inj hj).symm⟩))
      | 3, _, hj => exact Or.inr (Or.inr (Or.inr (Or.inl ⟨rfl, (Option.some.inj hj).symm⟩)))
      | 4, _, hj => exact Or.inr (Or.inr (Or.inr (Or.inr (Or.inl ⟨rfl, (Option.some.inj hj).symm⟩))))
      | 5, _, hj => exact Or.inr (Or.inr (Or.inr (Or.inr (Or.inr (Or.inl ⟨rfl, (Option.some.inj hj).symm⟩)))))
      | 6, _, hj => exact Or.inr (Or.inr (Or.inr (Or.inr (Or.inr (Or.inr (Or.inl ⟨rfl, (Option.some.inj hj).symm⟩))))))
      | 7, _, hj => exact Or.inr (Or.inr (Or.inr (Or.inr (Or.inr (Or.inr (Or.inr (Or.inl ⟨rfl, (Option.some.inj hj).symm⟩)))))))
      | 8, _, hj => exact Or.inr (Or.inr (Or.inr (Or.inr (Or.inr (Or.inr (Or.inr (Or.inr (⟨rfl, (Option.some.inj hj).symm⟩))))))))
    clear hj hlt
    rcases hcs with ⟨rfl, rfl⟩ | ⟨rfl, rfl⟩ | ⟨rfl, rfl⟩ | ⟨rfl, rfl⟩ | ⟨rfl, rfl⟩ | ⟨rfl, rfl⟩ | ⟨rfl, rfl⟩ | ⟨rfl, rfl⟩ | ⟨rfl, rfl⟩
    · exact False.elim (by omega)
    · exact False.elim (by omega)
    · exact False.elim (by omega)
    · exact False.elim (by omega)
    · exact False.elim (by omega)
    · exact False.elim (by omega)
    · exact False.elim (by omega)
    · exact False.elim (by omega)
    · exact False.elim (by omega)
set_option maxHeartbeats 4000000 in
set_option maxRecDepth 100000 in
theorem sx_tellLoss_27 {g : GG} {n : Int} {L : Int32} (hy : LyX g)  {I : pI} {J : pJ} {R : pR} (hr : RfX g R) (hI : XI g n L I) (da : Int32) (lo : Int32) (da_lo : 0 ≤ da.toInt) (da_hi : da.toInt ≤ 6) (lo_lo : 0 ≤ lo.toInt) (lo_hi : lo.toInt ≤ 900) : SP g mX7_tellLoss [.ref (ad g 27), .int da, .int lo] I J R (fun r I' J' R' => (XI g n L I' ∧ R' = R) ∧ r = none) := by
  refine SP_of ⟨by decide, rfl⟩ (Nat.le_of_ble_eq_true rfl) ?_
  have e4450 : I (ad g 1) 1 = L := hI.2
  have b4451 := BT_get hI.1 1 1 2 (0) (0) (900) (by decide) 1 (by decide) (by decide)
  rw [e4450] at b4451
  refine WP_aload_n dX7_tellLoss_0 rfl ?_
  refine WP_getr dX7_tellLoss_1 fX7_9 rfl (lyx_is hy 27 7 rfl) (rfx hr 27 5 28 (by decide)) ?_
  refine WP_iload_n dX7_tellLoss_4 rfl ?_
  refine WP_iload_n dX7_tellLoss_5 rfl ?_
  refine WQ_iast dX7_tellLoss_6 (lyx_is hy 28 13 rfl) (lyx_n hy 28 7 rfl) (by omega) (by omega) (fun I4452 eI4452 => ?_)
  have hI4452 : XI g n L I4452 := by rw [eI4452]; exact (xi_r hy hI (c := 28) (0) (0) (900) (by decide) (Or.inl (by decide)) (by decide) (by omega) (by omega))
  have e4453 : I4452 (ad g 1) 1 = L := by rw [eI4452, pp_ne _ _ (Or.inl (lyx_ne hy (by decide) (by decide) (by decide)))]; exact e4450
  clear eI4452
  refine WP_aload_n dX7_tellLoss_7 rfl ?_
  refine WQ_iconst (0) (0) dX7_tellLoss_8 rfl rfl (fun v4454 hv4454 => ?_)
  refine WQ_iconst (0) (0) dX7_tellLoss_9 rfl rfl (fun v4455 hv4455 => ?_)
  refine WP_iload_n dX7_tellLoss_10 rfl ?_
  refine WP_callV3 (k := 7) dX7_tellLoss_11 ⟨⟨⟨by decide, by decide⟩, zX7_hold⟩, lX7_109, by decide, rfl, vX7_hold.1, vX7_hold.2⟩ (lyx_is hy 27 7 rfl) (sx_hold_27 hy hr hI4452 v4454 v4455 da (by omega) (by omega) (by omega) (by omega) ) (Nat.le_of_ble_eq_true rfl) ?_
  intro r I4456 J4457 Ra hq
  obtain ⟨⟨hI4456, ec⟩, rfl⟩ := hq
  rw [ec]
  clear ec Ra
  have e4458 : I4456 (ad g 1) 1 = L := hI4456.2
  have b4459 := BT_get hI4456.1 1 1 2 (0) (0) (900) (by decide) 1 (by decide) (by decide)
  rw [e4458] at b4459
  exact WP_vret dX7_tellLoss_14 rfl ⟨⟨hI4456, rfl⟩, rfl⟩
set_option maxHeartbeats 4000000 in
set_option maxRecDepth 100000 in
theorem sx_tellSort_27 {g : GG} {n : Int} {L : Int32} (hy : LyX g)  {I : pI} {J : pJ} {R : pR} (hr : RfX g R) (hI : XI g n L I)   (hb : (I (ad g 4) 1).toInt ≤ 99 ∧ (I (ad g 4) 2).toInt ≤ 1000 ∧ (I (ad g 4) 3).toInt ≤ 60 ∧ (I (ad g 27) 1).toInt ≤ 3) : SP g mX7_tellSort [.ref (ad g 27), .ref (ad g 4)] I J R (fun r I' J' R' => (XI g n L I' ∧ R' = R ∧ True) ∧ r = none) := by
  refine SP_of ⟨by decide, rfl⟩ (Nat.le_of_ble_eq_true rfl) ?_
  have e4460 : I (ad g 1) 1 = L := hI.2
  have b4461 := BT_get hI.1 1 1 2 (0) (0) (900) (by decide) 1 (by decide) (by decide)
  rw [e4460] at b4461
  obtain ⟨w4462, ew4462⟩ : ∃ w : Int32, I (ad g 4) 1 = w := ⟨_, rfl⟩
  have bw4462 := BT_get hI.1 4 0 5 (0) (0) (1000) (by decide) 1 (by decide) (by decide)
  rw [ew4462] at bw4462
  obtain ⟨w4463, ew4463⟩ : ∃ w : Int32, I (ad g 4) 2 = w := ⟨_, rfl⟩
  have bw4463 := BT_get hI.1 4 0 5 (0) (0) (1000) (by decide) 2 (by decide) (by decide)
  rw [ew4463] at bw4463
  obtain ⟨w4464, ew4464⟩ : ∃ w : Int32, I (ad g 4) 3 = w := ⟨_, rfl⟩
  have bw4464 := BT_get hI.1 4 0 5 (0) (0) (1000) (by decide) 3 (by decide) (by decide)
  rw [ew4464] at bw4464
  obtain ⟨w4465, ew4465⟩ : ∃ w : Int32, I (ad g 27) 1 = w := ⟨_, rfl⟩
  have bw4465 := BT_get hI.1 27 1 2 (0) (0) (4) (by decide) 1 (by decide) (by decide)
  rw [ew4465] at bw4465
  rw [ew4462, ew4463, ew4464, ew4465] at hb
  refine WP_aload_n dX7_tellSort_0 rfl ?_
  refine WP_getr dX7_tellSort_1 fX7_15 rfl (lyx_is hy 27 7 rfl) (rfx hr 27 6 29 (by decide)) ?_
  refine WP_aload_n dX7_tellSort_4 rfl ?_
  refine WQ_getim dX7_tellSort_5 fX7_65 rfl (lyx_is hy 27 7 rfl) ew4465 ?_
  refine WP_aload_n dX7_tellSort_8 rfl ?_
  refine WQ_iconst (1) (1) dX7_tellSort_9 rfl rfl (fun v4466 hv4466 => ?_)
  refine WQ_ialdm (z := 1) dX7_tellSort_10 (lyx_is hy 4 13 rfl) (lyx_n hy 4 5 rfl) hv4466 (by decide) ew4462 ?_
  refine WQ_iast dX7_tellSort_11 (lyx_is hy 29 13 rfl) (lyx_n hy 29 4 rfl) (by omega) (by omega) (fun I4468 eI4468 => ?_)
  have hI4468 : XI g n L I4468 := by rw [eI4468]; exact (xi_r hy hI (c := 29) (0) (0) (99) (by decide) (Or.inl (by decide)) (by decide) (by omega) (by omega))
  have e4469 : I4468 (ad g 1) 1 = L := by rw [eI4468, pp_ne _ _ (Or.inl (lyx_ne hy (by decide) (by decide) (by decide)))]; exact e4460
  have e4470 : I4468 (ad g 4) 1 = w4462 := by rw [eI4468, pp_ne _ _ (Or.inl (lyx_ne hy (by decide) (by decide) (by decide)))]; exact ew4462
  have e4471 : I4468 (ad g 4) 2 = w4463 := by rw [eI4468, pp_ne _ _ (Or.inl (lyx_ne hy (by decide) (by decide) (by decide)))]; exact ew4463
  have e4472 : I4468 (ad g 4) 3 = w4464 := by rw [eI4468, pp_ne _ _ (Or.inl (lyx_ne hy (by decide) (by decide) (by decide)))]; exact ew4464
  have e4473 : I4468 (ad g 27) 1 = w4465 := by rw [eI4468, pp_ne _ _ (Or.inl (lyx_ne hy (by decide) (by decide) (by decide)))]; exact ew4465
  clear eI4468
  refine WP_aload_n dX7_tellSort_12 rfl ?_
  refine WP_getr dX7_tellSort_13 fX7_18 rfl (lyx_is hy 27 7 rfl) (rfx hr 27 7 30 (by decide)) ?_
  refine WP_aload_n dX7_tellSort_16 rfl ?_
  refine WQ_getim dX7_tellSort_17 fX7_65 rfl (lyx_is hy 27 7 rfl) e4473 ?_
  refine WP_aload_n dX7_tellSort_20 rfl ?_
  refine WQ_iconst (2) (2) dX7_tellSort_21 rfl rfl (fun v4474 hv4474 => ?_)
  refine WQ_ialdm (z := 2) dX7_tellSort_22 (lyx_is hy 4 13 rfl) (lyx_n hy 4 5 rfl) hv4474 (by decide) e4471 ?_
  refine WQ_iast dX7_tellSort_23 (lyx_is hy 30 13 rfl) (lyx_n hy 30 4 rfl) (by omega) (by omega) (fun I4476 eI4476 => ?_)
  have hI4476 : XI g n L I4476 := by rw [eI4476]; exact (xi_r hy hI4468 (c := 30) (0) (0) (1000) (by decide) (Or.inl (by decide)) (by decide) (by omega) (by omega))
  have e4477 : I4476 (ad g 1) 1 = L := by rw [eI4476, pp_ne _ _ (Or.inl (lyx_ne hy (by decide) (by decide) (by decide)))]; exact e4469
  have e4478 : I4476 (ad g 4) 1 = w4462 := by rw [eI4476, pp_ne _ _ (Or.inl (lyx_ne hy (by decide) (by decide) (by decide)))]; exact e4470
  have e4479 : I4476 (ad g 4) 2 = w4463 := by rw [eI4476, pp_ne _ _ (Or.inl (lyx_ne hy (by decide) (by decide) (by decide)))]; exact e4471
  have e4480 : I4476 (ad g 4) 3 = w4464 := by rw [eI4476, pp_ne _ _ (Or.inl (lyx_ne hy (by decide) (by decide) (by decide)))]; exact e4472
  have e4481 : I4476 (ad g 27) 1 = w4465 := by rw [eI4476, pp_ne _ _ (Or.inl (lyx_ne hy (by decide) (by decide) (by decide)))]; exact e4473
  clear eI4476
  refine WP_aload_n dX7_tellSort_24 rfl ?_
  refine WP_getr dX7_tellSort_25 fX7_21 rfl (lyx_is hy 27 7 rfl) (rfx hr 27 8 31 (by decide)) ?_
  refine WP_aload_n dX7_tellSort_28 rfl ?_
  refine WQ_getim dX7_tellSort_29 fX7_65 rfl (lyx_is hy 27 7 rfl) e4481 ?_
  refine WP_aload_n dX7_tellSort_32 rfl ?_
  refine WQ_iconst (3) (3) dX7_tellSort_33 rfl rfl (fun v4482 hv4482 => ?_)
  refine WQ_ialdm (z := 3) dX7_tellSort_34 (lyx_is hy 4 13 rfl) (lyx_n hy 4 5 rfl) hv4482 (by decide) e4480 ?_
  refine WQ_iast dX7_tellSort_35 (lyx_is hy 31 13 rfl) (lyx_n hy 31 4 rfl) (by omega) (by omega) (fun I4484 eI4484 => ?_)
  have hI4484 : XI g n L I4484 := by rw [eI4484]; exact (xi_r hy hI4476 (c := 31) (0) (0) (60) (by decide) (Or.inl (by decide)) (by decide) (by omega) (by omega))
  have e4485 : I4484 (ad g 1) 1 = L := by rw [eI4484, pp_ne _ _ (Or.inl (lyx_ne hy (by decide) (by decide) (by decide)))]; exact e4477
  have e4486 : I4484 (ad g 4) 1 = w4462 := by rw [eI4484, pp_ne _ _ (Or.inl (lyx_ne hy (by decide) (by decide) (by decide)))]; exact e4478
  have e4487 : I4484 (ad g 4) 2 = w4463 := by rw [eI4484, pp_ne _ _ (Or.inl (lyx_ne hy (by decide) (by decide) (by decide)))]; exact e4479
  have e4488 : I4484 (ad g 4) 3 = w4464 := by rw [eI4484, pp_ne _ _ (Or.inl (lyx_ne hy (by decide) (by decide) (by decide)))]; exact e4480
  have e4489 : I4484 (ad g 27) 1 = w4465 := by rw [eI4484, pp_ne _ _ (Or.inl (lyx_ne hy (by decide) (by decide) (by decide)))]; exact e4481
  clear eI4484
  refine WP_aload_n dX7_tellSort_36 rfl ?_
  refine WP_dup dX7_tellSort_37 rfl ?_
  refine WQ_getim dX7_tellSort_38 fX7_65 rfl (lyx_is hy 27 7 rfl) e4489 ?_
  refine WQ_iconst (1) (1) dX7_tellSort_41 rfl rfl (fun v4490 hv4490 => ?_)
  refine WQ_iadd dX7_tellSort_42 (by omega) (by omega) (fun v4491 hv4491 => ?_)
  refine WQ_puti dX7_tellSort_43 fX7_65 rfl rfl (lyx_is hy 27 7 rfl) (fun I4492 eI4492 => ?_)
  have hI4492 : XI g n L I4492 := by rw [eI4492]; exact (xi_f hy hI4484 (c := 27) (0) (0) (4) (by decide) (Or.inl (by decide)) (by decide) (by omega) (by omega))
  have e4493 : I4492 (ad g 1) 1 = L := by rw [eI4492, pp_ne _ _ (Or.inl (lyx_ne hy (by decide) (by decide) (by decide)))]; exact e4485
  have e4494 : I4492 (ad g 4) 1 = w4462 := by rw [eI4492, pp_ne _ _ (Or.inl (lyx_ne hy (by decide) (by decide) (by decide)))]; exact e4486
  have e4495 : I4492 (ad g 4) 2 = w4463 := by rw [eI4492, pp_ne _ _ (Or.inl (lyx_ne hy (by decide) (by decide) (by decide)))]; exact e4487
  have e4496 : I4492 (ad g 4) 3 = w4464 := by rw [eI4492, pp_ne _ _ (Or.inl (lyx_ne hy (by decide) (by decide) (by decide)))]; exact e4488
  have e4497 : I4492 (ad g 27) 1 = v4491 := by rw [eI4492, pp_self]
  clear eI4492
  exact WP_vret dX7_tellSort_46 rfl ⟨⟨hI4492, rfl, trivial⟩, rfl⟩
set_option maxHeartbeats 4000000 in
set_option maxRecDepth 100000 in
theorem sx_tellThing_27 {g : GG} {n : Int} {L : Int32} (hy : LyX g)  {I : pI} {J : pJ} {R : pR} (hr : RfX g R) (hI : XI g n L I)   (hb : (I (ad g 4) 1).toInt ≤ 1000 ∧ (I (ad g 4) 2).toInt ≤ 9 ∧ (I (ad g 27) 2).toInt ≤ 2) : SP g mX7_tellThing [.ref (ad g 27), .ref (ad g 4)] I J R (fun r I' J' R' => (XI g n L I' ∧ R' = R ∧ True) ∧ r = none) := by
  refine SP_of ⟨by decide, rfl⟩ (Nat.le_of_ble_eq_true rfl) ?_
  have e4498 : I (ad g 1) 1 = L := hI.2
  have b4499 := BT_get hI.1 1 1 2 (0) (0) (900) (by decide) 1 (by decide) (by decide)
  rw [e4498] at b4499
  obtain ⟨w4500, ew4500⟩ : ∃ w : Int32, I (ad g 4) 1 = w := ⟨_, rfl⟩
  have bw4500 := BT_get hI.1 4 0 5 (0) (0) (1000) (by decide) 1 (by decide) (by decide)
  rw [ew4500] at bw4500
  obtain ⟨w4501, ew4501⟩ : ∃ w : Int32, I (ad g 4) 2 = w := ⟨_, rfl⟩
  have bw4501 := BT_get hI.1 4 0 5 (0) (0) (1000) (by decide) 2 (by decide) (by decide)
  rw [ew4501] at bw4501
  obtain ⟨w4502, ew4502⟩ : ∃ w : Int32, I (ad g 27) 2 = w := ⟨_, rfl⟩
  have bw4502 := BT_get hI.1 27 2 3 (0) (0) (3) (by decide) 2 (by decide) (by decide)
  rw [ew4502] at bw4502
  rw [ew4500, ew4501, ew4502] at hb
  refine WP_aload_n dX7_tellThing_0 rfl ?_
  refine WP_getr dX7_tellThing_1 fX7_39 rfl (lyx_is hy 27 7 rfl) (rfx hr 27 14 37 (by decide)) ?_
  refine WP_aload_n dX7_tellThing_4 rfl ?_
  refine WQ_getim dX7_tellThing_5 fX7_68 rfl (lyx_is hy 27 7 rfl) ew4502 ?_
  refine WP_aload_n dX7_tellThing_8 rfl ?_
  refine WQ_iconst (1) (1) dX7_tellThing_9 rfl rfl (fun v4503 hv4503 => ?_)
  refine WQ_ialdm (z := 1) dX7_tellThing_10 (lyx_is hy 4 13 rfl) (lyx_n hy 4 5 rfl) hv4503 (by decide) ew4500 ?_
  refine WQ_iast dX7_tellThing_11 (lyx_is hy 37 13 rfl) (lyx_n hy 37 3 rfl) (by omega) (by omega) (fun I4505 eI4505 => ?_)
  have hI4505 : XI g n L I4505 := by rw [eI4505]; exact (xi_r hy hI (c := 37) (0) (0) (1000) (by decide) (Or.inl (by decide)) (by decide) (by omega) (by omega))
  have e4506 : I4505 (ad g 1) 1 = L := by rw [eI4505, pp_ne _ _ (Or.inl (lyx_ne hy (by decide) (by decide) (by decide)))]; exact e4498
  have e4507 : I4505 (ad g 4) 1 = w4500 := by rw [eI4505, pp_ne _ _ (Or.inl (lyx_ne hy (by decide) (by decide) (by decide)))]; exact ew4500
  have e4508 : I4505 (ad g 4) 2 = w4501 := by rw [eI4505, pp_ne _ _ (Or.inl (lyx_ne hy (by decide) (by decide) (by decide)))]; exact ew4501
  have e4509 : I4505 (ad g 27) 2 = w4502 := by rw [eI4505, pp_ne _ _ (Or.inl (lyx_ne hy (by decide) (by decide) (by decide)))]; exact ew4502
  clear eI4505
  refine WP_aload_n dX7_tellThing_12 rfl ?_
  refine WP_getr dX7_tellThing_13 fX7_42 rfl (lyx_is hy 27 7 rfl) (rfx hr 27 15 38 (by decide)) ?_
  refine WP_aload_n dX7_tellThing_16 rfl ?_
  refine WQ_getim dX7_tellThing_17 fX7_68 rfl (lyx_is hy 27 7 rfl) e4509 ?_
  refine WP_aload_n dX7_tellThing_20 rfl ?_
  refine WQ_iconst (2) (2) dX7_tellThing_21 rfl rfl (fun v4510 hv4510 => ?_)
  refine WQ_ialdm (z := 2) dX7_tellThing_22 (lyx_is hy 4 13 rfl) (lyx_n hy 4 5 rfl) hv4510 (by decide) e4508 ?_
  refine WQ_iast dX7_tellThing_23 (lyx_is hy 38 13 rfl) (lyx_n hy 38 3 rfl) (by omega) (by omega) (fun I4512 eI4512 => ?_)
  have hI4512 : XI g n L I4512 := by rw [eI4512]; exact (xi_r hy hI4505 (c := 38) (0) (0) (9) (by decide) (Or.inl (by decide)) (by decide) (by omega) (by omega))
  have e4513 : I4512 (ad g 1) 1 = L := by rw [eI4512, pp_ne _ _ (Or.inl (lyx_ne hy (by decide) (by decide) (by decide)))]; exact e4506
  have e4514 : I4512 (ad g 4) 1 = w4500 := by rw [eI4512, pp_ne _ _ (Or.inl (lyx_ne hy (by decide) (by decide) (by decide)))]; exact e4507
  have e4515 : I4512 (ad g 4) 2 = w4501 := by rw [eI4512, pp_ne _ _ (Or.inl (lyx_ne hy (by decide) (by decide) (by decide)))]; exact e4508
  have e4516 : I4512 (ad g 27) 2 = w4502 := by rw [eI4512, pp_ne _ _ (Or.inl (lyx_ne hy (by decide) (by decide) (by decide)))]; exact e4509
  clear eI4512
  refine WP_aload_n dX7_tellThing_24 rfl ?_
  refine WP_dup dX7_tellThing_25 rfl ?_
  refine WQ_getim dX7_tellThing_26 fX7_68 rfl (lyx_is hy 27 7 rfl) e4516 ?_
  refine WQ_iconst (1) (1) dX7_tellThing_29 rfl rfl (fun v4517 hv4517 => ?_)
  refine WQ_iadd dX7_tellThing_30 (by omega) (by omega) (fun v4518 hv4518 => ?_)
  refine WQ_puti dX7_tellThing_31 fX7_68 rfl rfl (lyx_is hy 27 7 rfl) (fun I4519 eI4519 => ?_)
  have hI4519 : XI g n L I4519 := by rw [eI4519]; exact (xi_f hy hI4512 (c := 27) (0) (0) (3) (by decide) (Or.inl (by decide)) (by decide) (by omega) (by omega))
  have e4520 : I4519 (ad g 1) 1 = L := by rw [eI4519, pp_ne _ _ (Or.inl (lyx_ne hy (by decide) (by decide) (by decide)))]; exact e4513
  have e4521 : I4519 (ad g 4) 1 = w4500 := by rw [eI4519, pp_ne _ _ (Or.inl (lyx_ne hy (by decide) (by decide) (by decide)))]; exact e4514
  have e4522 : I4519 (ad g 4) 2 = w4501 := by rw [eI4519, pp_ne _ _ (Or.inl (lyx_ne hy (by decide) (by decide) (by decide)))]; exact e4515
  have e4523 : I4519 (ad g 27) 2 = v4518 := by rw [eI4519, pp_self]
  clear eI4519
  refine WP_aload_n dX7_tellThing_34 rfl ?_
  refine WQ_geti dX7_tellThing_35 fX7_74 rfl (lyx_is hy 27 7 rfl) (BT_get hI4519.1 27 4 5 (-1) (0) (2) (by decide) 4 (by decide) (by decide)) (fun v4524 ev4524 av4524 bv4524 => ?_)
  refine WQ_iconst (-1) (-1) dX7_tellThing_38 rfl rfl (fun v4525 hv4525 => ?_)
  refine WQ_icmp_ne 47 dX7_tellThing_39 rfl (fun c4525 => ?_) (fun c4525 => ?_)
  · exact WP_vret dX7_tellThing_47 rfl ⟨⟨hI4519, rfl, trivial⟩, rfl⟩
  · refine WP_aload_n dX7_tellThing_42 rfl ?_
    refine WQ_iconst (0) (0) dX7_tellThing_43 rfl rfl (fun v4527 hv4527 => ?_)
    refine WQ_puti dX7_tellThing_44 fX7_74 rfl rfl (lyx_is hy 27 7 rfl) (fun I4528 eI4528 => ?_)
    have hI4528 : XI g n L I4528 := by rw [eI4528]; exact (xi_f hy hI4519 (c := 27) (-1) (0) (2) (by decide) (Or.inl (by decide)) (by decide) (by omega) (by omega))
    have e4529 : I4528 (ad g 1) 1 = L := by rw [eI4528, pp_ne _ _ (Or.inl (lyx_ne hy (by decide) (by decide) (by decide)))]; exact e4520
    have e4530 : I4528 (ad g 4) 1 = w4500 := by rw [eI4528, pp_ne _ _ (Or.inl (lyx_ne hy (by decide) (by decide) (by decide)))]; exact e4521
    have e4531 : I4528 (ad g 4) 2 = w4501 := by rw [eI4528, pp_ne _ _ (Or.inl (lyx_ne hy (by decide) (by decide) (by decide)))]; exact e4522
    have e4532 : I4528 (ad g 27) 2 = v4518 := by rw [eI4528, pp_ne _ _ (Or.inr (by decide))]; exact e4523
    have e4533 : I4528 (ad g 27) 4 = v4527 := by rw [eI4528, pp_self]
    clear eI4528
    exact WP_vret dX7_tellThing_47 rfl ⟨⟨hI4528, rfl, trivial⟩, rfl⟩
set_option maxHeartbeats 4000000 in
set_option maxRecDepth 100000 in
theorem sx_tellWant_27 {g : GG} {n : Int} {L : Int32} (hy : LyX g)  {I : pI} {J : pJ} {R : pR} (hr : RfX g R) (hI : XI g n L I)   (hb : (I (ad g 4) 0).toInt ≤ 3 ∧ (I (ad g 4) 1).toInt ≤ 2 ∧ (I (ad g 4) 2).toInt ≤ 6 ∧ (I (ad g 4) 3).toInt ≤ 3 ∧ (I (ad g 4) 4).toInt ≤ 99) : SP g mX7_tellWant [.ref (ad g 27), .ref (ad g 4)] I J R (fun r I' J' R' => (XI g n L I' ∧ R' = R ∧ True) ∧ r = none) := by
  refine SP_of ⟨by decide, rfl⟩ (Nat.le_of_ble_eq_true rfl) ?_
  have e4534 : I (ad g 1) 1 = L := hI.2
  have b4535 := BT_get hI.1 1 1 2 (0) (0) (900) (by decide) 1 (by decide) (by decide)
  rw [e4534] at b4535
  obtain ⟨w4536, ew4536⟩ : ∃ w : Int32, I (ad g 4) 0 = w := ⟨_, rfl⟩
  have bw4536 := BT_get hI.1 4 0 5 (0) (0) (1000) (by decide) 0 (by decide) (by decide)
  rw [ew4536] at bw4536
  obtain ⟨w4537, ew4537⟩ : ∃ w : Int32, I (ad g 4) 1 = w := ⟨_, rfl⟩
  have bw4537 := BT_get hI.1 4 0 5 (0) (0) (1000) (by decide) 1 (by decide) (by decide)
  rw [ew4537] at bw4537
  obtain ⟨w4538, ew4538⟩ : ∃ w : Int32, I (ad g 4) 2 = w := ⟨_, rfl⟩
  have bw4538 := BT_get hI.1 4 0 5 (0) (0) (1000) (by decide) 2 (by decide) (by decide)
  rw [ew4538] at bw4538
  obtain ⟨w4539, ew4539⟩ : ∃ w : Int32, I (ad g 4) 3 = w := ⟨_, rfl⟩
  have bw4539 := BT_get hI.1 4 0 5 (0) (0) (1000) (by decide) 3 (by decide) (by decide)
  rw [ew4539] at bw4539
  obtain ⟨w4540, ew4540⟩ : ∃ w : Int32, I (ad g 4) 4 = w := ⟨_, rfl⟩
  have bw4540 := BT_get hI.1 4 0 5 (0) (0) (1000) (by decide) 4 (by decide) (by decide)
  rw [ew4540] at bw4540
  rw [ew4536, ew4537, ew4538, ew4539, ew4540] at hb
  refine WP_aload_n dX7_tellWant_0 rfl ?_
  refine WQ_iconst (0) (0) dX7_tellWant_1 rfl rfl (fun v4541 hv4541 => ?_)
  refine WQ_ialdm (z := 0) dX7_tellWant_2 (lyx_is hy 4 13 rfl) (lyx_n hy 4 5 rfl) hv4541 (by decide) ew4536 ?_
  refine WQ_bipush (7) (7) dX7_tellWant_3 rfl rfl (fun v4543 hv4543 => ?_)
  refine WQ_imulk (7) dX7_tellWant_5 hv4543 (by omega) (by omega) (fun v4544 hv4544 => ?_)
  refine WP_aload_n dX7_tellWant_6 rfl ?_
  refine WQ_iconst (2) (2) dX7_tellWant_7 rfl rfl (fun v4545 hv4545 => ?_)
  refine WQ_ialdm (z := 2) dX7_tellWant_8 (lyx_is hy 4 13 rfl) (lyx_n hy 4 5 rfl) hv4545 (by decide) ew4538 ?_
  refine WQ_iadd dX7_tellWant_9 (by omega) (by omega) (fun v4547 hv4547 => ?_)
  refine WP_istore_n (ls' := [(0, _), (1, _), (2, _)]) dX7_tellWant_10 (by decide) rfl ?_
  refine WP_aload_n dX7_tellWant_11 rfl ?_
  refine WP_getr dX7_tellWant_12 fX7_30 rfl (lyx_is hy 27 7 rfl) (rfx hr 27 11 34 (by decide)) ?_
  refine WP_iload_n dX7_tellWant_15 rfl ?_
  refine WP_aload_n dX7_tellWant_16 rfl ?_
  refine WQ_iconst (1) (1) dX7_tellWant_17 rfl rfl (fun v4548 hv4548 => ?_)
  refine WQ_ialdm (z := 1) dX7_tellWant_18 (lyx_is hy 4 13 rfl) (lyx_n hy 4 5 rfl) hv4548 (by decide) ew4537 ?_
  refine WQ_iast dX7_tellWant_19 (lyx_is hy 34 13 rfl) (lyx_n hy 34 28 rfl) (by omega) (by omega) (fun I4550 eI4550 => ?_)
  have hI4550 : XI g n L I4550 := by rw [eI4550]; exact (xi_r hy hI (c := 34) (-1) (0) (2) (by decide) (Or.inl (by decide)) (by decide) (by omega) (by omega))
  have e4551 : I4550 (ad g 1) 1 = L := by rw [eI4550, pp_ne _ _ (Or.inl (lyx_ne hy (by decide) (by decide) (by decide)))]; exact e4534
  have e4552 : I4550 (ad g 4) 0 = w4536 := by rw [eI4550, pp_ne _ _ (Or.inl (lyx_ne hy (by decide) (by decide) (by decide)))]; exact ew4536
  have e4553 : I4550 (ad g 4) 1 = w4537 := by rw [eI4550, pp_ne _ _ (Or.inl (lyx_ne hy (by decide) (by decide) (by decide)))]; exact ew4537
  have e4554 : I4550 (ad g 4) 2 = w4538 := by rw [eI4550, pp_ne _ _ (Or.inl (lyx_ne hy (by decide) (by decide) (by decide)))]; exact ew4538
  have e4555 : I4550 (ad g 4) 3 = w4539 := by rw [eI4550, pp_ne _ _ (Or.inl (lyx_ne hy (by decide) (by decide) (by decide)))]; exact ew4539
  have e4556 : I4550 (ad g 4) 4 = w4540 := by rw [eI4550, pp_ne _ _ (Or.inl (lyx_ne hy (by decide) (by decide) (by decide)))]; exact ew4540
  clear eI4550
  refine WP_aload_n dX7_tellWant_20 rfl ?_
  refine WP_getr dX7_tellWant_21 fX7_33 rfl (lyx_is hy 27 7 rfl) (rfx hr 27 12 35 (by decide)) ?_
  refine WP_iload_n dX7_tellWant_24 rfl ?_
  refine WP_aload_n dX7_tellWant_25 rfl ?_
  refine WQ_iconst (3) (3) dX7_tellWant_26 rfl rfl (fun v4557 hv4557 => ?_)
  refine WQ_ialdm (z := 3) dX7_tellWant_27 (lyx_is hy 4 13 rfl) (lyx_n hy 4 5 rfl) hv4557 (by decide) e4555 ?_
  refine WQ_iast dX7_tellWant_28 (lyx_is hy 35 13 rfl) (lyx_n hy 35 28 rfl) (by omega) (by omega) (fun I4559 eI4559 => ?_)
  have hI4559 : XI g n L I4559 := by rw [eI4559]; exact (xi_r hy hI4550 (c := 35) (0) (0) (3) (by decide) (Or.inl (by decide)) (by decide) (by omega) (by omega))
  have e4560 : I4559 (ad g 1) 1 = L := by rw [eI4559, pp_ne _ _ (Or.inl (lyx_ne hy (by decide) (by decide) (by decide)))]; exact e4551
  have e4561 : I4559 (ad g 4) 0 = w4536 := by rw [eI4559, pp_ne _ _ (Or.inl (lyx_ne hy (by decide) (by decide) (by decide)))]; exact e4552
  have e4562 : I4559 (ad g 4) 1 = w4537 := by rw [eI4559, pp_ne _ _ (Or.inl (lyx_ne hy (by decide) (by decide) (by decide)))]; exact e4553
  have e4563 : I4559 (ad g 4) 2 = w4538 := by rw [eI4559, pp_ne _ _ (Or.inl (lyx_ne hy (by decide) (by decide) (by decide)))]; exact e4554
  have e4564 : I4559 (ad g 4) 3 = w4539 := by rw [eI4559, pp_ne _ _ (Or.inl (lyx_ne hy (by decide) (by decide) (by decide)))]; exact e4555
  have e4565 : I4559 (ad g 4) 4 = w4540 := by rw [eI4559, pp_ne _ _ (Or.inl (lyx_ne hy (by decide) (by decide) (by decide)))]; exact e4556
  clear eI4559
  refine WP_aload_n dX7_tellWant_29 rfl ?_
  refine WP_getr dX7_tellWant_30 fX7_36 rfl (lyx_is hy 27 7 rfl) (rfx hr 27 13 36 (by decide)) ?_
  refine WP_iload_n dX7_tellWant_33 rfl ?_
  refine WP_aload_n dX7_tellWant_34 rfl ?_
  refine WQ_iconst (4) (4) dX7_tellWant_35 rfl rfl (fun v4566 hv4566 => ?_)
  refine WQ_ialdm (z := 4) dX7_tellWant_36 (lyx_is hy 4 13 rfl) (lyx_n hy 4 5 rfl) hv4566 (by decide) e4565 ?_
  refine WQ_iast dX7_tellWant_37 (lyx_is hy 36 13 rfl) (lyx_n hy 36 28 rfl) (by omega) (by omega) (fun I4568 eI4568 => ?_)
  have hI4568 : XI g n L I4568 := by rw [eI4568]; exact (xi_r hy hI4559 (c := 36) (0) (0) (99) (by decide) (Or.inl (by decide)) (by decide) (by omega) (by omega))
  have e4569 : I4568 (ad g 1) 1 = L := by rw [eI4568, pp_ne _ _ (Or.inl (lyx_ne hy (by decide) (by decide) (by decide)))]; exact e4560
  have e4570 : I4568 (ad g 4) 0 = w4536 := by rw [eI4568, pp_ne _ _ (Or.inl (lyx_ne hy (by decide) (by decide) (by decide)))]; exact e4561
  have e4571 : I4568 (ad g 4) 1 = w4537 := by rw [eI4568, pp_ne _ _ (Or.inl (lyx_ne hy (by decide) (by decide) (by decide)))]; exact e4562
  have e4572 : I4568 (ad g 4) 2 = w4538 := by rw [eI4568, pp_ne _ _ (Or.inl (lyx_ne hy (by decide) (by decide) (by decide)))]; exact e4563
  have e4573 : I4568 (ad g 4) 3 = w4539 := by rw [eI4568, pp_ne _ _ (Or.inl (lyx_ne hy (by decide) (by decide) (by decide)))]; exact e4564
  have e4574 : I4568 (ad g 4) 4 = w4540 := by rw [eI4568, pp_ne _ _ (Or.inl (lyx_ne hy (by decide) (by decide) (by decide)))]; exact e4565
  clear eI4568
  refine WP_aload_n dX7_tellWant_38 rfl ?_
  refine WQ_bipush (6) (6) dX7_tellWant_39 rfl rfl (fun v4575 hv4575 => ?_)
  refine WP_aload_n dX7_tellWant_41 rfl ?_
  refine WQ_iconst (0) (0) dX7_tellWant_42 rfl rfl (fun v4576 hv4576 => ?_)
  refine WQ_ialdm (z := 0) dX7_tellWant_43 (lyx_is hy 4 13 rfl) (lyx_n hy 4 5 rfl) hv4576 (by decide) e4570 ?_
  refine WP_aload_n dX7_tellWant_44 rfl ?_
  refine WQ_iconst (2) (2) dX7_tellWant_45 rfl rfl (fun v4578 hv4578 => ?_)
  refine WQ_ialdm (z := 2) dX7_tellWant_46 (lyx_is hy 4 13 rfl) (lyx_n hy 4 5 rfl) hv4578 (by decide) e4572 ?_
  refine WP_callV3 (k := 7) dX7_tellWant_47 ⟨⟨⟨by decide, by decide⟩, zX7_hold⟩, lX7_109, by decide, rfl, vX7_hold.1, vX7_hold.2⟩ (lyx_is hy 27 7 rfl) (sx_hold_27 hy hr hI4568 v4575 w4536 w4538 (by omega) (by omega) (by omega) (by omega) ) (Nat.le_of_ble_eq_true rfl) ?_
  intro r I4580 J4581 Ra hq
  obtain ⟨⟨hI4580, ec⟩, rfl⟩ := hq
  rw [ec]
  clear ec Ra
  have e4582 : I4580 (ad g 1) 1 = L := hI4580.2
  have b4583 := BT_get hI4580.1 1 1 2 (0) (0) (900) (by decide) 1 (by decide) (by decide)
  rw [e4582] at b4583
  exact WP_vret dX7_tellWant_50 rfl ⟨⟨hI4580, rfl, trivial⟩, rfl⟩
set_option maxHeartbeats 4000000 in
set_option maxRecDepth 100000 in
theorem sx_tellOn_27_3 {g : GG} {n : Int} {L : Int32} (hy : LyX g)  {I : pI} {J : pJ} {R : pR} (hr : RfX g R) (hI : XI g n L I) (cl : Int32) (cl_lo : 3 ≤ cl.toInt) (cl_hi : cl.toInt ≤ 3) (hb : (I (ad g 4) 0).toInt ≤ 3 ∧ (I (ad g 4) 1).toInt ≤ 6 ∧ (I (ad g 4) 2).toInt ≤ 20) : SP g mX7_tellOn [.ref (ad g 27), .ref (ad g 33), .int cl, .ref (ad g 4)] I J R (fun r I' J' R' => (XI g n L I' ∧ R' = R ∧ True) ∧ r = none) := by
  refine SP_of ⟨by decide, rfl⟩ (Nat.le_of_ble_eq_true rfl) ?_
  have e4584 : I (ad g 1) 1 = L := hI.2
  have b4585 := BT_get hI.1 1 1 2 (0) (0) (900) (by decide) 1 (by decide) (by decide)
  rw [e4584] at b4585
  obtain ⟨w4586, ew4586⟩ : ∃ w : Int32, I (ad g 4) 0 = w := ⟨_, rfl⟩
  have bw4586 := BT_get hI.1 4 0 5 (0) (0) (1000) (by decide) 0 (by decide) (by decide)
  rw [ew4586] at bw4586
  obtain ⟨w4587, ew4587⟩ : ∃ w : Int32, I (ad g 4) 1 = w := ⟨_, rfl⟩
  have bw4587 := BT_get hI.1 4 0 5 (0) (0) (1000) (by decide) 1 (by decide) (by decide)
  rw [ew4587] at bw4587
  obtain ⟨w4588, ew4588⟩ : ∃ w : Int32, I (ad g 4) 2 = w := ⟨_, rfl⟩
  have bw4588 := BT_get hI.1 4 0 5 (0) (0) (1000) (by decide) 2 (by decide) (by decide)
  rw [ew4588] at bw4588
  rw [ew4586, ew4587, ew4588] at hb
  refine WP_aload_n dX7_tellOn_0 rfl ?_
  refine WP_aload_n dX7_tellOn_1 rfl ?_
  refine WQ_iconst (0) (0) dX7_tellOn_2 rfl rfl (fun v4589 hv4589 => ?_)
  refine WQ_ialdm (z := 0) dX7_tellOn_3 (lyx_is hy 4 13 rfl) (lyx_n hy 4 5 rfl) hv4589 (by decide) ew4586 ?_
  refine WQ_bipush (7) (7) dX7_tellOn_4 rfl rfl (fun v4591 hv4591 => ?_)
  refine WQ_imulk (7) dX7_tellOn_6 hv4591 (by omega) (by omega) (fun v4592 hv4592 => ?_)
  refine WP_aload_n dX7_tellOn_7 rfl ?_
  refine WQ_iconst (1) (1) dX7_tellOn_8 rfl rfl (fun v4593 hv4593 => ?_)
  refine WQ_ialdm (z := 1) dX7_tellOn_9 (lyx_is hy 4 13 rfl) (lyx_n hy 4 5 rfl) hv4593 (by decide) ew4587 ?_
  refine WQ_iadd dX7_tellOn_10 (by omega) (by omega) (fun v4595 hv4595 => ?_)
  refine WP_aload_n dX7_tellOn_11 rfl ?_
  refine WQ_iconst (2) (2) dX7_tellOn_12 rfl rfl (fun v4596 hv4596 => ?_)
  refine WQ_ialdm (z := 2) dX7_tellOn_13 (lyx_is hy 4 13 rfl) (lyx_n hy 4 5 rfl) hv4596 (by decide) ew4588 ?_
  refine WQ_iast dX7_tellOn_14 (lyx_is hy 33 13 rfl) (lyx_n hy 33 28 rfl) (by omega) (by omega) (fun I4598 eI4598 => ?_)
  have hI4598 : XI g n L I4598 := by rw [eI4598]; exact (xi_r hy hI (c := 33) (0) (0) (20) (by decide) (Or.inl (by decide)) (by decide) (by omega) (by omega))
  have e4599 : I4598 (ad g 1) 1 = L := by rw [eI4598, pp_ne _ _ (Or.inl (lyx_ne hy (by decide) (by decide) (by decide)))]; exact e4584
  have e4600 : I4598 (ad g 4) 0 = w4586 := by rw [eI4598, pp_ne _ _ (Or.inl (lyx_ne hy (by decide) (by decide) (by decide)))]; exact ew4586
  have e4601 : I4598 (ad g 4) 1 = w4587 := by rw [eI4598, pp_ne _ _ (Or.inl (lyx_ne hy (by decide) (by decide) (by decide)))]; exact ew4587
  have e4602 : I4598 (ad g 4) 2 = w4588 := by rw [eI4598, pp_ne _ _ (Or.inl (lyx_ne hy (by decide) (by decide) (by decide)))]; exact ew4588
  clear eI4598
  refine WP_aload_n dX7_tellOn_15 rfl ?_
  refine WP_iload_n dX7_tellOn_16 rfl ?_
  refine WP_aload_n dX7_tellOn_17 rfl ?_
  refine WQ_iconst (0) (0) dX7_tellOn_18 rfl rfl (fun v4603 hv4603 => ?_)
  refine WQ_ialdm (z := 0) dX7_tellOn_19 (lyx_is hy 4 13 rfl) (lyx_n hy 4 5 rfl) hv4603 (by decide) e4600 ?_
  refine WP_aload_n dX7_tellOn_20 rfl ?_
  refine WQ_iconst (1) (1) dX7_tellOn_21 rfl rfl (fun v4605 hv4605 => ?_)
  refine WQ_ialdm (z := 1) dX7_tellOn_22 (lyx_is hy 4 13 rfl) (lyx_n hy 4 5 rfl) hv4605 (by decide) e4601 ?_
  refine WP_callV3 (k := 7) dX7_tellOn_23 ⟨⟨⟨by decide, by decide⟩, zX7_hold⟩, lX7_109, by decide, rfl, vX7_hold.1, vX7_hold.2⟩ (lyx_is hy 27 7 rfl) (sx_hold_27 hy hr hI4598 cl w4586 w4587 (by omega) (by omega) (by omega) (by omega) ) (Nat.le_of_ble_eq_true rfl) ?_
  intro r I4607 J4608 Ra hq
  obtain ⟨⟨hI4607, ec⟩, rfl⟩ := hq
  rw [ec]
  clear ec Ra
  have e4609 : I4607 (ad g 1) 1 = L := hI4607.2
  have b4610 := BT_get hI4607.1 1 1 2 (0) (0) (900) (by decide) 1 (by decide) (by decide)
  rw [e4609] at b4610
  exact WP_vret dX7_tellOn_26 rfl ⟨⟨hI4607, rfl, trivial⟩, rfl⟩
set_option maxHeartbeats 4000000 in
set_option maxRecDepth 100000 in
theorem sx_tellOn_27_4 {g : GG} {n : Int} {L : Int32} (hy : LyX g)  {I : pI} {J : pJ} {R : pR} (hr : RfX g R) (hI : XI g n L I) (cl : Int32) (cl_lo : 4 ≤ cl.toInt) (cl_hi : cl.toInt ≤ 4) (hb : (I (ad g 4) 0).toInt ≤ 2 ∧ (I (ad g 4) 1).toInt ≤ 6 ∧ (I (ad g 4) 2).toInt ≤ 20) : SP g mX7_tellOn [.ref (ad g 27), .ref (ad g 39), .int cl, .ref (ad g 4)] I J R (fun r I' J' R' => (XI g n L I' ∧ R' = R ∧ True) ∧ r = none) := by
  refine SP_of ⟨by decide, rfl⟩ (Nat.le_of_ble_eq_true rfl) ?_
  have e4611 : I (ad g 1) 1 = L := hI.2
  have b4612 := BT_get hI.1 1 1 2 (0) (0) (900) (by decide) 1 (by decide) (by decide)
  rw [e4611] at b4612
  obtain ⟨w4613, ew4613⟩ : ∃ w : Int32, I (ad g 4) 0 = w := ⟨_, rfl⟩
  have bw4613 := BT_get hI.1 4 0 5 (0) (0) (1000) (by decide) 0 (by decide) (by decide)
  rw [ew4613] at bw4613
  obtain ⟨w4614, ew4614⟩ : ∃ w : Int32, I (ad g 4) 1 = w := ⟨_, rfl⟩
  have bw4614 := BT_get hI.1 4 0 5 (0) (0) (1000) (by decide) 1 (by decide) (by decide)
  rw [ew4614] at bw4614
  obtain ⟨w4615, ew4615⟩ : ∃ w : Int32, I (ad g 4) 2 = w := ⟨_, rfl⟩
  have bw4615 := BT_get hI.1 4 0 5 (0) (0) (1000) (by decide) 2 (by decide) (by decide)
  rw [ew4615] at bw4615
  rw [ew4613, ew4614, ew4615] at hb
  refine WP_aload_n dX7_tellOn_0 rfl ?_
  refine WP_aload_n dX7_tellOn_1 rfl ?_
  refine WQ_iconst (0) (0) dX7_tellOn_2 rfl rfl (fun v4616 hv4616 => ?_)
  refine WQ_ialdm (z := 0) dX7_tellOn_3 (lyx_is hy 4 13 rfl) (lyx_n hy 4 5 rfl) hv4616 (by decide) ew4613 ?_
  refine WQ_bipush (7) (7) dX7_tellOn_4 rfl rfl (fun v4618 hv4618 => ?_)
  refine WQ_imulk (7) dX7_tellOn_6 hv4618 (by omega) (by omega) (fun v4619 hv4619 => ?_)
  refine WP_aload_n dX7_tellOn_7 rfl ?_
  refine WQ_iconst (1) (1) dX7_tellOn_8 rfl rfl (fun v4620 hv4620 => ?_)
  refine WQ_ialdm (z := 1) dX7_tellOn_9 (lyx_is hy 4 13 rfl) (lyx_n hy 4 5 rfl) hv4620 (by decide) ew4614 ?_
  refine WQ_iadd dX7_tellOn_10 (by omega) (by omega) (fun v4622 hv4622 => ?_)
  refine WP_aload_n dX7_tellOn_11 rfl ?_
  refine WQ_iconst (2) (2) dX7_tellOn_12 rfl rfl (fun v4623 hv4623 => ?_)
  refine WQ_ialdm (z := 2) dX7_tellOn_13 (lyx_is hy 4 13 rfl) (lyx_n hy 4 5 rfl) hv4623 (by decide) ew4615 ?_
  refine WQ_iast dX7_tellOn_14 (lyx_is hy 39 13 rfl) (lyx_n hy 39 21 rfl) (by omega) (by omega) (fun I4625 eI4625 => ?_)
  have hI4625 : XI g n L I4625 := by rw [eI4625]; exact (xi_r hy hI (c := 39) (0) (0) (20) (by decide) (Or.inl (by decide)) (by decide) (by omega) (by omega))
  have e4626 : I4625 (ad g 1) 1 = L := by rw [eI4625, pp_ne _ _ (Or.inl (lyx_ne hy (by decide) (by decide) (by decide)))]; exact e4611
  have e4627 : I4625 (ad g 4) 0 = w4613 := by rw [eI4625, pp_ne _ _ (Or.inl (lyx_ne hy (by decide) (by decide) (by decide)))]; exact ew4613
  have e4628 : I4625 (ad g 4) 1 = w4614 := by rw [eI4625, pp_ne _ _ (Or.inl (lyx_ne hy (by decide) (by decide) (by decide)))]; exact ew4614
  have e4629 : I4625 (ad g 4) 2 = w4615 := by rw [eI4625, pp_ne _ _ (Or.inl (lyx_ne hy (by decide) (by decide) (by decide)))]; exact ew4615
  clear eI4625
  refine WP_aload_n dX7_tellOn_15 rfl ?_
  refine WP_iload_n dX7_tellOn_16 rfl ?_
  refine WP_aload_n dX7_tellOn_17 rfl ?_
  refine WQ_iconst (0) (0) dX7_tellOn_18 rfl rfl (fun v4630 hv4630 => ?_)
  refine WQ_ialdm (z := 0) dX7_tellOn_19 (lyx_is hy 4 13 rfl) (lyx_n hy 4 5 rfl) hv4630 (by decide) e4627 ?_
  refine WP_aload_n dX7_tellOn_20 rfl ?_
  refine WQ_iconst (1) (1) dX7_tellOn_21 rfl rfl (fun v4632 hv4632 => ?_)
  refine WQ_ialdm (z := 1) dX7_tellOn_22 (lyx_is hy 4 13 rfl) (lyx_n hy 4 5 rfl) hv4632 (by decide) e4628 ?_
  refine WP_callV3 (k := 7) dX7_tellOn_23 ⟨⟨⟨by decide, by decide⟩, zX7_hold⟩, lX7_109, by decide, rfl, vX7_hold.1, vX7_hold.2⟩ (lyx_is hy 27 7 rfl) (sx_hold_27 hy hr hI4625 cl w4613 w4614 (by omega) (by omega) (by omega) (by omega) ) (Nat.le_of_ble_eq_true rfl) ?_
  intro r I4634 J4635 Ra hq
  obtain ⟨⟨hI4634, ec⟩, rfl⟩ := hq
  rw [ec]
  clear ec Ra
  have e4636 : I4634 (ad g 1) 1 = L := hI4634.2
  have b4637 := BT_get hI4634.1 1 1 2 (0) (0) (900) (by decide) 1 (by decide) (by decide)
  rw [e4636] at b4637
  exact WP_vret dX7_tellOn_26 rfl ⟨⟨hI4634, rfl, trivial⟩, rfl⟩
set_option maxHeartbeats 4000000 in
set_option maxRecDepth 100000 in
theorem sx_tellOn_27_5 {g : GG} {n : Int} {L : Int32} (hy : LyX g)  {I : pI} {J : pJ} {R : pR} (hr : RfX g R) (hI : XI g n L I) (cl : Int32) (cl_lo : 5 ≤ cl.toInt) (cl_hi : cl.toInt ≤ 5) (hb : (I (ad g 4) 0).toInt ≤ 2 ∧ (I (ad g 4) 1).toInt ≤ 6 ∧ (I (ad g 4) 2).toInt ≤ 999) : SP g mX7_tellOn [.ref (ad g 27), .ref (ad g 40), .int cl, .ref (ad g 4)] I J R (fun r I' J' R' => (XI g n L I' ∧ R' = R ∧ True) ∧ r = none) := by
  refine SP_of ⟨by decide, rfl⟩ (Nat.le_of_ble_eq_true rfl) ?_
  have e4638 : I (ad g 1) 1 = L := hI.2
  have b4639 := BT_get hI.1 1 1 2 (0) (0) (900) (by decide) 1 (by decide) (by decide)
  rw [e4638] at b4639
  obtain ⟨w4640, ew4640⟩ : ∃ w : Int32, I (ad g 4) 0 = w := ⟨_, rfl⟩
  have bw4640 := BT_get hI.1 4 0 5 (0) (0) (1000) (by decide) 0 (by decide) (by decide)
  rw [ew4640] at bw4640
  obtain ⟨w4641, ew4641⟩ : ∃ w : Int32, I (ad g 4) 1 = w := ⟨_, rfl⟩
  have bw4641 := BT_get hI.1 4 0 5 (0) (0) (1000) (by decide) 1 (by decide) (by decide)
  rw [ew4641] at bw4641
  obtain ⟨w4642, ew4642⟩ : ∃ w : Int32, I (ad g 4) 2 = w := ⟨_, rfl⟩
  have bw4642 := BT_get hI.1 4 0 5 (0) (0) (1000) (by decide) 2 (by decide) (by decide)
  rw [ew4642] at bw4642
  rw [ew4640, ew4641, ew4642] at hb
  refine WP_aload_n dX7_tellOn_0 rfl ?_
  refine WP_aload_n dX7_tellOn_1 rfl ?_
  refine WQ_iconst (0) (0) dX7_tellOn_2 rfl rfl (fun v4643 hv4643 => ?_)
  refine WQ_ialdm (z := 0) dX7_tellOn_3 (lyx_is hy 4 13 rfl) (lyx_n hy 4 5 rfl) hv4643 (by decide) ew4640 ?_
  refine WQ_bipush (7) (7) dX7_tellOn_4 rfl rfl (fun v4645 hv4645 => ?_)
  refine WQ_imulk (7) dX7_tellOn_6 hv4645 (by omega) (by omega) (fun v4646 hv4646 => ?_)
  refine WP_aload_n dX7_tellOn_7 rfl ?_
  refine WQ_iconst (1) (1) dX7_tellOn_8 rfl rfl (fun v4647 hv4647 => ?_)
  refine WQ_ialdm (z := 1) dX7_tellOn_9 (lyx_is hy 4 13 rfl) (lyx_n hy 4 5 rfl) hv4647 (by decide) ew4641 ?_
  refine WQ_iadd dX7_tellOn_10 (by omega) (by omega) (fun v4649 hv4649 => ?_)
  refine WP_aload_n dX7_tellOn_11 rfl ?_
  refine WQ_iconst (2) (2) dX7_tellOn_12 rfl rfl (fun v4650 hv4650 => ?_)
  refine WQ_ialdm (z := 2) dX7_tellOn_13 (lyx_is hy 4 13 rfl) (lyx_n hy 4 5 rfl) hv4650 (by decide) ew4642 ?_
  refine WQ_iast dX7_tellOn_14 (lyx_is hy 40 13 rfl) (lyx_n hy 40 21 rfl) (by omega) (by omega) (fun I4652 eI4652 => ?_)
  have hI4652 : XI g n L I4652 := by rw [eI4652]; exact (xi_r hy hI (c := 40) (-1) (0) (999) (by decide) (Or.inl (by decide)) (by decide) (by omega) (by omega))
  have e4653 : I4652 (ad g 1) 1 = L := by rw [eI4652, pp_ne _ _ (Or.inl (lyx_ne hy (by decide) (by decide) (by decide)))]; exact e4638
  have e4654 : I4652 (ad g 4) 0 = w4640 := by rw [eI4652, pp_ne _ _ (Or.inl (lyx_ne hy (by decide) (by decide) (by decide)))]; exact ew4640
  have e4655 : I4652 (ad g 4) 1 = w4641 := by rw [eI4652, pp_ne _ _ (Or.inl (lyx_ne hy (by decide) (by decide) (by decide)))]; exact ew4641
  have e4656 : I4652 (ad g 4) 2 = w4642 := by rw [eI4652, pp_ne _ _ (Or.inl (lyx_ne hy (by decide) (by decide) (by decide)))]; exact ew4642
  clear eI4652
  refine WP_aload_n dX7_tellOn_15 rfl ?_
  refine WP_iload_n dX7_tellOn_16 rfl ?_
  refine WP_aload_n dX7_tellOn_17 rfl ?_
  refine WQ_iconst (0) (0) dX7_tellOn_18 rfl rfl (fun v4657 hv4657 => ?_)
  refine WQ_ialdm (z := 0) dX7_tellOn_19 (lyx_is hy 4 13 rfl) (lyx_n hy 4 5 rfl) hv4657 (by decide) e4654 ?_
  refine WP_aload_n dX7_tellOn_20 rfl ?_
  refine WQ_iconst (1) (1) dX7_tellOn_21 rfl rfl (fun v4659 hv4659 => ?_)
  refine WQ_ialdm (z := 1) dX7_tellOn_22 (lyx_is hy 4 13 rfl) (lyx_n hy 4 5 rfl) hv4659 (by decide) e4655 ?_
  refine WP_callV3 (k := 7) dX7_tellOn_23 ⟨⟨⟨by decide, by decide⟩, zX7_hold⟩, lX7_109, by decide, rfl, vX7_hold.1, vX7_hold.2⟩ (lyx_is hy 27 7 rfl) (sx_hold_27 hy hr hI4652 cl w4640 w4641 (by omega) (by omega) (by omega) (by omega) ) (Nat.le_of_ble_eq_true rfl) ?_
  intro r I4661 J4662 Ra hq
  obtain ⟨⟨hI4661, ec⟩, rfl⟩ := hq
  rw [ec]
  clear ec Ra
  have e4663 : I4661 (ad g 1) 1 = L := hI4661.2
  have b4664 := BT_get hI4661.1 1 1 2 (0) (0) (900) (by decide) 1 (by decide) (by decide)
  rw [e4663] at b4664
  exact WP_vret dX7_tellOn_26 rfl ⟨⟨hI4661, rfl, trivial⟩, rfl⟩
set_option maxHeartbeats 4000000 in
set_option maxRecDepth 100000 in
theorem sx_tell_27_0 {g : GG} {n : Int} {L : Int32} (hy : LyX g)  {I : pI} {J : pJ} {R : pR} (hr : RfX g R) (hI : XI g n L I) (cl : Int32) (cl_lo : 0 ≤ cl.toInt) (cl_hi : cl.toInt ≤ 0) (hb : (I (ad g 4) 0).toInt ≤ 6 ∧ (I (ad g 4) 1).toInt ≤ 900) : SP g mX7_tell [.ref (ad g 27), .int cl, .ref (ad g 4)] I J R (fun r I' J' R' => (XI g n L I' ∧ R' = R ∧ True) ∧ r = none) := by
  refine SP_of ⟨by decide, rfl⟩ (Nat.le_of_ble_eq_true rfl) ?_
  have e4665 : I (ad g 1) 1 = L := hI.2
  have b4666 := BT_get hI.1 1 1 2 (0) (0) (900) (by decide) 1 (by decide) (by decide)
  rw [e4665] at b4666
  obtain ⟨w4667, ew4667⟩ : ∃ w : Int32, I (ad g 4) 0 = w := ⟨_, rfl⟩
  have bw4667 := BT_get hI.1 4 0 5 (0) (0) (1000) (by decide) 0 (by decide) (by decide)
  rw [ew4667] at bw4667
  obtain ⟨w4668, ew4668⟩ : ∃ w : Int32, I (ad g 4) 1 = w := ⟨_, rfl⟩
  have bw4668 := BT_get hI.1 4 0 5 (0) (0) (1000) (by decide) 1 (by decide) (by decide)
  rw [ew4668] at bw4668
  rw [ew4667, ew4668] at hb
  refine WP_aload_n dX7_tell_0 rfl ?_
  refine WP_dup dX7_tell_1 rfl ?_
  refine WQ_getiu dX7_tell_2 fX7_61 rfl (lyx_is hy 27 7 rfl) (fun v4669 ev4669 => ?_)
  refine WQ_iconst (1) (1) dX7_tell_5 rfl rfl (fun v4670 hv4670 => ?_)
  refine WQ_iaddu dX7_tell_6 (fun v4671 => ?_)
  refine WQ_puti dX7_tell_7 fX7_61 rfl rfl (lyx_is hy 27 7 rfl) (fun I4672 eI4672 => ?_)
  have hI4672 : XI g n L I4672 := by rw [eI4672]; exact (xi_f0 hy hI (c := 27) (by decide) (Or.inl (by decide)) (by decide))
  have e4673 : I4672 (ad g 1) 1 = L := by rw [eI4672, pp_ne _ _ (Or.inl (lyx_ne hy (by decide) (by decide) (by decide)))]; exact e4665
  have e4674 : I4672 (ad g 4) 0 = w4667 := by rw [eI4672, pp_ne _ _ (Or.inl (lyx_ne hy (by decide) (by decide) (by decide)))]; exact ew4667
  have e4675 : I4672 (ad g 4) 1 = w4668 := by rw [eI4672, pp_ne _ _ (Or.inl (lyx_ne hy (by decide) (by decide) (by decide)))]; exact ew4668
  have e4676 : I4672 (ad g 27) 0 = v4671 := by rw [eI4672, pp_self]
  clear eI4672
  refine WP_iload_n dX7_tell_10 rfl ?_
  refine WP_tab 178 dX7_tell_11 rfl rfl (fun c4676 => ?_) (fun j off c4676 hj => ?_) (by decide)
  · exact False.elim (by omega)
  · have hlt : j < 9 := by have := (Array.getElem?_eq_some_iff.mp hj).1; simpa using this
    have hcs : (j = 0 ∧ off = 49) ∨ (j = 1 ∧ off = 62) ∨ (j = 2 ∧ off = 70) ∨ (j = 3 ∧ off = 78) ∨ (j = 4 ∧ off = 91) ∨ (j = 5 ∧ off = 104) ∨ (j = 6 ∧ off = 117) ∨ (j = 7 ∧ off = 125) ∨ (j = 8 ∧ off = 149) := by
      match j, hlt, hj with
      | 0, _, hj => exact Or.inl ⟨rfl, (Option.some.inj hj).symm⟩
      | 1, _, hj => exact Or.inr (Or.inl ⟨rfl, (Option.some.inj hj).symm⟩)
      | 2, _, hj => exact Or.inr (Or.inr (Or.inl ⟨rfl, (Option.some.inj hj).symm⟩))
      | 3, _, hj => exact Or.inr (Or.inr (Or.inr (Or.inl ⟨rfl, (Option.some.inj hj).symm⟩)))
      | 4, _, hj => exact Or.inr (Or.inr (Or.inr (Or.inr (Or.inl ⟨rfl, (Option.some.inj hj).symm⟩))))
      | 5, _, hj => exact Or.inr (Or.inr (Or.inr (Or.inr (Or.inr (Or.inl ⟨rfl, (Option.some.inj hj).symm⟩)))))
      | 6, _, hj => exact Or.inr (Or.inr (Or.inr (Or.inr (Or.inr (Or.inr (Or.inl ⟨rfl, (Option.some.inj hj).symm⟩))))))
      | 7, _, hj => exact Or.inr (Or.inr (Or.inr (Or.inr (Or.inr (Or.inr (Or.inr (Or.inl ⟨rfl, (Option.some.inj hj).symm⟩)))))))
      | 8, _, hj => exact Or.inr (Or.inr (Or.inr (Or.inr (Or.inr (Or.inr (Or.inr (Or.inr (⟨rfl, (Option.some.inj hj).symm⟩))))))))
    clear hj hlt
    rcases hcs with ⟨rfl, rfl⟩ | ⟨rfl, rfl⟩ | ⟨rfl, rfl⟩ | ⟨rfl, rfl⟩ | ⟨rfl, rfl⟩ | ⟨rfl, rfl⟩ | ⟨rfl, rfl⟩ | ⟨rfl, rfl⟩ | ⟨rfl, rfl⟩
    · show WP _ _ 60 _ _ _ _ _ _
      refine WP_aload_n dX7_tell_60 rfl ?_
      refine WP_aload_n dX7_tell_61 rfl ?_
      refine WQ_iconst (0) (0) dX7_tell_62 rfl rfl (fun v4678 hv4678 => ?_)
      refine WQ_ialdm (z := 0) dX7_tell_63 (lyx_is hy 4 13 rfl) (lyx_n hy 4 5 rfl) hv4678 (by decide) e4674 ?_
      refine WP_aload_n dX7_tell_64 rfl ?_
      refine WQ_iconst (1) (1) dX7_tell_65 rfl rfl (fun v4680 hv4680 => ?_)
      refine WQ_ialdm (z := 1) dX7_tell_66 (lyx_is hy 4 13 rfl) (lyx_n hy 4 5 rfl) hv4680 (by decide) e4675 ?_
      refine WP_callV2 (k := 7) dX7_tell_67 ⟨⟨⟨by decide, by decide⟩, zX7_tellLoss⟩, lX7_91, by decide, rfl, vX7_tellLoss.1, vX7_tellLoss.2⟩ (lyx_is hy 27 7 rfl) (sx_tellLoss_27 hy hr hI4672 w4667 w4668 (by omega) (by omega) (by omega) (by omega)) (Nat.le_of_ble_eq_true rfl) ?_
      intro r I4682 J4683 Ra hq
      obtain ⟨⟨hI4682, ec⟩, rfl⟩ := hq
      rw [ec]
      clear ec Ra
      have e4684 : I4682 (ad g 1) 1 = L := hI4682.2
      have b4685 := BT_get hI4682.1 1 1 2 (0) (0) (900) (by decide) 1 (by decide) (by decide)
      rw [e4684] at b4685
      refine WP_goto 193 dX7_tell_70 rfl ?_
      exact WP_vret dX7_tell_193 rfl ⟨⟨hI4682, rfl, trivial⟩, rfl⟩
    · exact False.elim (by omega)
    · exact False.elim (by omega)
    · exact False.elim (by omega)
    · exact False.elim (by omega)
    · exact False.elim (by omega)
    · exact False.elim (by omega)
    · exact False.elim (by omega)
    · exact False.elim (by omega)
set_option maxHeartbeats 4000000 in
set_option maxRecDepth 100000 in
theorem sx_tell_27_1 {g : GG} {n : Int} {L : Int32} (hy : LyX g)  {I : pI} {J : pJ} {R : pR} (hr : RfX g R) (hI : XI g n L I) (cl : Int32) (cl_lo : 1 ≤ cl.toInt) (cl_hi : cl.toInt ≤ 1) (hb : (I (ad g 4) 1).toInt ≤ 99 ∧ (I (ad g 4) 2).toInt ≤ 1000 ∧ (I (ad g 4) 3).toInt ≤ 60 ∧ (I (ad g 27) 1).toInt ≤ 3) : SP g mX7_tell [.ref (ad g 27), .int cl, .ref (ad g 4)] I J R (fun r I' J' R' => (XI g n L I' ∧ R' = R ∧ True) ∧ r = none) := by
  refine SP_of ⟨by decide, rfl⟩ (Nat.le_of_ble_eq_true rfl) ?_
  have e4686 : I (ad g 1) 1 = L := hI.2
  have b4687 := BT_get hI.1 1 1 2 (0) (0) (900) (by decide) 1 (by decide) (by decide)
  rw [e4686] at b4687
  obtain ⟨w4688, ew4688⟩ : ∃ w : Int32, I (ad g 4) 1 = w := ⟨_, rfl⟩
  have bw4688 := BT_get hI.1 4 0 5 (0) (0) (1000) (by decide) 1 (by decide) (by decide)
  rw [ew4688] at bw4688
  obtain ⟨w4689, ew4689⟩ : ∃ w : Int32, I (ad g 4) 2 = w := ⟨_, rfl⟩
  have bw4689 := BT_get hI.1 4 0 5 (0) (0) (1000) (by decide) 2 (by decide) (by decide)
  rw [ew4689] at bw4689
  obtain ⟨w4690, ew4690⟩ : ∃ w : Int32, I (ad g 4) 3 = w := ⟨_, rfl⟩
  have bw4690 := BT_get hI.1 4 0 5 (0) (0) (1000) (by decide) 3 (by decide) (by decide)
  rw [ew4690] at bw4690
  obtain ⟨w4691, ew4691⟩ : ∃ w : Int32, I (ad g 27) 1 = w := ⟨_, rfl⟩
  have bw4691 := BT_get hI.1 27 1 2 (0) (0) (4) (by decide) 1 (by decide) (by decide)
  rw [ew4691] at bw4691
  rw [ew4688, ew4689, ew4690, ew4691] at hb
  refine WP_aload_n dX7_tell_0 rfl ?_
  refine WP_dup dX7_tell_1 rfl ?_
  refine WQ_getiu dX7_tell_2 fX7_61 rfl (lyx_is hy 27 7 rfl) (fun v4692 ev4692 => ?_)
  refine WQ_iconst (1) (1) dX7_tell_5 rfl rfl (fun v4693 hv4693 => ?_)
  refine WQ_iaddu dX7_tell_6 (fun v4694 => ?_)
  refine WQ_puti dX7_tell_7 fX7_61 rfl rfl (lyx_is hy 27 7 rfl) (fun I4695 eI4695 => ?_)
  have hI4695 : XI g n L I4695 := by rw [eI4695]; exact (xi_f0 hy hI (c := 27) (by decide) (Or.inl (by decide)) (by decide))
  have e4696 : I4695 (ad g 1) 1 = L := by rw [eI4695, pp_ne _ _ (Or.inl (lyx_ne hy (by decide) (by decide) (by decide)))]; exact e4686
  have e4697 : I4695 (ad g 4) 1 = w4688 := by rw [eI4695, pp_ne _ _ (Or.inl (lyx_ne hy (by decide) (by decide) (by decide)))]; exact ew4688
  have e4698 : I4695 (ad g 4) 2 = w4689 := by rw [eI4695, pp_ne _ _ (Or.inl (lyx_ne hy (by decide) (by decide) (by decide)))]; exact ew4689
  have e4699 : I4695 (ad g 4) 3 = w4690 := by rw [eI4695, pp_ne _ _ (Or.inl (lyx_ne hy (by decide) (by decide) (by decide)))]; exact ew4690
  have e4700 : I4695 (ad g 27) 1 = w4691 := by rw [eI4695, pp_ne _ _ (Or.inr (by decide))]; exact ew4691
  have e4701 : I4695 (ad g 27) 0 = v4694 := by rw [eI4695, pp_self]
  clear eI4695
  refine WP_iload_n dX7_tell_10 rfl ?_
  refine WP_tab 178 dX7_tell_11 rfl rfl (fun c4701 => ?_) (fun j off c4701 hj => ?_) (by decide)
  · exact False.elim (by omega)
  · have hlt : j < 9 := by have := (Array.getElem?_eq_some_iff.mp hj).1; simpa using this
    have hcs : (j = 0 ∧ off = 49) ∨ (j = 1 ∧ off = 62) ∨ (j = 2 ∧ off = 70) ∨ (j = 3 ∧ off = 78) ∨ (j = 4 ∧ off = 91) ∨ (j = 5 ∧ off = 104) ∨ (j = 6 ∧ off = 117) ∨ (j = 7 ∧ off = 125) ∨ (j = 8 ∧ off = 149) := by
      match j, hlt, hj with
      | 0, _, hj => exact Or.inl ⟨rfl, (Option.some.inj hj).symm⟩
      | 1, _, hj => exact Or.inr (Or.inl ⟨rfl, (Option.some.inj hj).symm⟩)
      | 2, _, hj => exact Or.inr (Or.inr (Or.inl ⟨rfl, (Option.some.inj hj).symm⟩))
      | 3, _, hj => exact Or.inr (Or.inr (Or.inr (Or.inl ⟨rfl, (Option.some.inj hj).symm⟩)))
      | 4, _, hj => exact Or.inr (Or.inr (Or.inr (Or.inr (Or.inl ⟨rfl, (Option.some.inj hj).symm⟩))))
      | 5, _, hj => exact Or.inr (Or.inr (Or.inr (Or.inr (Or.inr (Or.inl ⟨rfl, (Option.some.inj hj).symm⟩)))))
      | 6, _, hj => exact Or.inr (Or.inr (Or.inr (Or.inr (Or.inr (Or.inr (Or.inl ⟨rfl, (Option.some.inj hj).symm⟩))))))
      | 7, _, hj => exact Or.inr (Or.inr (Or.inr (Or.inr (Or.inr (Or.inr (Or.inr (Or.inl ⟨rfl, (Option.some.inj hj).symm⟩)))))))
      | 8, _, hj => exact Or.inr (Or.inr (Or.inr (Or.inr (Or.inr (Or.inr (Or.inr (Or.inr (⟨rfl, (Option.some.inj hj).symm⟩))))))))
    clear hj hlt
    rcases hcs with ⟨rfl, rfl⟩ | ⟨rfl, rfl⟩ | ⟨rfl, rfl⟩ | ⟨rfl, rfl⟩ | ⟨rfl, rfl⟩ | ⟨rfl, rfl⟩ | ⟨rfl, rfl⟩ | ⟨rfl, rfl⟩ | ⟨rfl, rfl⟩
    · exact False.elim (by omega)
    · show WP _ _ 73 _ _ _ _ _ _
      refine WP_aload_n dX7_tell_73 rfl ?_
      refine WP_aload_n dX7_tell_74 rfl ?_
      refine WP_callV1 (k := 7) dX7_tell_75 ⟨⟨⟨by decide, by decide⟩, zX7_tellSort⟩, lX7_95, by decide, rfl, vX7_tellSort.1, vX7_tellSort.2⟩ (lyx_is hy 27 7 rfl) (sx_tellSort_27 hy hr hI4695   (by rw [e4697, e4698, e4699, e4700]; omega)) (Nat.le_of_ble_eq_true rfl) ?_
      intro r I4703 J4704 Ra hq
      obtain ⟨⟨hI4703, ec, pI4703⟩, rfl⟩ := hq
      rw [ec]
      clear ec Ra
      have e4705 : I4703 (ad g 1) 1 = L := hI4703.2
      have b4706 := BT_get hI4703.1 1 1 2 (0) (0) (900) (by decide) 1 (by decide) (by decide)
      rw [e4705] at b4706
      refine WP_goto 193 dX7_tell_78 rfl ?_
      exact WP_vret dX7_tell_193 rfl ⟨⟨hI4703, rfl, trivial⟩, rfl⟩
    · exact False.elim (by omega)
    · exact False.elim (by omega)
    · exact False.elim (by omega)
    · exact False.elim (by omega)
    · exact False.elim (by omega)
    · exact False.elim (by omega)
    · exact False.elim (by omega)
set_option maxHeartbeats 4000000 in
set_option maxRecDepth 100000 in
theorem sx_tell_27_2 {g : GG} {n : Int} {L : Int32} (hy : LyX g)  {I : pI} {J : pJ} {R : pR} (hr : RfX g R) (hI : XI g n L I) (cl : Int32) (cl_lo : 2 ≤ cl.toInt) (cl_hi : cl.toInt ≤ 2) (hb : (I (ad g 4) 1).toInt ≤ 1000 ∧ (I (ad g 4) 2).toInt ≤ 9 ∧ (I (ad g 27) 2).toInt ≤ 2) : SP g mX7_tell [.ref (ad g 27), .int cl, .ref (ad g 4)] I J R (fun r I' J' R' => (XI g n L I' ∧ R' = R ∧ True) ∧ r = none) := by
  refine SP_of ⟨by decide, rfl⟩ (Nat.le_of_ble_eq_true rfl) ?_
  have e4707 : I (ad g 1) 1 = L := hI.2
  have b4708 := BT_get hI.1 1 1 2 (0) (0) (900) (by decide) 1 (by decide) (by decide)
  rw [e4707] at b4708
  obtain ⟨w4709, ew4709⟩ : ∃ w : Int32, I (ad g 4) 1 = w := ⟨_, rfl⟩
  have bw4709 := BT_get hI.1 4 0 5 (0) (0) (1000) (by decide) 1 (by decide) (by decide)
  rw [ew4709] at bw4709
  obtain ⟨w4710, ew4710⟩ : ∃ w : Int32, I (ad g 4) 2 = w := ⟨_, rfl⟩
  have bw4710 := BT_get hI.1 4 0 5 (0) (0) (1000) (by decide) 2 (by decide) (by decide)
  rw [ew4710] at bw4710
  obtain ⟨w4711, ew4711⟩ : ∃ w : Int32, I (ad g 27) 2 = w := ⟨_, rfl⟩
  have bw4711 := BT_get hI.1 27 2 3 (0) (0) (3) (by decide) 2 (by decide) (by decide)
  rw [ew4711] at bw4711
  rw [ew4709, ew4710, ew4711] at hb
  refine WP_aload_n dX7_tell_0 rfl ?_
  refine WP_dup dX7_tell_1 rfl ?_
  refine WQ_getiu dX7_tell_2 fX7_61 rfl (lyx_is hy 27 7 rfl) (fun v4712 ev4712 => ?_)
  refine WQ_iconst (1) (1) dX7_tell_5 rfl rfl (fun v4713 hv4713 => ?_)
  refine WQ_iaddu dX7_tell_6 (fun v4714 => ?_)
  refine WQ_puti dX7_tell_7 fX7_61 rfl rfl (lyx_is hy 27 7 rfl) (fun I4715 eI4715 => ?_)
  have hI4715 : XI g n L I4715 := by rw [eI4715]; exact (xi_f0 hy hI (c := 27) (by decide) (Or.inl (by decide)) (by decide))
  have e4716 : I4715 (ad g 1) 1 = L := by rw [eI4715, pp_ne _ _ (Or.inl (lyx_ne hy (by decide) (by decide) (by decide)))]; exact e4707
  have e4717 : I4715 (ad g 4) 1 = w4709 := by rw [eI4715, pp_ne _ _ (Or.inl (lyx_ne hy (by decide) (by decide) (by decide)))]; exact ew4709
  have e4718 : I4715 (ad g 4) 2 = w4710 := by rw [eI4715, pp_ne _ _ (Or.inl (lyx_ne hy (by decide) (by decide) (by decide)))]; exact ew4710
  have e4719 : I4715 (ad g 27) 2 = w4711 := by rw [eI4715, pp_ne _ _ (Or.inr (by decide))]; exact ew4711
  have e4720 : I4715 (ad g 27) 0 = v4714 := by rw [eI4715, pp_self]
  clear eI4715
  refine WP_iload_n dX7_tell_10 rfl ?_
  refine WP_tab 178 dX7_tell_11 rfl rfl (fun c4720 => ?_) (fun j off c4720 hj => ?_) (by decide)
  · exact False.elim (by omega)
  · have hlt : j < 9 := by have := (Array.getElem?_eq_some_iff.mp hj).1; simpa using this
    have hcs : (j = 0 ∧ off = 49) ∨ (j = 1 ∧ off = 62) ∨ (j = 2 ∧ off = 70) ∨ (j = 3 ∧ off = 78) ∨ (j = 4 ∧ off = 91) ∨ (j = 5 ∧ off = 104) ∨ (j = 6 ∧ off = 117) ∨ (j = 7 ∧ off = 125) ∨ (j = 8 ∧ off = 149) := by
      match j, hlt, hj with
      | 0, _, hj => exact Or.inl ⟨rfl, (Option.some.inj hj).symm⟩
      | 1, _, hj => exact Or.inr (Or.inl ⟨rfl, (Option.some.inj hj).symm⟩)
      | 2, _, hj => exact Or.inr (Or.inr (Or.inl ⟨rfl, (Option.some.inj hj).symm⟩))
      | 3, _, hj => exact Or.inr (Or.inr (Or.inr (Or.inl ⟨rfl, (Option.some.inj hj).symm⟩)))
      | 4, _, hj => exact Or.inr (Or.inr (Or.inr (Or.inr (Or.inl ⟨rfl, (Option.some.inj hj).symm⟩))))
      | 5, _, hj => exact Or.inr (Or.inr (Or.inr (Or.inr (Or.inr (Or.inl ⟨rfl, (Option.some.inj hj).symm⟩)))))
      | 6, _, hj => exact Or.inr (Or.inr (Or.inr (Or.inr (Or.inr (Or.inr (Or.inl ⟨rfl, (Option.some.inj hj).symm⟩))))))
      | 7, _, hj => exact Or.inr (Or.inr (Or.inr (Or.inr (Or.inr (Or.inr (Or.inr (Or.inl ⟨rfl, (Option.some.inj hj).symm⟩)))))))
      | 8, _, hj => exact Or.inr (Or.inr (Or.inr (Or.inr (Or.inr (Or.inr (Or.inr (Or.inr (⟨rfl, (Option.some.inj hj).symm⟩))))))))
    clear hj hlt
    rcases hcs with ⟨rfl, rfl⟩ | ⟨rfl, rfl⟩ | ⟨rfl, rfl⟩ | ⟨rfl, rfl⟩ | ⟨rfl, rfl⟩ | ⟨rfl, rfl⟩ | ⟨rfl, rfl⟩ | ⟨rfl, rfl⟩ | ⟨rfl, rfl⟩
    · exact False.elim (by omega)
    · exact False.elim (by omega)
    · show WP _ _ 81 _ _ _ _ _ _
      refine WP_aload_n dX7_tell_81 rfl ?_
      refine WP_aload_n dX7_tell_82 rfl ?_
      refine WP_callV1 (k := 7) dX7_tell_83 ⟨⟨⟨by decide, by decide⟩, zX7_tellThing⟩, lX7_99, by decide, rfl, vX7_tellThing.1, vX7_tellThing.2⟩ (lyx_is hy 27 7 rfl) (sx_tellThing_27 hy hr hI4715   (by rw [e4717, e4718, e4719]; omega)) (Nat.le_of_ble_eq_true rfl) ?_
      intro r I4722 J4723 Ra hq
      obtain ⟨⟨hI4722, ec, pI4722⟩, rfl⟩ := hq
      rw [ec]
      clear ec Ra
      have e4724 : I4722 (ad g 1) 1 = L := hI4722.2
      have b4725 := BT_get hI4722.1 1 1 2 (0) (0) (900) (by decide) 1 (by decide) (by decide)
      rw [e4724] at b4725
      refine WP_goto 193 dX7_tell_86 rfl ?_
      exact WP_vret dX7_tell_193 rfl ⟨⟨hI4722, rfl, trivial⟩, rfl⟩
    · exact False.elim (by omega)
    · exact False.elim (by omega)
    · exact False.elim (by omega)
    · exact False.elim (by omega)
    · exact False.elim (by omega)
    · exact False.elim (by omega)
set_option maxHeartbeats 4000000 in
set_option maxRecDepth 100000 in
theorem sx_tell_27_3 {g : GG} {n : Int} {L : Int32} (hy : LyX g)  {I : pI} {J : pJ} {R : pR} (hr : RfX g R) (hI : XI g n L I) (cl : Int32) (cl_lo : 3 ≤ cl.toInt) (cl_hi : cl.toInt ≤ 3) (hb : (I (ad g 4) 0).toInt ≤ 3 ∧ (I (ad g 4) 1).toInt ≤ 6 ∧ (I (ad g 4) 2).toInt ≤ 20) : SP g mX7_tell [.ref (ad g 27), .int cl, .ref (ad g 4)] I J R (fun r I' J' R' => (XI g n L I' ∧ R' = R ∧ True) ∧ r = none) := by
  refine SP_of ⟨by decide, rfl⟩ (Nat.le_of_ble_eq_true rfl) ?_
  have e4726 : I (ad g 1) 1 = L := hI.2
  have b4727 := BT_get hI.1 1 1 2 (0) (0) (900) (by decide) 1 (by decide) (by decide)
  rw [e4726] at b4727
  obtain ⟨w4728, ew4728⟩ : ∃ w : Int32, I (ad g 4) 0 = w := ⟨_, rfl⟩
  have bw4728 := BT_get hI.1 4 0 5 (0) (0) (1000) (by decide) 0 (by decide) (by decide)
  rw [ew4728] at bw4728
  obtain ⟨w4729, ew4729⟩ : ∃ w : Int32, I (ad g 4) 1 = w := ⟨_, rfl⟩
  have bw4729 := BT_get hI.1 4 0 5 (0) (0) (1000) (by decide) 1 (by decide) (by decide)
  rw [ew4729] at bw4729
  obtain ⟨w4730, ew4730⟩ : ∃ w : Int32, I (ad g 4) 2 = w := ⟨_, rfl⟩
  have bw4730 := BT_get hI.1 4 0 5 (0) (0) (1000) (by decide) 2 (by decide) (by decide)
  rw [ew4730] at bw4730
  rw [ew4728, ew4729, ew4730] at hb
  refine WP_aload_n dX7_tell_0 rfl ?_
  refine WP_dup dX7_tell_1 rfl ?_
  refine WQ_getiu dX7_tell_2 fX7_61 rfl (lyx_is hy 27 7 rfl) (fun v4731 ev4731 => ?_)
  refine WQ_iconst (1) (1) dX7_tell_5 rfl rfl (fun v4732 hv4732 => ?_)
  refine WQ_iaddu dX7_tell_6 (fun v4733 => ?_)
  refine WQ_puti dX7_tell_7 fX7_61 rfl rfl (lyx_is hy 27 7 rfl) (fun I4734 eI4734 => ?_)
  have hI4734 : XI g n L I4734 := by rw [eI4734]; exact (xi_f0 hy hI (c := 27) (by decide) (Or.inl (by decide)) (by decide))
  have e4735 : I4734 (ad g 1) 1 = L := by rw [eI4734, pp_ne _ _ (Or.inl (lyx_ne hy (by decide) (by decide) (by decide)))]; exact e4726
  have e4736 : I4734 (ad g 4) 0 = w4728 := by rw [eI4734, pp_ne _ _ (Or.inl (lyx_ne hy (by decide) (by decide) (by decide)))]; exact ew4728
  have e4737 : I4734 (ad g 4) 1 = w4729 := by rw [eI4734, pp_ne _ _ (Or.inl (lyx_ne hy (by decide) (by decide) (by decide)))]; exact ew4729
  have e4738 : I4734 (ad g 4) 2 = w4730 := by rw [eI4734, pp_ne _ _ (Or.inl (lyx_ne hy (by decide) (by decide) (by decide)))]; exact ew4730
  have e4739 : I4734 (ad g 27) 0 = v4733 := by rw [eI4734, pp_self]
  clear eI4734
  refine WP_iload_n dX7_tell_10 rfl ?_
  refine WP_tab 178 dX7_tell_11 rfl rfl (fun c4739 => ?_) (fun j off c4739 hj => ?_) (by decide)
  · exact False.elim (by omega)
  · have hlt : j < 9 := by have := (Array.getElem?_eq_some_iff.mp hj).1; simpa using this
    have hcs : (j = 0 ∧ off = 49) ∨ (j = 1 ∧ off = 62) ∨ (j = 2 ∧ off = 70) ∨ (j = 3 ∧ off = 78) ∨ (j = 4 ∧ off = 91) ∨ (j = 5 ∧ off = 104) ∨ (j = 6 ∧ off = 117) ∨ (j = 7 ∧ off = 125) ∨ (j = 8 ∧ off = 149) := by
      match j, hlt, hj with
      | 0, _, hj => exact Or.inl ⟨rfl, (Option.some.inj hj).symm⟩
      | 1, _, hj => exact Or.inr (Or.inl ⟨rfl, (Option.some.inj hj).symm⟩)
      | 2, _, hj => exact Or.inr (Or.inr (Or.inl ⟨rfl, (Option.some.inj hj).symm⟩))
      | 3, _, hj => exact Or.inr (Or.inr (Or.inr (Or.inl ⟨rfl, (Option.some.inj hj).symm⟩)))
      | 4, _, hj => exact Or.inr (Or.inr (Or.inr (Or.inr (Or.inl ⟨rfl, (Option.some.inj hj).symm⟩))))
      | 5, _, hj => exact Or.inr (Or.inr (Or.inr (Or.inr (Or.inr (Or.inl ⟨rfl, (Option.some.inj hj).symm⟩)))))
      | 6, _, hj => exact Or.inr (Or.inr (Or.inr (Or.inr (Or.inr (Or.inr (Or.inl ⟨rfl, (Option.some.inj hj).symm⟩))))))
      | 7, _, hj => exact Or.inr (Or.inr (Or.inr (Or.inr (Or.inr (Or.inr (Or.inr (Or.inl ⟨rfl, (Option.some.inj hj).symm⟩)))))))
      | 8, _, hj => exact Or.inr (Or.inr (Or.inr (Or.inr (Or.inr (Or.inr (Or.inr (Or.inr (⟨rfl, (Option.some.inj hj).symm⟩))))))))
    clear hj hlt
    rcases hcs with ⟨rfl, rfl⟩ | ⟨rfl, rfl⟩ | ⟨rfl, rfl⟩ | ⟨rfl, rfl⟩ | ⟨rfl, rfl⟩ | ⟨rfl, rfl⟩ | ⟨rfl, rfl⟩ | ⟨rfl, rfl⟩ | ⟨rfl, rfl⟩
    · exact False.elim (by omega)
    · exact False.elim (by omega)
    · exact False.elim (by omega)
    · show WP _ _ 89 _ _ _ _ _ _
      refine WP_aload_n dX7_tell_89 rfl ?_
      refine WP_aload_n dX7_tell_90 rfl ?_
      refine WP_getr dX7_tell_91 fX7_27 rfl (lyx_is hy 27 7 rfl) (rfx hr 27 10 33 (by decide)) ?_
      refine WP_iload_n dX7_tell_94 rfl ?_
      refine WP_aload_n dX7_tell_95 rfl ?_
      refine WP_callV3 (k := 7) dX7_tell_96 ⟨⟨⟨by decide, by decide⟩, zX7_tellOn⟩, lX7_102, by decide, rfl, vX7_tellOn.1, vX7_tellOn.2⟩ (lyx_is hy 27 7 rfl) (sx_tellOn_27_3 hy hr hI4734 cl (by omega) (by omega) (by rw [e4736, e4737, e4738]; omega)) (Nat.le_of_ble_eq_true rfl) ?_
      intro r I4741 J4742 Ra hq
      obtain ⟨⟨hI4741, ec, pI4741⟩, rfl⟩ := hq
      rw [ec]
      clear ec Ra
      have e4743 : I4741 (ad g 1) 1 = L := hI4741.2
      have b4744 := BT_get hI4741.1 1 1 2 (0) (0) (900) (by decide) 1 (by decide) (by decide)
      rw [e4743] at b4744
      refine WP_goto 193 dX7_tell_99 rfl ?_
      exact WP_vret dX7_tell_193 rfl ⟨⟨hI4741, rfl, trivial⟩, rfl⟩
    · exact False.elim (by omega)
    · exact False.elim (by omega)
    · exact False.elim (by omega)
    · exact False.elim (by omega)
    · exact False.elim (by omega)
set_option maxHeartbeats 4000000 in
set_option maxRecDepth 100000 in
theorem sx_tell_27_4 {g : GG} {n : Int} {L : Int32} (hy : LyX g)  {I : pI} {J : pJ} {R : pR} (hr : RfX g R) (hI : XI g n L I) (cl : Int32) (cl_lo : 4 ≤ cl.toInt) (cl_hi : cl.toInt ≤ 4) (hb : (I (ad g 4) 0).toInt ≤ 2 ∧ (I (ad g 4) 1).toInt ≤ 6 ∧ (I (ad g 4) 2).toInt ≤ 20) : SP g mX7_tell [.ref (ad g 27), .int cl, .ref (ad g 4)] I J R (fun r I' J' R' => (XI g n L I' ∧ R' = R ∧ True) ∧ r = none) := by
  refine SP_of ⟨by decide, rfl⟩ (Nat.le_of_ble_eq_true rfl) ?_
  have e4745 : I (ad g 1) 1 = L := hI.2
  have b4746 := BT_get hI.1 1 1 2 (0) (0) (900) (by decide) 1 (by decide) (by decide)
  rw [e4745] at b4746
  obtain ⟨w4747, ew4747⟩ : ∃ w : Int32, I (ad g 4) 0 = w := ⟨_, rfl⟩
  have bw4747 := BT_get hI.1 4 0 5 (0) (0) (1000) (by decide) 0 (by decide) (by decide)
  rw [ew4747] at bw4747
  obtain ⟨w4748, ew4748⟩ : ∃ w : Int32, I (ad g 4) 1 = w := ⟨_, rfl⟩
  have bw4748 := BT_get hI.1 4 0 5 (0) (0) (1000) (by decide) 1 (by decide) (by decide)
  rw [ew4748] at bw4748
  obtain ⟨w4749, ew4749⟩ : ∃ w : Int32, I (ad g 4) 2 = w := ⟨_, rfl⟩
  have bw4749 := BT_get hI.1 4 0 5 (0) (0) (1000) (by decide) 2 (by decide) (by decide)
  rw [ew4749] at bw4749
  rw [ew4747, ew4748, ew4749] at hb
  refine WP_aload_n dX7_tell_0 rfl ?_
  refine WP_dup dX7_tell_1 rfl ?_
  refine WQ_getiu dX7_tell_2 fX7_61 rfl (lyx_is hy 27 7 rfl) (fun v4750 ev4750 => ?_)
  refine WQ_iconst (1) (1) dX7_tell_5 rfl rfl (fun v4751 hv4751 => ?_)
  refine WQ_iaddu dX7_tell_6 (fun v4752 => ?_)
  refine WQ_puti dX7_tell_7 fX7_61 rfl rfl (lyx_is hy 27 7 rfl) (fun I4753 eI4753 => ?_)
  have hI4753 : XI g n L I4753 := by rw [eI4753]; exact (xi_f0 hy hI (c := 27) (by decide) (Or.inl (by decide)) (by decide))
  have e4754 : I4753 (ad g 1) 1 = L := by rw [eI4753, pp_ne _ _ (Or.inl (lyx_ne hy (by decide) (by decide) (by decide)))]; exact e4745
  have e4755 : I4753 (ad g 4) 0 = w4747 := by rw [eI4753, pp_ne _ _ (Or.inl (lyx_ne hy (by decide) (by decide) (by decide)))]; exact ew4747
  have e4756 : I4753 (ad g 4) 1 = w4748 := by rw [eI4753, pp_ne _ _ (Or.inl (lyx_ne hy (by decide) (by decide) (by decide)))]; exact ew4748
  have e4757 : I4753 (ad g 4) 2 = w4749 := by rw [eI4753, pp_ne _ _ (Or.inl (lyx_ne hy (by decide) (by decide) (by decide)))]; exact ew4749
  have e4758 : I4753 (ad g 27) 0 = v4752 := by rw [eI4753, pp_self]
  clear eI4753
  refine WP_iload_n dX7_tell_10 rfl ?_
  refine WP_tab 178 dX7_tell_11 rfl rfl (fun c4758 => ?_) (fun j off c4758 hj => ?_) (by decide)
  · exact False.elim (by omega)
  · have hlt : j < 9 := by have := (Array.getElem?_eq_some_iff.mp hj).1; simpa using this
    have hcs : (j = 0 ∧ off = 49) ∨ (j = 1 ∧ off = 62) ∨ (j = 2 ∧ off = 70) ∨ (j = 3 ∧ off = 78) ∨ (j = 4 ∧ off = 91) ∨ (j = 5 ∧ off = 104) ∨ (j = 6 ∧ off = 117) ∨ (j = 7 ∧ off = 125) ∨ (j = 8 ∧ off = 149) := by
      match j, hlt, hj with
      | 0, _, hj => exact Or.inl ⟨rfl, (Option.some.inj hj).symm⟩
      | 1, _, hj => exact Or.inr (Or.inl ⟨rfl, (Option.some.inj hj).symm⟩)
      | 2, _, hj => exact Or.inr (Or.inr (Or.inl ⟨rfl, (Option.some.inj hj).symm⟩))
      | 3, _, hj => exact Or.inr (Or.inr (Or.inr (Or.inl ⟨rfl, (Option.some.inj hj).symm⟩)))
      | 4, _, hj => exact Or.inr (Or.inr (Or.inr (Or.inr (Or.inl ⟨rfl, (Option.some.inj hj).symm⟩))))
      | 5, _, hj => exact Or.inr (Or.inr (Or.inr (Or.inr (Or.inr (Or.inl ⟨rfl, (Option.some.inj hj).symm⟩)))))
      | 6, _, hj => exact Or.inr (Or.inr (Or.inr (Or.inr (Or.inr (Or.inr (Or.inl ⟨rfl, (Option.some.inj hj).symm⟩))))))
      | 7, _, hj => exact Or.inr (Or.inr (Or.inr (Or.inr (Or.inr (Or.inr (Or.inr (Or.inl ⟨rfl, (Option.some.inj hj).symm⟩)))))))
      | 8, _, hj => exact Or.inr (Or.inr (Or.inr (Or.inr (Or.inr (Or.inr (Or.inr (Or.inr (⟨rfl, (Option.some.inj hj).symm⟩))))))))
    clear hj hlt
    rcases hcs with ⟨rfl, rfl⟩ | ⟨rfl, rfl⟩ | ⟨rfl, rfl⟩ | ⟨rfl, rfl⟩ | ⟨rfl, rfl⟩ | ⟨rfl, rfl⟩ | ⟨rfl, rfl⟩ | ⟨rfl, rfl⟩ | ⟨rfl, rfl⟩
    · exact False.elim (by omega)
    · exact False.elim (by omega)
    · exact False.elim (by omega)
    · exact False.elim (by omega)
    · show WP _ _ 102 _ _ _ _ _ _
      refine WP_aload_n dX7_tell_102 rfl ?_
      refine WP_aload_n dX7_tell_103 rfl ?_
      refine WP_getr dX7_tell_104 fX7_45 rfl (lyx_is hy 27 7 rfl) (rfx hr 27 16 39 (by decide)) ?_
      refine WP_iload_n dX7_tell_107 rfl ?_
      refine WP_aload_n dX7_tell_108 rfl ?_
      refine WP_callV3 (k := 7) dX7_tell_109 ⟨⟨⟨by decide, by decide⟩, zX7_tellOn⟩, lX7_102, by decide, rfl, vX7_tellOn.1, vX7_tellOn.2⟩ (lyx_is hy 27 7 rfl) (sx_tellOn_27_4 hy hr hI4753 cl (by omega) (by omega) (by rw [e4755, e4756, e4757]; omega)) (Nat.le_of_ble_eq_true rfl) ?_
      intro r I4760 J4761 Ra hq
      obtain ⟨⟨hI4760, ec, pI4760⟩, rfl⟩ := hq
      rw [ec]
      clear ec Ra
      have e4762 : I4760 (ad g 1) 1 = L := hI4760.2
      have b4763 := BT_get hI4760.1 1 1 2 (0) (0) (900) (by decide) 1 (by decide) (by decide)
      rw [e4762] at b4763
      refine WP_goto 193 dX7_tell_112 rfl ?_
      exact WP_vret dX7_tell_193 rfl ⟨⟨hI4760, rfl, trivial⟩, rfl⟩
    · exact False.elim (by omega)
    · exact False.elim (by omega)
    · exact False.elim (by omega)
    · exact False.elim (by omega)
set_option maxHeartbeats 4000000 in
set_option maxRecDepth 100000 in
theorem sx_tell_27_5 {g : GG} {n : Int} {L : Int32} (hy : LyX g)  {I : pI} {J : pJ} {R : pR} (hr : RfX g R) (hI : XI g n L I) (cl : Int32) (cl_lo : 5 ≤ cl.toInt) (cl_hi : cl.toInt ≤ 5) (hb : (I (ad g 4) 0).toInt ≤ 2 ∧ (I (ad g 4) 1).toInt ≤ 6 ∧ (I (ad g 4) 2).toInt ≤ 999) : SP g mX7_tell [.ref (ad g 27), .int cl, .ref (ad g 4)] I J R (fun r I' J' R' => (XI g n L I' ∧ R' = R ∧ True) ∧ r = none) := by
  refine SP_of ⟨by decide, rfl⟩ (Nat.le_of_ble_eq_true rfl) ?_
  have e4764 : I (ad g 1) 1 = L := hI.2
  have b4765 := BT_get hI.1 1 1 2 (0) (0) (900) (by decide) 1 (by decide) (by decide)
  rw [e4764] at b4765
  obtain ⟨w4766, ew4766⟩ : ∃ w : Int32, I (ad g 4) 0 = w := ⟨_, rfl⟩
  have bw4766 := BT_get hI.1 4 0 5 (0) (0) (1000) (by decide) 0 (by decide) (by decide)
  rw [ew4766] at bw4766
  obtain ⟨w4767, ew4767⟩ : ∃ w : Int32, I (ad g 4) 1 = w := ⟨_, rfl⟩
  have bw4767 := BT_get hI.1 4 0 5 (0) (0) (1000) (by decide) 1 (by decide) (by decide)
  rw [ew4767] at bw4767
  obtain ⟨w4768, ew4768⟩ : ∃ w : Int32, I (ad g 4) 2 = w := ⟨_, rfl⟩
  have bw4768 := BT_get hI.1 4 0 5 (0) (0) (1000) (by decide) 2 (by decide) (by decide)
  rw [ew4768] at bw4768
  rw [ew4766, ew4767, ew4768] at hb
  refine WP_aload_n dX7_tell_0 rfl ?_
  refine WP_dup dX7_tell_1 rfl ?_
  refine WQ_getiu dX7_tell_2 fX7_61 rfl (lyx_is hy 27 7 rfl) (fun v4769 ev4769 => ?_)
  refine WQ_iconst (1) (1) dX7_tell_5 rfl rfl (fun v4770 hv4770 => ?_)
  refine WQ_iaddu dX7_tell_6 (fun v4771 => ?_)
  refine WQ_puti dX7_tell_7 fX7_61 rfl rfl (lyx_is hy 27 7 rfl) (fun I4772 eI4772 => ?_)
  have hI4772 : XI g n L I4772 := by rw [eI4772]; exact (xi_f0 hy hI (c := 27) (by decide) (Or.inl (by decide)) (by decide))
  have e4773 : I4772 (ad g 1) 1 = L := by rw [eI4772, pp_ne _ _ (Or.inl (lyx_ne hy (by decide) (by decide) (by decide)))]; exact e4764
  have e4774 : I4772 (ad g 4) 0 = w4766 := by rw [eI4772, pp_ne _ _ (Or.inl (lyx_ne hy (by decide) (by decide) (by decide)))]; exact ew4766
  have e4775 : I4772 (ad g 4) 1 = w4767 := by rw [eI4772, pp_ne _ _ (Or.inl (lyx_ne hy (by decide) (by decide) (by decide)))]; exact ew4767
  have e4776 : I4772 (ad g 4) 2 = w4768 := by rw [eI4772, pp_ne _ _ (Or.inl (lyx_ne hy (by decide) (by decide) (by decide)))]; exact ew4768
  have e4777 : I4772 (ad g 27) 0 = v4771 := by rw [eI4772, pp_self]
  clear eI4772
  refine WP_iload_n dX7_tell_10 rfl ?_
  refine WP_tab 178 dX7_tell_11 rfl rfl (fun c4777 => ?_) (fun j off c4777 hj => ?_) (by decide)
  · exact False.elim (by omega)
  · have hlt : j < 9 := by have := (Array.getElem?_eq_some_iff.mp hj).1; simpa using this
    have hcs : (j = 0 ∧ off = 49) ∨ (j = 1 ∧ off = 62) ∨ (j = 2 ∧ off = 70) ∨ (j = 3 ∧ off = 78) ∨ (j = 4 ∧ off = 91) ∨ (j = 5 ∧ off = 104) ∨ (j = 6 ∧ off = 117) ∨ (j = 7 ∧ off = 125) ∨ (j = 8 ∧ off = 149) := by
      match j, hlt, hj with
      | 0, _, hj => exact Or.inl ⟨rfl, (Option.some.inj hj).symm⟩
      | 1, _, hj => exact Or.inr (Or.inl ⟨rfl, (Option.some.inj hj).symm⟩)
      | 2, _, hj => exact Or.inr (Or.inr (Or.inl ⟨rfl, (Option.some.inj hj).symm⟩))
      | 3, _, hj => exact Or.inr (Or.inr (Or.inr (Or.inl ⟨rfl, (Option.some.inj hj).symm⟩)))
      | 4, _, hj => exact Or.inr (Or.inr (Or.inr (Or.inr (Or.inl ⟨rfl, (Option.some.inj hj).symm⟩))))
      | 5, _, hj => exact Or.inr (Or.inr (Or.inr (Or.inr (Or.inr (Or.inl ⟨rfl, (Option.some.inj hj).symm⟩)))))
      | 6, _, hj => exact Or.inr (Or.inr (Or.inr (Or.inr (Or.inr (Or.inr (Or.inl ⟨rfl, (Option.some.inj hj).symm⟩))))))
      | 7, _, hj => exact Or.inr (Or.inr (Or.inr (Or.inr (Or.inr (Or.inr (Or.inr (Or.inl ⟨rfl, (Option.some.inj hj).symm⟩)))))))
      | 8, _, hj => exact Or.inr (Or.inr (Or.inr (Or.inr (Or.inr (Or.inr (Or.inr (Or.inr (⟨rfl, (Option.some.inj hj).symm⟩))))))))
    clear hj hlt
    rcases hcs with ⟨rfl, rfl⟩ | ⟨rfl, rfl⟩ | ⟨rfl, rfl⟩ | ⟨rfl, rfl⟩ | ⟨rfl, rfl⟩ | ⟨rfl, rfl⟩ | ⟨rfl, rfl⟩ | ⟨rfl, rfl⟩ | ⟨rfl, rfl⟩
    · exact False.elim (by omega)
    · exact False.elim (by omega)
    · exact False.elim (by omega)
    · exact False.elim (by omega)
    · exact False.elim (by omega)
    · show WP _ _ 115 _ _ _ _ _ _
      refine WP_aload_n dX7_tell_115 rfl ?_
      refine WP_aload_n dX7_tell_116 rfl ?_
      refine WP_getr dX7_tell_117 fX7_48 rfl (lyx_is hy 27 7 rfl) (rfx hr 27 17 40 (by decide)) ?_
      refine WP_iload_n dX7_tell_120 rfl ?_
      refine WP_aload_n dX7_tell_121 rfl ?_
      refine WP_callV3 (k := 7) dX7_tell_122 ⟨⟨⟨by decide, by decide⟩, zX7_tellOn⟩, lX7_102, by decide, rfl, vX7_tellOn.1, vX7_tellOn.2⟩ (lyx_is hy 27 7 rfl) (sx_tellOn_27_5 hy hr hI4772 cl (by omega) (by omega) (by rw [e4774, e4775, e4776]; omega)) (Nat.le_of_ble_eq_true rfl) ?_
      intro r I4779 J4780 Ra hq
      obtain ⟨⟨hI4779, ec, pI4779⟩, rfl⟩ := hq
      rw [ec]
      clear ec Ra
      have e4781 : I4779 (ad g 1) 1 = L := hI4779.2
      have b4782 := BT_get hI4779.1 1 1 2 (0) (0) (900) (by decide) 1 (by decide) (by decide)
      rw [e4781] at b4782
      refine WP_goto 193 dX7_tell_125 rfl ?_
      exact WP_vret dX7_tell_193 rfl ⟨⟨hI4779, rfl, trivial⟩, rfl⟩
    · exact False.elim (by omega)
    · exact False.elim (by omega)
    · exact False.elim (by omega)
set_option maxHeartbeats 4000000 in
set_option maxRecDepth 100000 in
theorem sx_tell_27_6 {g : GG} {n : Int} {L : Int32} (hy : LyX g)  {I : pI} {J : pJ} {R : pR} (hr : RfX g R) (hI : XI g n L I) (cl : Int32) (cl_lo : 6 ≤ cl.toInt) (cl_hi : cl.toInt ≤ 6) (hb : (I (ad g 4) 0).toInt ≤ 3 ∧ (I (ad g 4) 1).toInt ≤ 2 ∧ (I (ad g 4) 2).toInt ≤ 6 ∧ (I (ad g 4) 3).toInt ≤ 3 ∧ (I (ad g 4) 4).toInt ≤ 99) : SP g mX7_tell [.ref (ad g 27), .int cl, .ref (ad g 4)] I J R (fun r I' J' R' => (XI g n L I' ∧ R' = R ∧ True) ∧ r = none) := by
  refine SP_of ⟨by decide, rfl⟩ (Nat.le_of_ble_eq_true rfl) ?_
  have e4783 : I (ad g 1) 1 = L := hI.2
  have b4784 := BT_get hI.1 1 1 2 (0) (0) (900) (by decide) 1 (by decide) (by decide)
  rw [e4783] at b4784
  obtain ⟨w4785, ew4785⟩ : ∃ w : Int32, I (ad g 4) 0 = w := ⟨_, rfl⟩
  have bw4785 := BT_get hI.1 4 0 5 (0) (0) (1000) (by decide) 0 (by decide) (by decide)
  rw [ew4785] at bw4785
  obtain ⟨w4786, ew4786⟩ : ∃ w : Int32, I (ad g 4) 1 = w := ⟨_, rfl⟩
  have bw4786 := BT_get hI.1 4 0 5 (0) (0) (1000) (by decide) 1 (by decide) (by decide)
  rw [ew4786] at bw4786
  obtain ⟨w4787, ew4787⟩ : ∃ w : Int32, I (ad g 4) 2 = w := ⟨_, rfl⟩
  have bw4787 := BT_get hI.1 4 0 5 (0) (0) (1000) (by decide) 2 (by decide) (by decide)
  rw [ew4787] at bw4787
  obtain ⟨w4788, ew4788⟩ : ∃ w : Int32, I (ad g 4) 3 = w := ⟨_, rfl⟩
  have bw4788 := BT_get hI.1 4 0 5 (0) (0) (1000) (by decide) 3 (by decide) (by decide)
  rw [ew4788] at bw4788
  obtain ⟨w4789, ew4789⟩ : ∃ w : Int32, I (ad g 4) 4 = w := ⟨_, rfl⟩
  have bw4789 := BT_get hI.1 4 0 5 (0) (0) (1000) (by decide) 4 (by decide) (by decide)
  rw [ew4789] at bw4789
  rw [ew4785, ew4786, ew4787, ew4788, ew4789] at hb
  refine WP_aload_n dX7_tell_0 rfl ?_
  refine WP_dup dX7_tell_1 rfl ?_
  refine WQ_getiu dX7_tell_2 fX7_61 rfl (lyx_is hy 27 7 rfl) (fun v4790 ev4790 => ?_)
  refine WQ_iconst (1) (1) dX7_tell_5 rfl rfl (fun v4791 hv4791 => ?_)
  refine WQ_iaddu dX7_tell_6 (fun v4792 => ?_)
  refine WQ_puti dX7_tell_7 fX7_61 rfl rfl (lyx_is hy 27 7 rfl) (fun I4793 eI4793 => ?_)
  have hI4793 : XI g n L I4793 := by rw [eI4793]; exact (xi_f0 hy hI (c := 27) (by decide) (Or.inl (by decide)) (by decide))
  have e4794 : I4793 (ad g 1) 1 = L := by rw [eI4793, pp_ne _ _ (Or.inl (lyx_ne hy (by decide) (by decide) (by decide)))]; exact e4783
  have e4795 : I4793 (ad g 4) 0 = w4785 := by rw [eI4793, pp_ne _ _ (Or.inl (lyx_ne hy (by decide) (by decide) (by decide)))]; exact ew4785
  have e4796 : I4793 (ad g 4) 1 = w4786 := by rw [eI4793, pp_ne _ _ (Or.inl (lyx_ne hy (by decide) (by decide) (by decide)))]; exact ew4786
  have e4797 : I4793 (ad g 4) 2 = w4787 := by rw [eI4793, pp_ne _ _ (Or.inl (lyx_ne hy (by decide) (by decide) (by decide)))]; exact ew4787
  have e4798 : I4793 (ad g 4) 3 = w4788 := by rw [eI4793, pp_ne _ _ (Or.inl (lyx_ne hy (by decide) (by decide) (by decide)))]; exact ew4788
  have e4799 : I4793 (ad g 4) 4 = w4789 := by rw [eI4793, pp_ne _ _ (Or.inl (lyx_ne hy (by decide) (by decide) (by decide)))]; exact ew4789
  have e4800 : I4793 (ad g 27) 0 = v4792 := by rw [eI4793, pp_self]
  clear eI4793
  refine WP_iload_n dX7_tell_10 rfl ?_
  refine WP_tab 178 dX7_tell_11 rfl rfl (fun c4800 => ?_) (fun j off c4800 hj => ?_) (by decide)
  · exact False.elim (by omega)
  · have hlt : j < 9 := by have := (Array.getElem?_eq_some_iff.mp hj).1; simpa using this
    have hcs : (j = 0 ∧ off = 49) ∨ (j = 1 ∧ off = 62) ∨ (j = 2 ∧ off = 70) ∨ (j = 3 ∧ off = 78) ∨ (j = 4 ∧ off = 91) ∨ (j = 5 ∧ off = 104) ∨ (j = 6 ∧ off = 117) ∨ (j = 7 ∧ off = 125) ∨ (j = 8 ∧ off = 149) := by
      match j, hlt, hj with
      | 0, _, hj => exact Or.inl ⟨rfl, (Option.some.inj hj).symm⟩
      | 1, _, hj => exact Or.inr (Or.inl ⟨rfl, (Option.some.inj hj).symm⟩)
      | 2, _, hj => exact Or.inr (Or.inr (Or.inl ⟨rfl, (Option.some.inj hj).symm⟩))
      | 3, _, hj => exact Or.inr (Or.inr (Or.inr (Or.inl ⟨rfl, (Option.some.inj hj).symm⟩)))
      | 4, _, hj => exact Or.inr (Or.inr (Or.inr (Or.inr (Or.inl ⟨rfl, (Option.some.inj hj).symm⟩))))
      | 5, _, hj => exact Or.inr (Or.inr (Or.inr (Or.inr (Or.inr (Or.inl ⟨rfl, (Option.some.inj hj).symm⟩)))))
      | 6, _, hj => exact Or.inr (Or.inr (Or.inr (Or.inr (Or.inr (Or.inr (Or.inl ⟨rfl, (Option.some.inj hj).symm⟩))))))
      | 7, _, hj => exact Or.inr (Or.inr (Or.inr (Or.inr (Or.inr (Or.inr (Or.inr (Or.inl ⟨rfl, (Option.some.inj hj).symm⟩)))))))
      | 8, _, hj => exact Or.inr (Or.inr (Or.inr (Or.inr (Or.inr (Or.inr (Or.inr (Or.inr (⟨rfl, (Option.some.inj hj).symm⟩))))))))
    clear hj hlt
    rcases hcs with ⟨rfl, rfl⟩ | ⟨rfl, rfl⟩ | ⟨rfl, rfl⟩ | ⟨rfl, rfl⟩ | ⟨rfl, rfl⟩ | ⟨rfl, rfl⟩ | ⟨rfl, rfl⟩ | ⟨rfl, rfl⟩ | ⟨rfl, rfl⟩
    · exact False.elim (by omega)
    · exact False.elim (by omega)
    · exact False.elim (by omega)
    · exact False.elim (by omega)
    · exact False.elim (by omega)
    · exact False.elim (by omega)
    · show WP _ _ 128 _ _ _ _ _ _
      refine WP_aload_n dX7_tell_128 rfl ?_
      refine WP_aload_n dX7_tell_129 rfl ?_
      refine WP_callV1 (k := 7) dX7_tell_130 ⟨⟨⟨by decide, by decide⟩, zX7_tellWant⟩, lX7_106, by decide, rfl, vX7_tellWant.1, vX7_tellWant.2⟩ (lyx_is hy 27 7 rfl) (sx_tellWant_27 hy hr hI4793   (by rw [e4795, e4796, e4797, e4798, e4799]; omega)) (Nat.le_of_ble_eq_true rfl) ?_
      intro r I4802 J4803 Ra hq
      obtain ⟨⟨hI4802, ec, pI4802⟩, rfl⟩ := hq
      rw [ec]
      clear ec Ra
      have e4804 : I4802 (ad g 1) 1 = L := hI4802.2
      have b4805 := BT_get hI4802.1 1 1 2 (0) (0) (900) (by decide) 1 (by decide) (by decide)
      rw [e4804] at b4805
      refine WP_goto 193 dX7_tell_133 rfl ?_
      exact WP_vret dX7_tell_193 rfl ⟨⟨hI4802, rfl, trivial⟩, rfl⟩
    · exact False.elim (by omega)
    · exact False.elim (by omega)
set_option maxHeartbeats 4000000 in
set_option maxRecDepth 100000 in
theorem sx_tell_27_7 {g : GG} {n : Int} {L : Int32} (hy : LyX g)  {I : pI} {J : pJ} {R : pR} (hr : RfX g R) (hI : XI g n L I) (cl : Int32) (cl_lo : 7 ≤ cl.toInt) (cl_hi : cl.toInt ≤ 7) (hb : (I (ad g 4) 0).toInt ≤ 3) : SP g mX7_tell [.ref (ad g 27), .int cl, .ref (ad g 4)] I J R (fun r I' J' R' => (XI g n L I' ∧ R' = R ∧ True) ∧ r = none) := by
  refine SP_of ⟨by decide, rfl⟩ (Nat.le_of_ble_eq_true rfl) ?_
  have e4806 : I (ad g 1) 1 = L := hI.2
  have b4807 := BT_get hI.1 1 1 2 (0) (0) (900) (by decide) 1 (by decide) (by decide)
  rw [e4806] at b4807
  obtain ⟨w4808, ew4808⟩ : ∃ w : Int32, I (ad g 4) 0 = w := ⟨_, rfl⟩
  have bw4808 := BT_get hI.1 4 0 5 (0) (0) (1000) (by decide) 0 (by decide) (by decide)
  rw [ew4808] at bw4808
  rw [ew4808] at hb
  refine WP_aload_n dX7_tell_0 rfl ?_
  refine WP_dup dX7_tell_1 rfl ?_
  refine WQ_getiu dX7_tell_2 fX7_61 rfl (lyx_is hy 27 7 rfl) (fun v4809 ev4809 => ?_)
  refine WQ_iconst (1) (1) dX7_tell_5 rfl rfl (fun v4810 hv4810 => ?_)
  refine WQ_iaddu dX7_tell_6 (fun v4811 => ?_)
  refine WQ_puti dX7_tell_7 fX7_61 rfl rfl (lyx_is hy 27 7 rfl) (fun I4812 eI4812 => ?_)
  have hI4812 : XI g n L I4812 := by rw [eI4812]; exact (xi_f0 hy hI (c := 27) (by decide) (Or.inl (by decide)) (by decide))
  have e4813 : I4812 (ad g 1) 1 = L := by rw [eI4812, pp_ne _ _ (Or.inl (lyx_ne hy (by decide) (by decide) (by decide)))]; exact e4806
  have e4814 : I4812 (ad g 4) 0 = w4808 := by rw [eI4812, pp_ne _ _ (Or.inl (lyx_ne hy (by decide) (by decide) (by decide)))]; exact ew4808
  have e4815 : I4812 (ad g 27) 0 = v4811 := by rw [eI4812, pp_self]
  clear eI4812
  refine WP_iload_n dX7_tell_10 rfl ?_
  refine WP_tab 178 dX7_tell_11 rfl rfl (fun c4815 => ?_) (fun j off c4815 hj => ?_) (by decide)
  · exact False.elim (by omega)
  · have hlt : j < 9 := by have := (Array.getElem?_eq_some_iff.mp hj).1; simpa using this
    have hcs : (j = 0 ∧ off = 49) ∨ (j = 1 ∧ off = 62) ∨ (j = 2 ∧ off = 70) ∨ (j = 3 ∧ off = 78) ∨ (j = 4 ∧ off = 91) ∨ (j = 5 ∧ off = 104) ∨ (j = 6 ∧ off = 117) ∨ (j = 7 ∧ off = 125) ∨ (j = 8 ∧ off = 149) := by
      match j, hlt, hj with
      | 0, _, hj => exact Or.inl ⟨rfl, (Option.some.inj hj).symm⟩
      | 1, _, hj => exact Or.inr (Or.inl ⟨rfl, (Option.some.inj hj).symm⟩)
      | 2, _, hj => exact Or.inr (Or.inr (Or.inl ⟨rfl, (Option.some.inj hj).symm⟩))
      | 3, _, hj => exact Or.inr (Or.inr (Or.inr (Or.inl ⟨rfl, (Option.some.inj hj).symm⟩)))
      | 4, _, hj => exact Or.inr (Or.inr (Or.inr (Or.inr (Or.inl ⟨rfl, (Option.some.inj hj).symm⟩))))
      | 5, _, hj => exact Or.inr (Or.inr (Or.inr (Or.inr (Or.inr (Or.inl ⟨rfl, (Option.some.inj hj).symm⟩)))))
      | 6, _, hj => exact Or.inr (Or.inr (Or.inr (Or.inr (Or.inr (Or.inr (Or.inl ⟨rfl, (Option.some.inj hj).symm⟩))))))
      | 7, _, hj => exact Or.inr (Or.inr (Or.inr (Or.inr (Or.inr (Or.inr (Or.inr (Or.inl ⟨rfl, (Option.some.inj hj).symm⟩)))))))
      | 8, _, hj => exact Or.inr (Or.inr (Or.inr (Or.inr (Or.inr (Or.inr (Or.inr (Or.inr (⟨rfl, (Option.some.inj hj).symm⟩))))))))
    clear hj hlt
    rcases hcs with ⟨rfl, rfl⟩ | ⟨rfl, rfl⟩ | ⟨rfl, rfl⟩ | ⟨rfl, rfl⟩ | ⟨rfl, rfl⟩ | ⟨rfl, rfl⟩ | ⟨rfl, rfl⟩ | ⟨rfl, rfl⟩ | ⟨rfl, rfl⟩
    · exact False.elim (by omega)
    · exact False.elim (by omega)
    · exact False.elim (by omega)
    · exact False.elim (by omega)
    · exact False.elim (by omega)
    · exact False.elim (by omega)
    · exact False.elim (by omega)
    · show WP _ _ 136 _ _ _ _ _ _
      refine WP_aload_n dX7_tell_136 rfl ?_
      refine WP_getr dX7_tell_137 fX7_24 rfl (lyx_is hy 27 7 rfl) (rfx hr 27 9 32 (by decide)) ?_
      refine WP_aload_n dX7_tell_140 rfl ?_
      refine WQ_iconst (0) (0) dX7_tell_141 rfl rfl (fun v4817 hv4817 => ?_)
      refine WQ_ialdm (z := 0) dX7_tell_142 (lyx_is hy 4 13 rfl) (lyx_n hy 4 5 rfl) hv4817 (by decide) e4814 ?_
      refine WP_aload_n dX7_tell_143 rfl ?_
      refine WQ_iconst (1) (1) dX7_tell_144 rfl rfl (fun v4819 hv4819 => ?_)
      refine WQ_iald dX7_tell_145 (lyx_is hy 4 13 rfl) (lyx_n hy 4 5 rfl) (by omega) (by omega) (fun q hq => BT_get hI4812.1 4 0 5 (0) (0) (1000) (by decide) q (Nat.zero_le _) hq) (fun v4820 av4820 bv4820 ev4820 => ?_)
      clear ev4820
      refine WQ_iast dX7_tell_146 (lyx_is hy 32 13 rfl) (lyx_n hy 32 4 rfl) (by omega) (by omega) (fun I4821 eI4821 => ?_)
      have hI4821 : XI g n L I4821 := by rw [eI4821]; exact (xi_r0 hy hI4812 (c := 32) (by decide) (Or.inl (by decide)) (by decide))
      have e4822 : I4821 (ad g 1) 1 = L := by rw [eI4821, pp_ne _ _ (Or.inl (lyx_ne hy (by decide) (by decide) (by decide)))]; exact e4813
      have e4823 : I4821 (ad g 4) 0 = w4808 := by rw [eI4821, pp_ne _ _ (Or.inl (lyx_ne hy (by decide) (by decide) (by decide)))]; exact e4814
      have e4824 : I4821 (ad g 27) 0 = v4811 := by rw [eI4821, pp_ne _ _ (Or.inl (lyx_ne hy (by decide) (by decide) (by decide)))]; exact e4815
      clear eI4821
      refine WP_aload_n dX7_tell_147 rfl ?_
      refine WQ_bipush (7) (7) dX7_tell_148 rfl rfl (fun v4825 hv4825 => ?_)
      refine WP_aload_n dX7_tell_150 rfl ?_
      refine WQ_iconst (0) (0) dX7_tell_151 rfl rfl (fun v4826 hv4826 => ?_)
      refine WQ_ialdm (z := 0) dX7_tell_152 (lyx_is hy 4 13 rfl) (lyx_n hy 4 5 rfl) hv4826 (by decide) e4823 ?_
      refine WQ_iconst (0) (0) dX7_tell_153 rfl rfl (fun v4828 hv4828 => ?_)
      refine WP_callV3 (k := 7) dX7_tell_154 ⟨⟨⟨by decide, by decide⟩, zX7_hold⟩, lX7_109, by decide, rfl, vX7_hold.1, vX7_hold.2⟩ (lyx_is hy 27 7 rfl) (sx_hold_27 hy hr hI4821 v4825 w4808 v4828 (by omega) (by omega) (by omega) (by omega) ) (Nat.le_of_ble_eq_true rfl) ?_
      intro r I4829 J4830 Ra hq
      obtain ⟨⟨hI4829, ec⟩, rfl⟩ := hq
      rw [ec]
      clear ec Ra
      have e4831 : I4829 (ad g 1) 1 = L := hI4829.2
      have b4832 := BT_get hI4829.1 1 1 2 (0) (0) (900) (by decide) 1 (by decide) (by decide)
      rw [e4831] at b4832
      refine WP_goto 193 dX7_tell_157 rfl ?_
      exact WP_vret dX7_tell_193 rfl ⟨⟨hI4829, rfl, trivial⟩, rfl⟩
    · exact False.elim (by omega)
set_option maxHeartbeats 4000000 in
set_option maxRecDepth 100000 in
theorem sx_tell_27_8 {g : GG} {n : Int} {L : Int32} (hy : LyX g)  {I : pI} {J : pJ} {R : pR} (hr : RfX g R) (hI : XI g n L I) (cl : Int32) (cl_lo : 8 ≤ cl.toInt) (cl_hi : cl.toInt ≤ 8) (hb : (I (ad g 4) 0).toInt ≤ 3) : SP g mX7_tell [.ref (ad g 27), .int cl, .ref (ad g 4)] I J R (fun r I' J' R' => (XI g n L I' ∧ R' = R ∧ True) ∧ r = none) := by
  refine SP_of ⟨by decide, rfl⟩ (Nat.le_of_ble_eq_true rfl) ?_
  have e4833 : I (ad g 1) 1 = L := hI.2
  have b4834 := BT_get hI.1 1 1 2 (0) (0) (900) (by decide) 1 (by decide) (by decide)
  rw [e4833] at b4834
  obtain ⟨w4835, ew4835⟩ : ∃ w : Int32, I (ad g 4) 0 = w := ⟨_, rfl⟩
  have bw4835 := BT_get hI.1 4 0 5 (0) (0) (1000) (by decide) 0 (by decide) (by decide)
  rw [ew4835] at bw4835
  rw [ew4835] at hb
  refine WP_aload_n dX7_tell_0 rfl ?_
  refine WP_dup dX7_tell_1 rfl ?_
  refine WQ_getiu dX7_tell_2 fX7_61 rfl (lyx_is hy 27 7 rfl) (fun v4836 ev4836 => ?_)
  refine WQ_iconst (1) (1) dX7_tell_5 rfl rfl (fun v4837 hv4837 => ?_)
  refine WQ_iaddu dX7_tell_6 (fun v4838 => ?_)
  refine WQ_puti dX7_tell_7 fX7_61 rfl rfl (lyx_is hy 27 7 rfl) (fun I4839 eI4839 => ?_)
  have hI4839 : XI g n L I4839 := by rw [eI4839]; exact (xi_f0 hy hI (c := 27) (by decide) (Or.inl (by decide)) (by decide))
  have e4840 : I4839 (ad g 1) 1 = L := by rw [eI4839, pp_ne _ _ (Or.inl (lyx_ne hy (by decide) (by decide) (by decide)))]; exact e4833
  have e4841 : I4839 (ad g 4) 0 = w4835 := by rw [eI4839, pp_ne _ _ (Or.inl (lyx_ne hy (by decide) (by decide) (by decide)))]; exact ew4835
  have e4842 : I4839 (ad g 27) 0 = v4838 := by rw [eI4839, pp_self]
  clear eI4839
  refine WP_iload_n dX7_tell_10 rfl ?_
  refine WP_tab 178 dX7_tell_11 rfl rfl (fun c4842 => ?_) (fun j off c4842 hj => ?_) (by decide)
  · exact False.elim (by omega)
  · have hlt : j < 9 := by have := (Array.getElem?_eq_some_iff.mp hj).1; simpa using this
    have hcs : (j = 0 ∧ off = 49) ∨ (j = 1 ∧ off = 62) ∨ (j = 2 ∧ off = 70) ∨ (j = 3 ∧ off = 78) ∨ (j = 4 ∧ off = 91) ∨ (j = 5 ∧ off = 104) ∨ (j = 6 ∧ off = 117) ∨ (j = 7 ∧ off = 125) ∨ (j = 8 ∧ off = 149) := by
      match j, hlt, hj with
      | 0, _, hj => exact Or.inl ⟨rfl, (Option.some.inj hj).symm⟩
      | 1, _, hj => exact Or.inr (Or.inl ⟨rfl, (Option.some.inj hj).symm⟩)
      | 2, _, hj => exact Or.inr (Or.inr (Or.inl ⟨rfl, (Option.some.inj hj).symm⟩))
      | 3, _, hj => exact Or.inr (Or.inr (Or.inr (Or.inl ⟨rfl, (Option.some.inj hj).symm⟩)))
      | 4, _, hj => exact Or.inr (Or.inr (Or.inr (Or.inr (Or.inl ⟨rfl, (Option.some.inj hj).symm⟩))))
      | 5, _, hj => exact Or.inr (Or.inr (Or.inr (Or.inr (Or.inr (Or.inl ⟨rfl, (Option.some.inj hj).symm⟩)))))
      | 6, _, hj => exact Or.inr (Or.inr (Or.inr (Or.inr (Or.inr (Or.inr (Or.inl ⟨rfl, (Option.some.inj hj).symm⟩))))))
      | 7, _, hj => exact Or.inr (Or.inr (Or.inr (Or.inr (Or.inr (Or.inr (Or.inr (Or.inl ⟨rfl, (Option.some.inj hj).symm⟩)))))))
      | 8, _, hj => exact Or.inr (Or.inr (Or.inr (Or.inr (Or.inr (Or.inr (Or.inr (Or.inr (⟨rfl, (Option.some.inj hj).symm⟩))))))))
    clear hj hlt
    rcases hcs with ⟨rfl, rfl⟩ | ⟨rfl, rfl⟩ | ⟨rfl, rfl⟩ | ⟨rfl, rfl⟩ | ⟨rfl, rfl⟩ | ⟨rfl, rfl⟩ | ⟨rfl, rfl⟩ | ⟨rfl, rfl⟩ | ⟨rfl, rfl⟩
    · exact False.elim (by omega)
    · exact False.elim (by omega)
    · exact False.elim (by omega)
    · exact False.elim (by omega)
    · exact False.elim (by omega)
    · exact False.elim (by omega)
    · exact False.elim (by omega)
    · exact False.elim (by omega)
    · show WP _ _ 160 _ _ _ _ _ _
      refine WP_aload_n dX7_tell_160 rfl ?_
      refine WP_aload_n dX7_tell_161 rfl ?_
      refine WQ_iconst (0) (0) dX7_tell_162 rfl rfl (fun v4844 hv4844 => ?_)
      refine WQ_ialdm (z := 0) dX7_tell_163 (lyx_is hy 4 13 rfl) (lyx_n hy 4 5 rfl) hv4844 (by decide) e4841 ?_
      refine WQ_puti dX7_tell_164 fX7_71 rfl rfl (lyx_is hy 27 7 rfl) (fun I4846 eI4846 => ?_)
      have hI4846 : XI g n L I4846 := by rw [eI4846]; exact (xi_f hy hI4839 (c := 27) (-1) (0) (3) (by decide) (Or.inl (by decide)) (by decide) (by omega) (by omega))
      have e4847 : I4846 (ad g 1) 1 = L := by rw [eI4846, pp_ne _ _ (Or.inl (lyx_ne hy (by decide) (by decide) (by decide)))]; exact e4840
      have e4848 : I4846 (ad g 4) 0 = w4835 := by rw [eI4846, pp_ne _ _ (Or.inl (lyx_ne hy (by decide) (by decide) (by decide)))]; exact e4841
      have e4849 : I4846 (ad g 27) 0 = v4838 := by rw [eI4846, pp_ne _ _ (Or.inr (by decide))]; exact e4842
      have e4850 : I4846 (ad g 27) 3 = w4835 := by rw [eI4846, pp_self]
      clear eI4846
      refine WP_aload_n dX7_tell_167 rfl ?_
      refine WQ_bipush (8) (8) dX7_tell_168 rfl rfl (fun v4851 hv4851 => ?_)
      refine WQ_iconst (0) (0) dX7_tell_170 rfl rfl (fun v4852 hv4852 => ?_)
      refine WQ_iconst (0) (0) dX7_tell_171 rfl rfl (fun v4853 hv4853 => ?_)
      refine WP_callV3 (k := 7) dX7_tell_172 ⟨⟨⟨by decide, by decide⟩, zX7_hold⟩, lX7_109, by decide, rfl, vX7_hold.1, vX7_hold.2⟩ (lyx_is hy 27 7 rfl) (sx_hold_27 hy hr hI4846 v4851 v4852 v4853 (by omega) (by omega) (by omega) (by omega) ) (Nat.le_of_ble_eq_true rfl) ?_
      intro r I4854 J4855 Ra hq
      obtain ⟨⟨hI4854, ec⟩, rfl⟩ := hq
      rw [ec]
      clear ec Ra
      have e4856 : I4854 (ad g 1) 1 = L := hI4854.2
      have b4857 := BT_get hI4854.1 1 1 2 (0) (0) (900) (by decide) 1 (by decide) (by decide)
      rw [e4856] at b4857
      refine WP_goto 193 dX7_tell_175 rfl ?_
      exact WP_vret dX7_tell_193 rfl ⟨⟨hI4854, rfl, trivial⟩, rfl⟩
set_option maxHeartbeats 4000000 in
set_option maxRecDepth 100000 in
theorem sx_tell_27_9 {g : GG} {n : Int} {L : Int32} (hy : LyX g)  {I : pI} {J : pJ} {R : pR} (hr : RfX g R) (hI : XI g n L I) (cl : Int32) (cl_lo : 9 ≤ cl.toInt) (cl_hi : cl.toInt ≤ 9) (hb : (I (ad g 4) 0).toInt ≤ 2) : SP g mX7_tell [.ref (ad g 27), .int cl, .ref (ad g 4)] I J R (fun r I' J' R' => (XI g n L I' ∧ R' = R ∧ True) ∧ r = none) := by
  refine SP_of ⟨by decide, rfl⟩ (Nat.le_of_ble_eq_true rfl) ?_
  have e4858 : I (ad g 1) 1 = L := hI.2
  have b4859 := BT_get hI.1 1 1 2 (0) (0) (900) (by decide) 1 (by decide) (by decide)
  rw [e4858] at b4859
  obtain ⟨w4860, ew4860⟩ : ∃ w : Int32, I (ad g 4) 0 = w := ⟨_, rfl⟩
  have bw4860 := BT_get hI.1 4 0 5 (0) (0) (1000) (by decide) 0 (by decide) (by decide)
  rw [ew4860] at bw4860
  rw [ew4860] at hb
  refine WP_aload_n dX7_tell_0 rfl ?_
  refine WP_dup dX7_tell_1 rfl ?_
  refine WQ_getiu dX7_tell_2 fX7_61 rfl (lyx_is hy 27 7 rfl) (fun v4861 ev4861 => ?_)
  refine WQ_iconst (1) (1) dX7_tell_5 rfl rfl (fun v4862 hv4862 => ?_)
  refine WQ_iaddu dX7_tell_6 (fun v4863 => ?_)
  refine WQ_puti dX7_tell_7 fX7_61 rfl rfl (lyx_is hy 27 7 rfl) (fun I4864 eI4864 => ?_)
  have hI4864 : XI g n L I4864 := by rw [eI4864]; exact (xi_f0 hy hI (c := 27) (by decide) (Or.inl (by decide)) (by decide))
  have e4865 : I4864 (ad g 1) 1 = L := by rw [eI4864, pp_ne _ _ (Or.inl (lyx_ne hy (by decide) (by decide) (by decide)))]; exact e4858
  have e4866 : I4864 (ad g 4) 0 = w4860 := by rw [eI4864, pp_ne _ _ (Or.inl (lyx_ne hy (by decide) (by decide) (by decide)))]; exact ew4860
  have e4867 : I4864 (ad g 27) 0 = v4863 := by rw [eI4864, pp_self]
  clear eI4864
  refine WP_iload_n dX7_tell_10 rfl ?_
  refine WP_tab 178 dX7_tell_11 rfl rfl (fun c4867 => ?_) (fun j off c4867 hj => ?_) (by decide)
  · refine WP_aload_n dX7_tell_178 rfl ?_
    refine WP_aload_n dX7_tell_179 rfl ?_
    refine WQ_iconst (0) (0) dX7_tell_180 rfl rfl (fun v4869 hv4869 => ?_)
    refine WQ_ialdm (z := 0) dX7_tell_181 (lyx_is hy 4 13 rfl) (lyx_n hy 4 5 rfl) hv4869 (by decide) e4866 ?_
    refine WQ_puti dX7_tell_182 fX7_74 rfl rfl (lyx_is hy 27 7 rfl) (fun I4871 eI4871 => ?_)
    have hI4871 : XI g n L I4871 := by rw [eI4871]; exact (xi_f hy hI4864 (c := 27) (-1) (0) (2) (by decide) (Or.inl (by decide)) (by decide) (by omega) (by omega))
    have e4872 : I4871 (ad g 1) 1 = L := by rw [eI4871, pp_ne _ _ (Or.inl (lyx_ne hy (by decide) (by decide) (by decide)))]; exact e4865
    have e4873 : I4871 (ad g 4) 0 = w4860 := by rw [eI4871, pp_ne _ _ (Or.inl (lyx_ne hy (by decide) (by decide) (by decide)))]; exact e4866
    have e4874 : I4871 (ad g 27) 0 = v4863 := by rw [eI4871, pp_ne _ _ (Or.inr (by decide))]; exact e4867
    have e4875 : I4871 (ad g 27) 4 = w4860 := by rw [eI4871, pp_self]
    clear eI4871
    refine WP_aload_n dX7_tell_185 rfl ?_
    refine WQ_bipush (9) (9) dX7_tell_186 rfl rfl (fun v4876 hv4876 => ?_)
    refine WQ_iconst (0) (0) dX7_tell_188 rfl rfl (fun v4877 hv4877 => ?_)
    refine WQ_iconst (0) (0) dX7_tell_189 rfl rfl (fun v4878 hv4878 => ?_)
    refine WP_callV3 (k := 7) dX7_tell_190 ⟨⟨⟨by decide, by decide⟩, zX7_hold⟩, lX7_109, by decide, rfl, vX7_hold.1, vX7_hold.2⟩ (lyx_is hy 27 7 rfl) (sx_hold_27 hy hr hI4871 v4876 v4877 v4878 (by omega) (by omega) (by omega) (by omega) ) (Nat.le_of_ble_eq_true rfl) ?_
    intro r I4879 J4880 Ra hq
    obtain ⟨⟨hI4879, ec⟩, rfl⟩ := hq
    rw [ec]
    clear ec Ra
    have e4881 : I4879 (ad g 1) 1 = L := hI4879.2
    have b4882 := BT_get hI4879.1 1 1 2 (0) (0) (900) (by decide) 1 (by decide) (by decide)
    rw [e4881] at b4882
    exact WP_vret dX7_tell_193 rfl ⟨⟨hI4879, rfl, trivial⟩, rfl⟩
  · have hlt : j < 9 := by have := (Array.getElem?_eq_some_iff.mp hj).1; simpa using this
    have hcs : (j = 0 ∧ off = 49) ∨ (j = 1 ∧ off = 62) ∨ (j = 2 ∧ off = 70) ∨ (j = 3 ∧ off = 78) ∨ (j = 4 ∧ off = 91) ∨ (j = 5 ∧ off = 104) ∨ (j = 6 ∧ off = 117) ∨ (j = 7 ∧ off = 125) ∨ (j = 8 ∧ off = 149) := by
      match j, hlt, hj with
      | 0, _, hj => exact Or.inl ⟨rfl, (Option.some.inj hj).symm⟩
      | 1, _, hj => exact Or.inr (Or.inl ⟨rfl, (Option.some.inj hj).symm⟩)
      | 2, _, hj => exact Or.inr (Or.inr (Or.inl ⟨rfl, (Option.some.inj hj).symm⟩))
      | 3, _, hj => exact Or.inr (Or.inr (Or.inr (Or.inl ⟨rfl, (Option.some.inj hj).symm⟩)))
      | 4, _, hj => exact Or.inr (Or.inr (Or.inr (Or.inr (Or.inl ⟨rfl, (Option.some.inj hj).symm⟩))))
      | 5, _, hj => exact Or.inr (Or.inr (Or.inr (Or.inr (Or.inr (Or.inl ⟨rfl, (Option.some.inj hj).symm⟩)))))
      | 6, _, hj => exact Or.inr (Or.inr (Or.inr (Or.inr (Or.inr (Or.inr (Or.inl ⟨rfl, (Option.some.inj hj).symm⟩))))))
      | 7, _, hj => exact Or.inr (Or.inr (Or.inr (Or.inr (Or.inr (Or.inr (Or.inr (Or.inl ⟨rfl, (Option.some.inj hj).symm⟩)))))))
      | 8, _, hj => exact Or.inr (Or.inr (Or.inr (Or.inr (Or.inr (Or.inr (Or.inr (Or.inr (⟨rfl, (Option.some.inj hj).symm⟩))))))))
    clear hj hlt
    rcases hcs with ⟨rfl, rfl⟩ | ⟨rfl, rfl⟩ | ⟨rfl, rfl⟩ | ⟨rfl, rfl⟩ | ⟨rfl, rfl⟩ | ⟨rfl, rfl⟩ | ⟨rfl, rfl⟩ | ⟨rfl, rfl⟩ | ⟨rfl, rfl⟩
    · exact False.elim (by omega)
    · exact False.elim (by omega)
    · exact False.elim (by omega)
    · exact False.elim (by omega)
    · exact False.elim (by omega)
    · exact False.elim (by omega)
    · exact False.elim (by omega)
    · exact False.elim (by omega)
    · exact False.elim (by omega)
