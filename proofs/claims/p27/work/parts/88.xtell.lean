set_option maxHeartbeats 4000000 in
set_option maxRecDepth 100000 in
theorem sx_tellLoss_6 {g : GG} {n : Int} {L : Int32} (hy : LyX g)  {I : pI} {J : pJ} {R : pR} (hr : RfX g R) (hI : XI g n L I) (da : Int32) (lo : Int32) (da_lo : 0 ≤ da.toInt) (da_hi : da.toInt ≤ 6) (lo_lo : 0 ≤ lo.toInt) (lo_hi : lo.toInt ≤ 900) : SP g mX7_tellLoss [.ref (ad g 6), .int da, .int lo] I J R (fun r I' J' R' => (XI g n L I' ∧ R' = R) ∧ r = none) := by
  refine SP_of ⟨by decide, rfl⟩ (Nat.le_of_ble_eq_true rfl) ?_
  have e3980 : I (ad g 1) 1 = L := hI.2
  have b3981 := BT_get hI.1 1 1 2 (0) (0) (900) (by decide) 1 (by decide) (by decide)
  rw [e3980] at b3981
  refine WP_aload_n dX7_tellLoss_0 rfl ?_
  refine WP_getr dX7_tellLoss_1 fX7_9 rfl (lyx_is hy 6 7 rfl) (rfx hr 6 5 7 (by decide)) ?_
  refine WP_iload_n dX7_tellLoss_4 rfl ?_
  refine WP_iload_n dX7_tellLoss_5 rfl ?_
  refine WQ_iast dX7_tellLoss_6 (lyx_is hy 7 13 rfl) (lyx_n hy 7 7 rfl) (by omega) (by omega) (fun I3982 eI3982 => ?_)
  have hI3982 : XI g n L I3982 := by rw [eI3982]; exact (xi_r hy hI (c := 7) (0) (0) (900) (by decide) (Or.inl (by decide)) (by decide) (by omega) (by omega))
  have e3983 : I3982 (ad g 1) 1 = L := by rw [eI3982, pp_ne _ _ (Or.inl (lyx_ne hy (by decide) (by decide) (by decide)))]; exact e3980
  clear eI3982
  refine WP_aload_n dX7_tellLoss_7 rfl ?_
  refine WQ_iconst (0) (0) dX7_tellLoss_8 rfl rfl (fun v3984 hv3984 => ?_)
  refine WQ_iconst (0) (0) dX7_tellLoss_9 rfl rfl (fun v3985 hv3985 => ?_)
  refine WP_iload_n dX7_tellLoss_10 rfl ?_
  refine WP_callV3 (k := 7) dX7_tellLoss_11 ⟨⟨⟨by decide, by decide⟩, zX7_hold⟩, lX7_109, by decide, rfl, vX7_hold.1, vX7_hold.2⟩ (lyx_is hy 6 7 rfl) (sx_hold_6 hy hr hI3982 v3984 v3985 da (by omega) (by omega) (by omega) (by omega) ) (Nat.le_of_ble_eq_true rfl) ?_
  intro r I3986 J3987 Ra hq
  obtain ⟨⟨hI3986, ec⟩, rfl⟩ := hq
  rw [ec]
  clear ec Ra
  have e3988 : I3986 (ad g 1) 1 = L := hI3986.2
  have b3989 := BT_get hI3986.1 1 1 2 (0) (0) (900) (by decide) 1 (by decide) (by decide)
  rw [e3988] at b3989
  exact WP_vret dX7_tellLoss_14 rfl ⟨⟨hI3986, rfl⟩, rfl⟩
set_option maxHeartbeats 4000000 in
set_option maxRecDepth 100000 in
theorem sx_tellSort_6 {g : GG} {n : Int} {L : Int32} (hy : LyX g)  {I : pI} {J : pJ} {R : pR} (hr : RfX g R) (hI : XI g n L I)   (hb : (I (ad g 4) 1).toInt ≤ 99 ∧ (I (ad g 4) 2).toInt ≤ 1000 ∧ (I (ad g 4) 3).toInt ≤ 60 ∧ (I (ad g 6) 1).toInt ≤ 3) : SP g mX7_tellSort [.ref (ad g 6), .ref (ad g 4)] I J R (fun r I' J' R' => (XI g n L I' ∧ R' = R ∧ True) ∧ r = none) := by
  refine SP_of ⟨by decide, rfl⟩ (Nat.le_of_ble_eq_true rfl) ?_
  have e3990 : I (ad g 1) 1 = L := hI.2
  have b3991 := BT_get hI.1 1 1 2 (0) (0) (900) (by decide) 1 (by decide) (by decide)
  rw [e3990] at b3991
  obtain ⟨w3992, ew3992⟩ : ∃ w : Int32, I (ad g 4) 1 = w := ⟨_, rfl⟩
  have bw3992 := BT_get hI.1 4 0 5 (0) (0) (1000) (by decide) 1 (by decide) (by decide)
  rw [ew3992] at bw3992
  obtain ⟨w3993, ew3993⟩ : ∃ w : Int32, I (ad g 4) 2 = w := ⟨_, rfl⟩
  have bw3993 := BT_get hI.1 4 0 5 (0) (0) (1000) (by decide) 2 (by decide) (by decide)
  rw [ew3993] at bw3993
  obtain ⟨w3994, ew3994⟩ : ∃ w : Int32, I (ad g 4) 3 = w := ⟨_, rfl⟩
  have bw3994 := BT_get hI.1 4 0 5 (0) (0) (1000) (by decide) 3 (by decide) (by decide)
  rw [ew3994] at bw3994
  obtain ⟨w3995, ew3995⟩ : ∃ w : Int32, I (ad g 6) 1 = w := ⟨_, rfl⟩
  have bw3995 := BT_get hI.1 6 1 2 (0) (0) (4) (by decide) 1 (by decide) (by decide)
  rw [ew3995] at bw3995
  rw [ew3992, ew3993, ew3994, ew3995] at hb
  refine WP_aload_n dX7_tellSort_0 rfl ?_
  refine WP_getr dX7_tellSort_1 fX7_15 rfl (lyx_is hy 6 7 rfl) (rfx hr 6 6 8 (by decide)) ?_
  refine WP_aload_n dX7_tellSort_4 rfl ?_
  refine WQ_getim dX7_tellSort_5 fX7_65 rfl (lyx_is hy 6 7 rfl) ew3995 ?_
  refine WP_aload_n dX7_tellSort_8 rfl ?_
  refine WQ_iconst (1) (1) dX7_tellSort_9 rfl rfl (fun v3996 hv3996 => ?_)
  refine WQ_ialdm (z := 1) dX7_tellSort_10 (lyx_is hy 4 13 rfl) (lyx_n hy 4 5 rfl) hv3996 (by decide) ew3992 ?_
  refine WQ_iast dX7_tellSort_11 (lyx_is hy 8 13 rfl) (lyx_n hy 8 4 rfl) (by omega) (by omega) (fun I3998 eI3998 => ?_)
  have hI3998 : XI g n L I3998 := by rw [eI3998]; exact (xi_r hy hI (c := 8) (0) (0) (99) (by decide) (Or.inl (by decide)) (by decide) (by omega) (by omega))
  have e3999 : I3998 (ad g 1) 1 = L := by rw [eI3998, pp_ne _ _ (Or.inl (lyx_ne hy (by decide) (by decide) (by decide)))]; exact e3990
  have e4000 : I3998 (ad g 4) 1 = w3992 := by rw [eI3998, pp_ne _ _ (Or.inl (lyx_ne hy (by decide) (by decide) (by decide)))]; exact ew3992
  have e4001 : I3998 (ad g 4) 2 = w3993 := by rw [eI3998, pp_ne _ _ (Or.inl (lyx_ne hy (by decide) (by decide) (by decide)))]; exact ew3993
  have e4002 : I3998 (ad g 4) 3 = w3994 := by rw [eI3998, pp_ne _ _ (Or.inl (lyx_ne hy (by decide) (by decide) (by decide)))]; exact ew3994
  have e4003 : I3998 (ad g 6) 1 = w3995 := by rw [eI3998, pp_ne _ _ (Or.inl (lyx_ne hy (by decide) (by decide) (by decide)))]; exact ew3995
  clear eI3998
  refine WP_aload_n dX7_tellSort_12 rfl ?_
  refine WP_getr dX7_tellSort_13 fX7_18 rfl (lyx_is hy 6 7 rfl) (rfx hr 6 7 9 (by decide)) ?_
  refine WP_aload_n dX7_tellSort_16 rfl ?_
  refine WQ_getim dX7_tellSort_17 fX7_65 rfl (lyx_is hy 6 7 rfl) e4003 ?_
  refine WP_aload_n dX7_tellSort_20 rfl ?_
  refine WQ_iconst (2) (2) dX7_tellSort_21 rfl rfl (fun v4004 hv4004 => ?_)
  refine WQ_ialdm (z := 2) dX7_tellSort_22 (lyx_is hy 4 13 rfl) (lyx_n hy 4 5 rfl) hv4004 (by decide) e4001 ?_
  refine WQ_iast dX7_tellSort_23 (lyx_is hy 9 13 rfl) (lyx_n hy 9 4 rfl) (by omega) (by omega) (fun I4006 eI4006 => ?_)
  have hI4006 : XI g n L I4006 := by rw [eI4006]; exact (xi_r hy hI3998 (c := 9) (0) (0) (1000) (by decide) (Or.inl (by decide)) (by decide) (by omega) (by omega))
  have e4007 : I4006 (ad g 1) 1 = L := by rw [eI4006, pp_ne _ _ (Or.inl (lyx_ne hy (by decide) (by decide) (by decide)))]; exact e3999
  have e4008 : I4006 (ad g 4) 1 = w3992 := by rw [eI4006, pp_ne _ _ (Or.inl (lyx_ne hy (by decide) (by decide) (by decide)))]; exact e4000
  have e4009 : I4006 (ad g 4) 2 = w3993 := by rw [eI4006, pp_ne _ _ (Or.inl (lyx_ne hy (by decide) (by decide) (by decide)))]; exact e4001
  have e4010 : I4006 (ad g 4) 3 = w3994 := by rw [eI4006, pp_ne _ _ (Or.inl (lyx_ne hy (by decide) (by decide) (by decide)))]; exact e4002
  have e4011 : I4006 (ad g 6) 1 = w3995 := by rw [eI4006, pp_ne _ _ (Or.inl (lyx_ne hy (by decide) (by decide) (by decide)))]; exact e4003
  clear eI4006
  refine WP_aload_n dX7_tellSort_24 rfl ?_
  refine WP_getr dX7_tellSort_25 fX7_21 rfl (lyx_is hy 6 7 rfl) (rfx hr 6 8 10 (by decide)) ?_
  refine WP_aload_n dX7_tellSort_28 rfl ?_
  refine WQ_getim dX7_tellSort_29 fX7_65 rfl (lyx_is hy 6 7 rfl) e4011 ?_
  refine WP_aload_n dX7_tellSort_32 rfl ?_
  refine WQ_iconst (3) (3) dX7_tellSort_33 rfl rfl (fun v4012 hv4012 => ?_)
  refine WQ_ialdm (z := 3) dX7_tellSort_34 (lyx_is hy 4 13 rfl) (lyx_n hy 4 5 rfl) hv4012 (by decide) e4010 ?_
  refine WQ_iast dX7_tellSort_35 (lyx_is hy 10 13 rfl) (lyx_n hy 10 4 rfl) (by omega) (by omega) (fun I4014 eI4014 => ?_)
  have hI4014 : XI g n L I4014 := by rw [eI4014]; exact (xi_r hy hI4006 (c := 10) (0) (0) (60) (by decide) (Or.inl (by decide)) (by decide) (by omega) (by omega))
  have e4015 : I4014 (ad g 1) 1 = L := by rw [eI4014, pp_ne _ _ (Or.inl (lyx_ne hy (by decide) (by decide) (by decide)))]; exact e4007
  have e4016 : I4014 (ad g 4) 1 = w3992 := by rw [eI4014, pp_ne _ _ (Or.inl (lyx_ne hy (by decide) (by decide) (by decide)))]; exact e4008
  have e4017 : I4014 (ad g 4) 2 = w3993 := by rw [eI4014, pp_ne _ _ (Or.inl (lyx_ne hy (by decide) (by decide) (by decide)))]; exact e4009
  have e4018 : I4014 (ad g 4) 3 = w3994 := by rw [eI4014, pp_ne _ _ (Or.inl (lyx_ne hy (by decide) (by decide) (by decide)))]; exact e4010
  have e4019 : I4014 (ad g 6) 1 = w3995 := by rw [eI4014, pp_ne _ _ (Or.inl (lyx_ne hy (by decide) (by decide) (by decide)))]; exact e4011
  clear eI4014
  refine WP_aload_n dX7_tellSort_36 rfl ?_
  refine WP_dup dX7_tellSort_37 rfl ?_
  refine WQ_getim dX7_tellSort_38 fX7_65 rfl (lyx_is hy 6 7 rfl) e4019 ?_
  refine WQ_iconst (1) (1) dX7_tellSort_41 rfl rfl (fun v4020 hv4020 => ?_)
  refine WQ_iadd dX7_tellSort_42 (by omega) (by omega) (fun v4021 hv4021 => ?_)
  refine WQ_puti dX7_tellSort_43 fX7_65 rfl rfl (lyx_is hy 6 7 rfl) (fun I4022 eI4022 => ?_)
  have hI4022 : XI g n L I4022 := by rw [eI4022]; exact (xi_f hy hI4014 (c := 6) (0) (0) (4) (by decide) (Or.inl (by decide)) (by decide) (by omega) (by omega))
  have e4023 : I4022 (ad g 1) 1 = L := by rw [eI4022, pp_ne _ _ (Or.inl (lyx_ne hy (by decide) (by decide) (by decide)))]; exact e4015
  have e4024 : I4022 (ad g 4) 1 = w3992 := by rw [eI4022, pp_ne _ _ (Or.inl (lyx_ne hy (by decide) (by decide) (by decide)))]; exact e4016
  have e4025 : I4022 (ad g 4) 2 = w3993 := by rw [eI4022, pp_ne _ _ (Or.inl (lyx_ne hy (by decide) (by decide) (by decide)))]; exact e4017
  have e4026 : I4022 (ad g 4) 3 = w3994 := by rw [eI4022, pp_ne _ _ (Or.inl (lyx_ne hy (by decide) (by decide) (by decide)))]; exact e4018
  have e4027 : I4022 (ad g 6) 1 = v4021 := by rw [eI4022, pp_self]
  clear eI4022
  exact WP_vret dX7_tellSort_46 rfl ⟨⟨hI4022, rfl, trivial⟩, rfl⟩
set_option maxHeartbeats 4000000 in
set_option maxRecDepth 100000 in
theorem sx_tellThing_6 {g : GG} {n : Int} {L : Int32} (hy : LyX g)  {I : pI} {J : pJ} {R : pR} (hr : RfX g R) (hI : XI g n L I)   (hb : (I (ad g 4) 1).toInt ≤ 1000 ∧ (I (ad g 4) 2).toInt ≤ 9 ∧ (I (ad g 6) 2).toInt ≤ 2) : SP g mX7_tellThing [.ref (ad g 6), .ref (ad g 4)] I J R (fun r I' J' R' => (XI g n L I' ∧ R' = R ∧ True) ∧ r = none) := by
  refine SP_of ⟨by decide, rfl⟩ (Nat.le_of_ble_eq_true rfl) ?_
  have e4028 : I (ad g 1) 1 = L := hI.2
  have b4029 := BT_get hI.1 1 1 2 (0) (0) (900) (by decide) 1 (by decide) (by decide)
  rw [e4028] at b4029
  obtain ⟨w4030, ew4030⟩ : ∃ w : Int32, I (ad g 4) 1 = w := ⟨_, rfl⟩
  have bw4030 := BT_get hI.1 4 0 5 (0) (0) (1000) (by decide) 1 (by decide) (by decide)
  rw [ew4030] at bw4030
  obtain ⟨w4031, ew4031⟩ : ∃ w : Int32, I (ad g 4) 2 = w := ⟨_, rfl⟩
  have bw4031 := BT_get hI.1 4 0 5 (0) (0) (1000) (by decide) 2 (by decide) (by decide)
  rw [ew4031] at bw4031
  obtain ⟨w4032, ew4032⟩ : ∃ w : Int32, I (ad g 6) 2 = w := ⟨_, rfl⟩
  have bw4032 := BT_get hI.1 6 2 3 (0) (0) (3) (by decide) 2 (by decide) (by decide)
  rw [ew4032] at bw4032
  rw [ew4030, ew4031, ew4032] at hb
  refine WP_aload_n dX7_tellThing_0 rfl ?_
  refine WP_getr dX7_tellThing_1 fX7_39 rfl (lyx_is hy 6 7 rfl) (rfx hr 6 14 16 (by decide)) ?_
  refine WP_aload_n dX7_tellThing_4 rfl ?_
  refine WQ_getim dX7_tellThing_5 fX7_68 rfl (lyx_is hy 6 7 rfl) ew4032 ?_
  refine WP_aload_n dX7_tellThing_8 rfl ?_
  refine WQ_iconst (1) (1) dX7_tellThing_9 rfl rfl (fun v4033 hv4033 => ?_)
  refine WQ_ialdm (z := 1) dX7_tellThing_10 (lyx_is hy 4 13 rfl) (lyx_n hy 4 5 rfl) hv4033 (by decide) ew4030 ?_
  refine WQ_iast dX7_tellThing_11 (lyx_is hy 16 13 rfl) (lyx_n hy 16 3 rfl) (by omega) (by omega) (fun I4035 eI4035 => ?_)
  have hI4035 : XI g n L I4035 := by rw [eI4035]; exact (xi_r hy hI (c := 16) (0) (0) (1000) (by decide) (Or.inl (by decide)) (by decide) (by omega) (by omega))
  have e4036 : I4035 (ad g 1) 1 = L := by rw [eI4035, pp_ne _ _ (Or.inl (lyx_ne hy (by decide) (by decide) (by decide)))]; exact e4028
  have e4037 : I4035 (ad g 4) 1 = w4030 := by rw [eI4035, pp_ne _ _ (Or.inl (lyx_ne hy (by decide) (by decide) (by decide)))]; exact ew4030
  have e4038 : I4035 (ad g 4) 2 = w4031 := by rw [eI4035, pp_ne _ _ (Or.inl (lyx_ne hy (by decide) (by decide) (by decide)))]; exact ew4031
  have e4039 : I4035 (ad g 6) 2 = w4032 := by rw [eI4035, pp_ne _ _ (Or.inl (lyx_ne hy (by decide) (by decide) (by decide)))]; exact ew4032
  clear eI4035
  refine WP_aload_n dX7_tellThing_12 rfl ?_
  refine WP_getr dX7_tellThing_13 fX7_42 rfl (lyx_is hy 6 7 rfl) (rfx hr 6 15 17 (by decide)) ?_
  refine WP_aload_n dX7_tellThing_16 rfl ?_
  refine WQ_getim dX7_tellThing_17 fX7_68 rfl (lyx_is hy 6 7 rfl) e4039 ?_
  refine WP_aload_n dX7_tellThing_20 rfl ?_
  refine WQ_iconst (2) (2) dX7_tellThing_21 rfl rfl (fun v4040 hv4040 => ?_)
  refine WQ_ialdm (z := 2) dX7_tellThing_22 (lyx_is hy 4 13 rfl) (lyx_n hy 4 5 rfl) hv4040 (by decide) e4038 ?_
  refine WQ_iast dX7_tellThing_23 (lyx_is hy 17 13 rfl) (lyx_n hy 17 3 rfl) (by omega) (by omega) (fun I4042 eI4042 => ?_)
  have hI4042 : XI g n L I4042 := by rw [eI4042]; exact (xi_r hy hI4035 (c := 17) (0) (0) (9) (by decide) (Or.inl (by decide)) (by decide) (by omega) (by omega))
  have e4043 : I4042 (ad g 1) 1 = L := by rw [eI4042, pp_ne _ _ (Or.inl (lyx_ne hy (by decide) (by decide) (by decide)))]; exact e4036
  have e4044 : I4042 (ad g 4) 1 = w4030 := by rw [eI4042, pp_ne _ _ (Or.inl (lyx_ne hy (by decide) (by decide) (by decide)))]; exact e4037
  have e4045 : I4042 (ad g 4) 2 = w4031 := by rw [eI4042, pp_ne _ _ (Or.inl (lyx_ne hy (by decide) (by decide) (by decide)))]; exact e4038
  have e4046 : I4042 (ad g 6) 2 = w4032 := by rw [eI4042, pp_ne _ _ (Or.inl (lyx_ne hy (by decide) (by decide) (by decide)))]; exact e4039
  clear eI4042
  refine WP_aload_n dX7_tellThing_24 rfl ?_
  refine WP_dup dX7_tellThing_25 rfl ?_
  refine WQ_getim dX7_tellThing_26 fX7_68 rfl (lyx_is hy 6 7 rfl) e4046 ?_
  refine WQ_iconst (1) (1) dX7_tellThing_29 rfl rfl (fun v4047 hv4047 => ?_)
  refine WQ_iadd dX7_tellThing_30 (by omega) (by omega) (fun v4048 hv4048 => ?_)
  refine WQ_puti dX7_tellThing_31 fX7_68 rfl rfl (lyx_is hy 6 7 rfl) (fun I4049 eI4049 => ?_)
  have hI4049 : XI g n L I4049 := by rw [eI4049]; exact (xi_f hy hI4042 (c := 6) (0) (0) (3) (by decide) (Or.inl (by decide)) (by decide) (by omega) (by omega))
  have e4050 : I4049 (ad g 1) 1 = L := by rw [eI4049, pp_ne _ _ (Or.inl (lyx_ne hy (by decide) (by decide) (by decide)))]; exact e4043
  have e4051 : I4049 (ad g 4) 1 = w4030 := by rw [eI4049, pp_ne _ _ (Or.inl (lyx_ne hy (by decide) (by decide) (by decide)))]; exact e4044
  have e4052 : I4049 (ad g 4) 2 = w4031 := by rw [eI4049, pp_ne _ _ (Or.inl (lyx_ne hy (by decide) (by decide) (by decide)))]; exact e4045
  have e4053 : I4049 (ad g 6) 2 = v4048 := by rw [eI4049, pp_self]
  clear eI4049
  refine WP_aload_n dX7_tellThing_34 rfl ?_
  refine WQ_geti dX7_tellThing_35 fX7_74 rfl (lyx_is hy 6 7 rfl) (BT_get hI4049.1 6 4 5 (-1) (0) (2) (by decide) 4 (by decide) (by decide)) (fun v4054 ev4054 av4054 bv4054 => ?_)
  refine WQ_iconst (-1) (-1) dX7_tellThing_38 rfl rfl (fun v4055 hv4055 => ?_)
  refine WQ_icmp_ne 47 dX7_tellThing_39 rfl (fun c4055 => ?_) (fun c4055 => ?_)
  · exact WP_vret dX7_tellThing_47 rfl ⟨⟨hI4049, rfl, trivial⟩, rfl⟩
  · refine WP_aload_n dX7_tellThing_42 rfl ?_
    refine WQ_iconst (0) (0) dX7_tellThing_43 rfl rfl (fun v4057 hv4057 => ?_)
    refine WQ_puti dX7_tellThing_44 fX7_74 rfl rfl (lyx_is hy 6 7 rfl) (fun I4058 eI4058 => ?_)
    have hI4058 : XI g n L I4058 := by rw [eI4058]; exact (xi_f hy hI4049 (c := 6) (-1) (0) (2) (by decide) (Or.inl (by decide)) (by decide) (by omega) (by omega))
    have e4059 : I4058 (ad g 1) 1 = L := by rw [eI4058, pp_ne _ _ (Or.inl (lyx_ne hy (by decide) (by decide) (by decide)))]; exact e4050
    have e4060 : I4058 (ad g 4) 1 = w4030 := by rw [eI4058, pp_ne _ _ (Or.inl (lyx_ne hy (by decide) (by decide) (by decide)))]; exact e4051
    have e4061 : I4058 (ad g 4) 2 = w4031 := by rw [eI4058, pp_ne _ _ (Or.inl (lyx_ne hy (by decide) (by decide) (by decide)))]; exact e4052
    have e4062 : I4058 (ad g 6) 2 = v4048 := by rw [eI4058, pp_ne _ _ (Or.inr (by decide))]; exact e4053
    have e4063 : I4058 (ad g 6) 4 = v4057 := by rw [eI4058, pp_self]
    clear eI4058
    exact WP_vret dX7_tellThing_47 rfl ⟨⟨hI4058, rfl, trivial⟩, rfl⟩
set_option maxHeartbeats 4000000 in
set_option maxRecDepth 100000 in
theorem sx_tellWant_6 {g : GG} {n : Int} {L : Int32} (hy : LyX g)  {I : pI} {J : pJ} {R : pR} (hr : RfX g R) (hI : XI g n L I)   (hb : (I (ad g 4) 0).toInt ≤ 3 ∧ (I (ad g 4) 1).toInt ≤ 2 ∧ (I (ad g 4) 2).toInt ≤ 6 ∧ (I (ad g 4) 3).toInt ≤ 3 ∧ (I (ad g 4) 4).toInt ≤ 99) : SP g mX7_tellWant [.ref (ad g 6), .ref (ad g 4)] I J R (fun r I' J' R' => (XI g n L I' ∧ R' = R ∧ True) ∧ r = none) := by
  refine SP_of ⟨by decide, rfl⟩ (Nat.le_of_ble_eq_true rfl) ?_
  have e4064 : I (ad g 1) 1 = L := hI.2
  have b4065 := BT_get hI.1 1 1 2 (0) (0) (900) (by decide) 1 (by decide) (by decide)
  rw [e4064] at b4065
  obtain ⟨w4066, ew4066⟩ : ∃ w : Int32, I (ad g 4) 0 = w := ⟨_, rfl⟩
  have bw4066 := BT_get hI.1 4 0 5 (0) (0) (1000) (by decide) 0 (by decide) (by decide)
  rw [ew4066] at bw4066
  obtain ⟨w4067, ew4067⟩ : ∃ w : Int32, I (ad g 4) 1 = w := ⟨_, rfl⟩
  have bw4067 := BT_get hI.1 4 0 5 (0) (0) (1000) (by decide) 1 (by decide) (by decide)
  rw [ew4067] at bw4067
  obtain ⟨w4068, ew4068⟩ : ∃ w : Int32, I (ad g 4) 2 = w := ⟨_, rfl⟩
  have bw4068 := BT_get hI.1 4 0 5 (0) (0) (1000) (by decide) 2 (by decide) (by decide)
  rw [ew4068] at bw4068
  obtain ⟨w4069, ew4069⟩ : ∃ w : Int32, I (ad g 4) 3 = w := ⟨_, rfl⟩
  have bw4069 := BT_get hI.1 4 0 5 (0) (0) (1000) (by decide) 3 (by decide) (by decide)
  rw [ew4069] at bw4069
  obtain ⟨w4070, ew4070⟩ : ∃ w : Int32, I (ad g 4) 4 = w := ⟨_, rfl⟩
  have bw4070 := BT_get hI.1 4 0 5 (0) (0) (1000) (by decide) 4 (by decide) (by decide)
  rw [ew4070] at bw4070
  rw [ew4066, ew4067, ew4068, ew4069, ew4070] at hb
  refine WP_aload_n dX7_tellWant_0 rfl ?_
  refine WQ_iconst (0) (0) dX7_tellWant_1 rfl rfl (fun v4071 hv4071 => ?_)
  refine WQ_ialdm (z := 0) dX7_tellWant_2 (lyx_is hy 4 13 rfl) (lyx_n hy 4 5 rfl) hv4071 (by decide) ew4066 ?_
  refine WQ_bipush (7) (7) dX7_tellWant_3 rfl rfl (fun v4073 hv4073 => ?_)
  refine WQ_imulk (7) dX7_tellWant_5 hv4073 (by omega) (by omega) (fun v4074 hv4074 => ?_)
  refine WP_aload_n dX7_tellWant_6 rfl ?_
  refine WQ_iconst (2) (2) dX7_tellWant_7 rfl rfl (fun v4075 hv4075 => ?_)
  refine WQ_ialdm (z := 2) dX7_tellWant_8 (lyx_is hy 4 13 rfl) (lyx_n hy 4 5 rfl) hv4075 (by decide) ew4068 ?_
  refine WQ_iadd dX7_tellWant_9 (by omega) (by omega) (fun v4077 hv4077 => ?_)
  refine WP_istore_n (ls' := [(0, _), (1, _), (2, _)]) dX7_tellWant_10 (by decide) rfl ?_
  refine WP_aload_n dX7_tellWant_11 rfl ?_
  refine WP_getr dX7_tellWant_12 fX7_30 rfl (lyx_is hy 6 7 rfl) (rfx hr 6 11 13 (by decide)) ?_
  refine WP_iload_n dX7_tellWant_15 rfl ?_
  refine WP_aload_n dX7_tellWant_16 rfl ?_
  refine WQ_iconst (1) (1) dX7_tellWant_17 rfl rfl (fun v4078 hv4078 => ?_)
  refine WQ_ialdm (z := 1) dX7_tellWant_18 (lyx_is hy 4 13 rfl) (lyx_n hy 4 5 rfl) hv4078 (by decide) ew4067 ?_
  refine WQ_iast dX7_tellWant_19 (lyx_is hy 13 13 rfl) (lyx_n hy 13 28 rfl) (by omega) (by omega) (fun I4080 eI4080 => ?_)
  have hI4080 : XI g n L I4080 := by rw [eI4080]; exact (xi_r hy hI (c := 13) (-1) (0) (2) (by decide) (Or.inl (by decide)) (by decide) (by omega) (by omega))
  have e4081 : I4080 (ad g 1) 1 = L := by rw [eI4080, pp_ne _ _ (Or.inl (lyx_ne hy (by decide) (by decide) (by decide)))]; exact e4064
  have e4082 : I4080 (ad g 4) 0 = w4066 := by rw [eI4080, pp_ne _ _ (Or.inl (lyx_ne hy (by decide) (by decide) (by decide)))]; exact ew4066
  have e4083 : I4080 (ad g 4) 1 = w4067 := by rw [eI4080, pp_ne _ _ (Or.inl (lyx_ne hy (by decide) (by decide) (by decide)))]; exact ew4067
  have e4084 : I4080 (ad g 4) 2 = w4068 := by rw [eI4080, pp_ne _ _ (Or.inl (lyx_ne hy (by decide) (by decide) (by decide)))]; exact ew4068
  have e4085 : I4080 (ad g 4) 3 = w4069 := by rw [eI4080, pp_ne _ _ (Or.inl (lyx_ne hy (by decide) (by decide) (by decide)))]; exact ew4069
  have e4086 : I4080 (ad g 4) 4 = w4070 := by rw [eI4080, pp_ne _ _ (Or.inl (lyx_ne hy (by decide) (by decide) (by decide)))]; exact ew4070
  clear eI4080
  refine WP_aload_n dX7_tellWant_20 rfl ?_
  refine WP_getr dX7_tellWant_21 fX7_33 rfl (lyx_is hy 6 7 rfl) (rfx hr 6 12 14 (by decide)) ?_
  refine WP_iload_n dX7_tellWant_24 rfl ?_
  refine WP_aload_n dX7_tellWant_25 rfl ?_
  refine WQ_iconst (3) (3) dX7_tellWant_26 rfl rfl (fun v4087 hv4087 => ?_)
  refine WQ_ialdm (z := 3) dX7_tellWant_27 (lyx_is hy 4 13 rfl) (lyx_n hy 4 5 rfl) hv4087 (by decide) e4085 ?_
  refine WQ_iast dX7_tellWant_28 (lyx_is hy 14 13 rfl) (lyx_n hy 14 28 rfl) (by omega) (by omega) (fun I4089 eI4089 => ?_)
  have hI4089 : XI g n L I4089 := by rw [eI4089]; exact (xi_r hy hI4080 (c := 14) (0) (0) (3) (by decide) (Or.inl (by decide)) (by decide) (by omega) (by omega))
  have e4090 : I4089 (ad g 1) 1 = L := by rw [eI4089, pp_ne _ _ (Or.inl (lyx_ne hy (by decide) (by decide) (by decide)))]; exact e4081
  have e4091 : I4089 (ad g 4) 0 = w4066 := by rw [eI4089, pp_ne _ _ (Or.inl (lyx_ne hy (by decide) (by decide) (by decide)))]; exact e4082
  have e4092 : I4089 (ad g 4) 1 = w4067 := by rw [eI4089, pp_ne _ _ (Or.inl (lyx_ne hy (by decide) (by decide) (by decide)))]; exact e4083
  have e4093 : I4089 (ad g 4) 2 = w4068 := by rw [eI4089, pp_ne _ _ (Or.inl (lyx_ne hy (by decide) (by decide) (by decide)))]; exact e4084
  have e4094 : I4089 (ad g 4) 3 = w4069 := by rw [eI4089, pp_ne _ _ (Or.inl (lyx_ne hy (by decide) (by decide) (by decide)))]; exact e4085
  have e4095 : I4089 (ad g 4) 4 = w4070 := by rw [eI4089, pp_ne _ _ (Or.inl (lyx_ne hy (by decide) (by decide) (by decide)))]; exact e4086
  clear eI4089
  refine WP_aload_n dX7_tellWant_29 rfl ?_
  refine WP_getr dX7_tellWant_30 fX7_36 rfl (lyx_is hy 6 7 rfl) (rfx hr 6 13 15 (by decide)) ?_
  refine WP_iload_n dX7_tellWant_33 rfl ?_
  refine WP_aload_n dX7_tellWant_34 rfl ?_
  refine WQ_iconst (4) (4) dX7_tellWant_35 rfl rfl (fun v4096 hv4096 => ?_)
  refine WQ_ialdm (z := 4) dX7_tellWant_36 (lyx_is hy 4 13 rfl) (lyx_n hy 4 5 rfl) hv4096 (by decide) e4095 ?_
  refine WQ_iast dX7_tellWant_37 (lyx_is hy 15 13 rfl) (lyx_n hy 15 28 rfl) (by omega) (by omega) (fun I4098 eI4098 => ?_)
  have hI4098 : XI g n L I4098 := by rw [eI4098]; exact (xi_r hy hI4089 (c := 15) (0) (0) (99) (by decide) (Or.inl (by decide)) (by decide) (by omega) (by omega))
  have e4099 : I4098 (ad g 1) 1 = L := by rw [eI4098, pp_ne _ _ (Or.inl (lyx_ne hy (by decide) (by decide) (by decide)))]; exact e4090
  have e4100 : I4098 (ad g 4) 0 = w4066 := by rw [eI4098, pp_ne _ _ (Or.inl (lyx_ne hy (by decide) (by decide) (by decide)))]; exact e4091
  have e4101 : I4098 (ad g 4) 1 = w4067 := by rw [eI4098, pp_ne _ _ (Or.inl (lyx_ne hy (by decide) (by decide) (by decide)))]; exact e4092
  have e4102 : I4098 (ad g 4) 2 = w4068 := by rw [eI4098, pp_ne _ _ (Or.inl (lyx_ne hy (by decide) (by decide) (by decide)))]; exact e4093
  have e4103 : I4098 (ad g 4) 3 = w4069 := by rw [eI4098, pp_ne _ _ (Or.inl (lyx_ne hy (by decide) (by decide) (by decide)))]; exact e4094
  have e4104 : I4098 (ad g 4) 4 = w4070 := by rw [eI4098, pp_ne _ _ (Or.inl (lyx_ne hy (by decide) (by decide) (by decide)))]; exact e4095
  clear eI4098
  refine WP_aload_n dX7_tellWant_38 rfl ?_
  refine WQ_bipush (6) (6) dX7_tellWant_39 rfl rfl (fun v4105 hv4105 => ?_)
  refine WP_aload_n dX7_tellWant_41 rfl ?_
  refine WQ_iconst (0) (0) dX7_tellWant_42 rfl rfl (fun v4106 hv4106 => ?_)
  refine WQ_ialdm (z := 0) dX7_tellWant_43 (lyx_is hy 4 13 rfl) (lyx_n hy 4 5 rfl) hv4106 (by decide) e4100 ?_
  refine WP_aload_n dX7_tellWant_44 rfl ?_
  refine WQ_iconst (2) (2) dX7_tellWant_45 rfl rfl (fun v4108 hv4108 => ?_)
  refine WQ_ialdm (z := 2) dX7_tellWant_46 (lyx_is hy 4 13 rfl) (lyx_n hy 4 5 rfl) hv4108 (by decide) e4102 ?_
  refine WP_callV3 (k := 7) dX7_tellWant_47 ⟨⟨⟨by decide, by decide⟩, zX7_hold⟩, lX7_109, by decide, rfl, vX7_hold.1, vX7_hold.2⟩ (lyx_is hy 6 7 rfl) (sx_hold_6 hy hr hI4098 v4105 w4066 w4068 (by omega) (by omega) (by omega) (by omega) ) (Nat.le_of_ble_eq_true rfl) ?_
  intro r I4110 J4111 Ra hq
  obtain ⟨⟨hI4110, ec⟩, rfl⟩ := hq
  rw [ec]
  clear ec Ra
  have e4112 : I4110 (ad g 1) 1 = L := hI4110.2
  have b4113 := BT_get hI4110.1 1 1 2 (0) (0) (900) (by decide) 1 (by decide) (by decide)
  rw [e4112] at b4113
  exact WP_vret dX7_tellWant_50 rfl ⟨⟨hI4110, rfl, trivial⟩, rfl⟩
set_option maxHeartbeats 4000000 in
set_option maxRecDepth 100000 in
theorem sx_tellOn_6_3 {g : GG} {n : Int} {L : Int32} (hy : LyX g)  {I : pI} {J : pJ} {R : pR} (hr : RfX g R) (hI : XI g n L I) (cl : Int32) (cl_lo : 3 ≤ cl.toInt) (cl_hi : cl.toInt ≤ 3) (hb : (I (ad g 4) 0).toInt ≤ 3 ∧ (I (ad g 4) 1).toInt ≤ 6 ∧ (I (ad g 4) 2).toInt ≤ 20) : SP g mX7_tellOn [.ref (ad g 6), .ref (ad g 12), .int cl, .ref (ad g 4)] I J R (fun r I' J' R' => (XI g n L I' ∧ R' = R ∧ True) ∧ r = none) := by
  refine SP_of ⟨by decide, rfl⟩ (Nat.le_of_ble_eq_true rfl) ?_
  have e4114 : I (ad g 1) 1 = L := hI.2
  have b4115 := BT_get hI.1 1 1 2 (0) (0) (900) (by decide) 1 (by decide) (by decide)
  rw [e4114] at b4115
  obtain ⟨w4116, ew4116⟩ : ∃ w : Int32, I (ad g 4) 0 = w := ⟨_, rfl⟩
  have bw4116 := BT_get hI.1 4 0 5 (0) (0) (1000) (by decide) 0 (by decide) (by decide)
  rw [ew4116] at bw4116
  obtain ⟨w4117, ew4117⟩ : ∃ w : Int32, I (ad g 4) 1 = w := ⟨_, rfl⟩
  have bw4117 := BT_get hI.1 4 0 5 (0) (0) (1000) (by decide) 1 (by decide) (by decide)
  rw [ew4117] at bw4117
  obtain ⟨w4118, ew4118⟩ : ∃ w : Int32, I (ad g 4) 2 = w := ⟨_, rfl⟩
  have bw4118 := BT_get hI.1 4 0 5 (0) (0) (1000) (by decide) 2 (by decide) (by decide)
  rw [ew4118] at bw4118
  rw [ew4116, ew4117, ew4118] at hb
  refine WP_aload_n dX7_tellOn_0 rfl ?_
  refine WP_aload_n dX7_tellOn_1 rfl ?_
  refine WQ_iconst (0) (0) dX7_tellOn_2 rfl rfl (fun v4119 hv4119 => ?_)
  refine WQ_ialdm (z := 0) dX7_tellOn_3 (lyx_is hy 4 13 rfl) (lyx_n hy 4 5 rfl) hv4119 (by decide) ew4116 ?_
  refine WQ_bipush (7) (7) dX7_tellOn_4 rfl rfl (fun v4121 hv4121 => ?_)
  refine WQ_imulk (7) dX7_tellOn_6 hv4121 (by omega) (by omega) (fun v4122 hv4122 => ?_)
  refine WP_aload_n dX7_tellOn_7 rfl ?_
  refine WQ_iconst (1) (1) dX7_tellOn_8 rfl rfl (fun v4123 hv4123 => ?_)
  refine WQ_ialdm (z := 1) dX7_tellOn_9 (lyx_is hy 4 13 rfl) (lyx_n hy 4 5 rfl) hv4123 (by decide) ew4117 ?_
  refine WQ_iadd dX7_tellOn_10 (by omega) (by omega) (fun v4125 hv4125 => ?_)
  refine WP_aload_n dX7_tellOn_11 rfl ?_
  refine WQ_iconst (2) (2) dX7_tellOn_12 rfl rfl (fun v4126 hv4126 => ?_)
  refine WQ_ialdm (z := 2) dX7_tellOn_13 (lyx_is hy 4 13 rfl) (lyx_n hy 4 5 rfl) hv4126 (by decide) ew4118 ?_
  refine WQ_iast dX7_tellOn_14 (lyx_is hy 12 13 rfl) (lyx_n hy 12 28 rfl) (by omega) (by omega) (fun I4128 eI4128 => ?_)
  have hI4128 : XI g n L I4128 := by rw [eI4128]; exact (xi_r hy hI (c := 12) (0) (0) (20) (by decide) (Or.inl (by decide)) (by decide) (by omega) (by omega))
  have e4129 : I4128 (ad g 1) 1 = L := by rw [eI4128, pp_ne _ _ (Or.inl (lyx_ne hy (by decide) (by decide) (by decide)))]; exact e4114
  have e4130 : I4128 (ad g 4) 0 = w4116 := by rw [eI4128, pp_ne _ _ (Or.inl (lyx_ne hy (by decide) (by decide) (by decide)))]; exact ew4116
  have e4131 : I4128 (ad g 4) 1 = w4117 := by rw [eI4128, pp_ne _ _ (Or.inl (lyx_ne hy (by decide) (by decide) (by decide)))]; exact ew4117
  have e4132 : I4128 (ad g 4) 2 = w4118 := by rw [eI4128, pp_ne _ _ (Or.inl (lyx_ne hy (by decide) (by decide) (by decide)))]; exact ew4118
  clear eI4128
  refine WP_aload_n dX7_tellOn_15 rfl ?_
  refine WP_iload_n dX7_tellOn_16 rfl ?_
  refine WP_aload_n dX7_tellOn_17 rfl ?_
  refine WQ_iconst (0) (0) dX7_tellOn_18 rfl rfl (fun v4133 hv4133 => ?_)
  refine WQ_ialdm (z := 0) dX7_tellOn_19 (lyx_is hy 4 13 rfl) (lyx_n hy 4 5 rfl) hv4133 (by decide) e4130 ?_
  refine WP_aload_n dX7_tellOn_20 rfl ?_
  refine WQ_iconst (1) (1) dX7_tellOn_21 rfl rfl (fun v4135 hv4135 => ?_)
  refine WQ_ialdm (z := 1) dX7_tellOn_22 (lyx_is hy 4 13 rfl) (lyx_n hy 4 5 rfl) hv4135 (by decide) e4131 ?_
  refine WP_callV3 (k := 7) dX7_tellOn_23 ⟨⟨⟨by decide, by decide⟩, zX7_hold⟩, lX7_109, by decide, rfl, vX7_hold.1, vX7_hold.2⟩ (lyx_is hy 6 7 rfl) (sx_hold_6 hy hr hI4128 cl w4116 w4117 (by omega) (by omega) (by omega) (by omega) ) (Nat.le_of_ble_eq_true rfl) ?_
  intro r I4137 J4138 Ra hq
  obtain ⟨⟨hI4137, ec⟩, rfl⟩ := hq
  rw [ec]
  clear ec Ra
  have e4139 : I4137 (ad g 1) 1 = L := hI4137.2
  have b4140 := BT_get hI4137.1 1 1 2 (0) (0) (900) (by decide) 1 (by decide) (by decide)
  rw [e4139] at b4140
  exact WP_vret dX7_tellOn_26 rfl ⟨⟨hI4137, rfl, trivial⟩, rfl⟩
set_option maxHeartbeats 4000000 in
set_option maxRecDepth 100000 in
theorem sx_tellOn_6_4 {g : GG} {n : Int} {L : Int32} (hy : LyX g)  {I : pI} {J : pJ} {R : pR} (hr : RfX g R) (hI : XI g n L I) (cl : Int32) (cl_lo : 4 ≤ cl.toInt) (cl_hi : cl.toInt ≤ 4) (hb : (I (ad g 4) 0).toInt ≤ 2 ∧ (I (ad g 4) 1).toInt ≤ 6 ∧ (I (ad g 4) 2).toInt ≤ 20) : SP g mX7_tellOn [.ref (ad g 6), .ref (ad g 18), .int cl, .ref (ad g 4)] I J R (fun r I' J' R' => (XI g n L I' ∧ R' = R ∧ True) ∧ r = none) := by
  refine SP_of ⟨by decide, rfl⟩ (Nat.le_of_ble_eq_true rfl) ?_
  have e4141 : I (ad g 1) 1 = L := hI.2
  have b4142 := BT_get hI.1 1 1 2 (0) (0) (900) (by decide) 1 (by decide) (by decide)
  rw [e4141] at b4142
  obtain ⟨w4143, ew4143⟩ : ∃ w : Int32, I (ad g 4) 0 = w := ⟨_, rfl⟩
  have bw4143 := BT_get hI.1 4 0 5 (0) (0) (1000) (by decide) 0 (by decide) (by decide)
  rw [ew4143] at bw4143
  obtain ⟨w4144, ew4144⟩ : ∃ w : Int32, I (ad g 4) 1 = w := ⟨_, rfl⟩
  have bw4144 := BT_get hI.1 4 0 5 (0) (0) (1000) (by decide) 1 (by decide) (by decide)
  rw [ew4144] at bw4144
  obtain ⟨w4145, ew4145⟩ : ∃ w : Int32, I (ad g 4) 2 = w := ⟨_, rfl⟩
  have bw4145 := BT_get hI.1 4 0 5 (0) (0) (1000) (by decide) 2 (by decide) (by decide)
  rw [ew4145] at bw4145
  rw [ew4143, ew4144, ew4145] at hb
  refine WP_aload_n dX7_tellOn_0 rfl ?_
  refine WP_aload_n dX7_tellOn_1 rfl ?_
  refine WQ_iconst (0) (0) dX7_tellOn_2 rfl rfl (fun v4146 hv4146 => ?_)
  refine WQ_ialdm (z := 0) dX7_tellOn_3 (lyx_is hy 4 13 rfl) (lyx_n hy 4 5 rfl) hv4146 (by decide) ew4143 ?_
  refine WQ_bipush (7) (7) dX7_tellOn_4 rfl rfl (fun v4148 hv4148 => ?_)
  refine WQ_imulk (7) dX7_tellOn_6 hv4148 (by omega) (by omega) (fun v4149 hv4149 => ?_)
  refine WP_aload_n dX7_tellOn_7 rfl ?_
  refine WQ_iconst (1) (1) dX7_tellOn_8 rfl rfl (fun v4150 hv4150 => ?_)
  refine WQ_ialdm (z := 1) dX7_tellOn_9 (lyx_is hy 4 13 rfl) (lyx_n hy 4 5 rfl) hv4150 (by decide) ew4144 ?_
  refine WQ_iadd dX7_tellOn_10 (by omega) (by omega) (fun v4152 hv4152 => ?_)
  refine WP_aload_n dX7_tellOn_11 rfl ?_
  refine WQ_iconst (2) (2) dX7_tellOn_12 rfl rfl (fun v4153 hv4153 => ?_)
  refine WQ_ialdm (z := 2) dX7_tellOn_13 (lyx_is hy 4 13 rfl) (lyx_n hy 4 5 rfl) hv4153 (by decide) ew4145 ?_
  refine WQ_iast dX7_tellOn_14 (lyx_is hy 18 13 rfl) (lyx_n hy 18 21 rfl) (by omega) (by omega) (fun I4155 eI4155 => ?_)
  have hI4155 : XI g n L I4155 := by rw [eI4155]; exact (xi_r hy hI (c := 18) (0) (0) (20) (by decide) (Or.inl (by decide)) (by decide) (by omega) (by omega))
  have e4156 : I4155 (ad g 1) 1 = L := by rw [eI4155, pp_ne _ _ (Or.inl (lyx_ne hy (by decide) (by decide) (by decide)))]; exact e4141
  have e4157 : I4155 (ad g 4) 0 = w4143 := by rw [eI4155, pp_ne _ _ (Or.inl (lyx_ne hy (by decide) (by decide) (by decide)))]; exact ew4143
  have e4158 : I4155 (ad g 4) 1 = w4144 := by rw [eI4155, pp_ne _ _ (Or.inl (lyx_ne hy (by decide) (by decide) (by decide)))]; exact ew4144
  have e4159 : I4155 (ad g 4) 2 = w4145 := by rw [eI4155, pp_ne _ _ (Or.inl (lyx_ne hy (by decide) (by decide) (by decide)))]; exact ew4145
  clear eI4155
  refine WP_aload_n dX7_tellOn_15 rfl ?_
  refine WP_iload_n dX7_tellOn_16 rfl ?_
  refine WP_aload_n dX7_tellOn_17 rfl ?_
  refine WQ_iconst (0) (0) dX7_tellOn_18 rfl rfl (fun v4160 hv4160 => ?_)
  refine WQ_ialdm (z := 0) dX7_tellOn_19 (lyx_is hy 4 13 rfl) (lyx_n hy 4 5 rfl) hv4160 (by decide) e4157 ?_
  refine WP_aload_n dX7_tellOn_20 rfl ?_
  refine WQ_iconst (1) (1) dX7_tellOn_21 rfl rfl (fun v4162 hv4162 => ?_)
  refine WQ_ialdm (z := 1) dX7_tellOn_22 (lyx_is hy 4 13 rfl) (lyx_n hy 4 5 rfl) hv4162 (by decide) e4158 ?_
  refine WP_callV3 (k := 7) dX7_tellOn_23 ⟨⟨⟨by decide, by decide⟩, zX7_hold⟩, lX7_109, by decide, rfl, vX7_hold.1, vX7_hold.2⟩ (lyx_is hy 6 7 rfl) (sx_hold_6 hy hr hI4155 cl w4143 w4144 (by omega) (by omega) (by omega) (by omega) ) (Nat.le_of_ble_eq_true rfl) ?_
  intro r I4164 J4165 Ra hq
  obtain ⟨⟨hI4164, ec⟩, rfl⟩ := hq
  rw [ec]
  clear ec Ra
  have e4166 : I4164 (ad g 1) 1 = L := hI4164.2
  have b4167 := BT_get hI4164.1 1 1 2 (0) (0) (900) (by decide) 1 (by decide) (by decide)
  rw [e4166] at b4167
  exact WP_vret dX7_tellOn_26 rfl ⟨⟨hI4164, rfl, trivial⟩, rfl⟩
set_option maxHeartbeats 4000000 in
set_option maxRecDepth 100000 in
theorem sx_tellOn_6_5 {g : GG} {n : Int} {L : Int32} (hy : LyX g)  {I : pI} {J : pJ} {R : pR} (hr : RfX g R) (hI : XI g n L I) (cl : Int32) (cl_lo : 5 ≤ cl.toInt) (cl_hi : cl.toInt ≤ 5) (hb : (I (ad g 4) 0).toInt ≤ 2 ∧ (I (ad g 4) 1).toInt ≤ 6 ∧ (I (ad g 4) 2).toInt ≤ 999) : SP g mX7_tellOn [.ref (ad g 6), .ref (ad g 19), .int cl, .ref (ad g 4)] I J R (fun r I' J' R' => (XI g n L I' ∧ R' = R ∧ True) ∧ r = none) := by
  refine SP_of ⟨by decide, rfl⟩ (Nat.le_of_ble_eq_true rfl) ?_
  have e4168 : I (ad g 1) 1 = L := hI.2
  have b4169 := BT_get hI.1 1 1 2 (0) (0) (900) (by decide) 1 (by decide) (by decide)
  rw [e4168] at b4169
  obtain ⟨w4170, ew4170⟩ : ∃ w : Int32, I (ad g 4) 0 = w := ⟨_, rfl⟩
  have bw4170 := BT_get hI.1 4 0 5 (0) (0) (1000) (by decide) 0 (by decide) (by decide)
  rw [ew4170] at bw4170
  obtain ⟨w4171, ew4171⟩ : ∃ w : Int32, I (ad g 4) 1 = w := ⟨_, rfl⟩
  have bw4171 := BT_get hI.1 4 0 5 (0) (0) (1000) (by decide) 1 (by decide) (by decide)
  rw [ew4171] at bw4171
  obtain ⟨w4172, ew4172⟩ : ∃ w : Int32, I (ad g 4) 2 = w := ⟨_, rfl⟩
  have bw4172 := BT_get hI.1 4 0 5 (0) (0) (1000) (by decide) 2 (by decide) (by decide)
  rw [ew4172] at bw4172
  rw [ew4170, ew4171, ew4172] at hb
  refine WP_aload_n dX7_tellOn_0 rfl ?_
  refine WP_aload_n dX7_tellOn_1 rfl ?_
  refine WQ_iconst (0) (0) dX7_tellOn_2 rfl rfl (fun v4173 hv4173 => ?_)
  refine WQ_ialdm (z := 0) dX7_tellOn_3 (lyx_is hy 4 13 rfl) (lyx_n hy 4 5 rfl) hv4173 (by decide) ew4170 ?_
  refine WQ_bipush (7) (7) dX7_tellOn_4 rfl rfl (fun v4175 hv4175 => ?_)
  refine WQ_imulk (7) dX7_tellOn_6 hv4175 (by omega) (by omega) (fun v4176 hv4176 => ?_)
  refine WP_aload_n dX7_tellOn_7 rfl ?_
  refine WQ_iconst (1) (1) dX7_tellOn_8 rfl rfl (fun v4177 hv4177 => ?_)
  refine WQ_ialdm (z := 1) dX7_tellOn_9 (lyx_is hy 4 13 rfl) (lyx_n hy 4 5 rfl) hv4177 (by decide) ew4171 ?_
  refine WQ_iadd dX7_tellOn_10 (by omega) (by omega) (fun v4179 hv4179 => ?_)
  refine WP_aload_n dX7_tellOn_11 rfl ?_
  refine WQ_iconst (2) (2) dX7_tellOn_12 rfl rfl (fun v4180 hv4180 => ?_)
  refine WQ_ialdm (z := 2) dX7_tellOn_13 (lyx_is hy 4 13 rfl) (lyx_n hy 4 5 rfl) hv4180 (by decide) ew4172 ?_
  refine WQ_iast dX7_tellOn_14 (lyx_is hy 19 13 rfl) (lyx_n hy 19 21 rfl) (by omega) (by omega) (fun I4182 eI4182 => ?_)
  have hI4182 : XI g n L I4182 := by rw [eI4182]; exact (xi_r hy hI (c := 19) (-1) (0) (999) (by decide) (Or.inl (by decide)) (by decide) (by omega) (by omega))
  have e4183 : I4182 (ad g 1) 1 = L := by rw [eI4182, pp_ne _ _ (Or.inl (lyx_ne hy (by decide) (by decide) (by decide)))]; exact e4168
  have e4184 : I4182 (ad g 4) 0 = w4170 := by rw [eI4182, pp_ne _ _ (Or.inl (lyx_ne hy (by decide) (by decide) (by decide)))]; exact ew4170
  have e4185 : I4182 (ad g 4) 1 = w4171 := by rw [eI4182, pp_ne _ _ (Or.inl (lyx_ne hy (by decide) (by decide) (by decide)))]; exact ew4171
  have e4186 : I4182 (ad g 4) 2 = w4172 := by rw [eI4182, pp_ne _ _ (Or.inl (lyx_ne hy (by decide) (by decide) (by decide)))]; exact ew4172
  clear eI4182
  refine WP_aload_n dX7_tellOn_15 rfl ?_
  refine WP_iload_n dX7_tellOn_16 rfl ?_
  refine WP_aload_n dX7_tellOn_17 rfl ?_
  refine WQ_iconst (0) (0) dX7_tellOn_18 rfl rfl (fun v4187 hv4187 => ?_)
  refine WQ_ialdm (z := 0) dX7_tellOn_19 (lyx_is hy 4 13 rfl) (lyx_n hy 4 5 rfl) hv4187 (by decide) e4184 ?_
  refine WP_aload_n dX7_tellOn_20 rfl ?_
  refine WQ_iconst (1) (1) dX7_tellOn_21 rfl rfl (fun v4189 hv4189 => ?_)
  refine WQ_ialdm (z := 1) dX7_tellOn_22 (lyx_is hy 4 13 rfl) (lyx_n hy 4 5 rfl) hv4189 (by decide) e4185 ?_
  refine WP_callV3 (k := 7) dX7_tellOn_23 ⟨⟨⟨by decide, by decide⟩, zX7_hold⟩, lX7_109, by decide, rfl, vX7_hold.1, vX7_hold.2⟩ (lyx_is hy 6 7 rfl) (sx_hold_6 hy hr hI4182 cl w4170 w4171 (by omega) (by omega) (by omega) (by omega) ) (Nat.le_of_ble_eq_true rfl) ?_
  intro r I4191 J4192 Ra hq
  obtain ⟨⟨hI4191, ec⟩, rfl⟩ := hq
  rw [ec]
  clear ec Ra
  have e4193 : I4191 (ad g 1) 1 = L := hI4191.2
  have b4194 := BT_get hI4191.1 1 1 2 (0) (0) (900) (by decide) 1 (by decide) (by decide)
  rw [e4193] at b4194
  exact WP_vret dX7_tellOn_26 rfl ⟨⟨hI4191, rfl, trivial⟩, rfl⟩
set_option maxHeartbeats 4000000 in
set_option maxRecDepth 100000 in
theorem sx_tell_6_0 {g : GG} {n : Int} {L : Int32} (hy : LyX g)  {I : pI} {J : pJ} {R : pR} (hr : RfX g R) (hI : XI g n L I) (cl : Int32) (cl_lo : 0 ≤ cl.toInt) (cl_hi : cl.toInt ≤ 0) (hb : (I (ad g 4) 0).toInt ≤ 6 ∧ (I (ad g 4) 1).toInt ≤ 900) : SP g mX7_tell [.ref (ad g 6), .int cl, .ref (ad g 4)] I J R (fun r I' J' R' => (XI g n L I' ∧ R' = R ∧ True) ∧ r = none) := by
  refine SP_of ⟨by decide, rfl⟩ (Nat.le_of_ble_eq_true rfl) ?_
  have e4195 : I (ad g 1) 1 = L := hI.2
  have b4196 := BT_get hI.1 1 1 2 (0) (0) (900) (by decide) 1 (by decide) (by decide)
  rw [e4195] at b4196
  obtain ⟨w4197, ew4197⟩ : ∃ w : Int32, I (ad g 4) 0 = w := ⟨_, rfl⟩
  have bw4197 := BT_get hI.1 4 0 5 (0) (0) (1000) (by decide) 0 (by decide) (by decide)
  rw [ew4197] at bw4197
  obtain ⟨w4198, ew4198⟩ : ∃ w : Int32, I (ad g 4) 1 = w := ⟨_, rfl⟩
  have bw4198 := BT_get hI.1 4 0 5 (0) (0) (1000) (by decide) 1 (by decide) (by decide)
  rw [ew4198] at bw4198
  rw [ew4197, ew4198] at hb
  refine WP_aload_n dX7_tell_0 rfl ?_
  refine WP_dup dX7_tell_1 rfl ?_
  refine WQ_getiu dX7_tell_2 fX7_61 rfl (lyx_is hy 6 7 rfl) (fun v4199 ev4199 => ?_)
  refine WQ_iconst (1) (1) dX7_tell_5 rfl rfl (fun v4200 hv4200 => ?_)
  refine WQ_iaddu dX7_tell_6 (fun v4201 => ?_)
  refine WQ_puti dX7_tell_7 fX7_61 rfl rfl (lyx_is hy 6 7 rfl) (fun I4202 eI4202 => ?_)
  have hI4202 : XI g n L I4202 := by rw [eI4202]; exact (xi_f0 hy hI (c := 6) (by decide) (Or.inl (by decide)) (by decide))
  have e4203 : I4202 (ad g 1) 1 = L := by rw [eI4202, pp_ne _ _ (Or.inl (lyx_ne hy (by decide) (by decide) (by decide)))]; exact e4195
  have e4204 : I4202 (ad g 4) 0 = w4197 := by rw [eI4202, pp_ne _ _ (Or.inl (lyx_ne hy (by decide) (by decide) (by decide)))]; exact ew4197
  have e4205 : I4202 (ad g 4) 1 = w4198 := by rw [eI4202, pp_ne _ _ (Or.inl (lyx_ne hy (by decide) (by decide) (by decide)))]; exact ew4198
  have e4206 : I4202 (ad g 6) 0 = v4201 := by rw [eI4202, pp_self]
  clear eI4202
  refine WP_iload_n dX7_tell_10 rfl ?_
  refine WP_tab 178 dX7_tell_11 rfl rfl (fun c4206 => ?_) (fun j off c4206 hj => ?_) (by decide)
  · exact False.elim (by omega)
  · have hlt : j < 9 := by have := (Array.getElem?_eq_some_iff.mp hj).1; simpa using this
    have hcs : (j = 0 ∧ off = 49) ∨ (j = 1 ∧ off = 62) ∨ (j = 2 ∧ off = 70) ∨ (j = 3 ∧ off = 78) ∨ (j = 4 ∧ off = 91) ∨ (j = 5 ∧ off = 104) ∨ (j = 6 ∧ off = 117) ∨ (j = 7 ∧ off = 125) ∨ (j = 8 ∧ off = 149) := by
      match j, hlt, hj with
      | 0, _, hj => exact Or.inl ⟨rfl, (Option.some.inj hj).symm⟩
      | 1, _, hj => exact Or.inr (Or.inl ⟨rfl, (Option.some.inj hj).symm⟩)
      | 2, _, hj => exact Or.inr (Or.inr (Or.inl ⟨rfl, (Option.some.inj hj).symm⟩))
      | 3, _, hj => exact Or.inr (Or.inr (Or.inr (Or.inl ⟨rfl, (Option.some.inj hj).symm⟩)))
      | 4, _, hj => exact Or.inr (Or.inr (Or.inr (Or.inr (Or.inl ⟨rfl, (Option.some.inj hj).symm⟩))))
      | 5, _, hj => exact Or.inr (Or.inr (Or.inr (Or.inr (Or.inr (Or.inl ⟨rfl, (Option.some.inj hj).symm⟩)))))
      | 6, _, hj => exact Or.inr (Or.inr (Or.inr (Or.inr (Or.inr (Or.inr (Or.inl ⟨rfl, (Option.some.inj hj).symm⟩))))))
      | 7, _, hj => exact Or.inr (Or.inr (Or.inr (Or.inr (Or.inr (Or.inr (Or.inr (Or.inl ⟨rfl, (Option.some.inj hj).symm⟩)))))))
      | 8, _, hj => exact Or.inr (Or.inr (Or.inr (Or.inr (Or.inr (Or.inr (Or.inr (Or.inr (⟨rfl, (Option.some.inj hj).symm⟩))))))))
    clear hj hlt
    rcases hcs with ⟨rfl, rfl⟩ | ⟨rfl, rfl⟩ | ⟨rfl, rfl⟩ | ⟨rfl, rfl⟩ | ⟨rfl, rfl⟩ | ⟨rfl, rfl⟩ | ⟨rfl, rfl⟩ | ⟨rfl, rfl⟩ | ⟨rfl, rfl⟩
    · show WP _ _ 60 _ _ _ _ _ _
      refine WP_aload_n dX7_tell_60 rfl ?_
      refine WP_aload_n dX7_tell_61 rfl ?_
      refine WQ_iconst (0) (0) dX7_tell_62 rfl rfl (fun v4208 hv4208 => ?_)
      refine WQ_ialdm (z := 0) dX7_tell_63 (lyx_is hy 4 13 rfl) (lyx_n hy 4 5 rfl) hv4208 (by decide) e4204 ?_
      refine WP_aload_n dX7_tell_64 rfl ?_
      refine WQ_iconst (1) (1) dX7_tell_65 rfl rfl (fun v4210 hv4210 => ?_)
      refine WQ_ialdm (z := 1) dX7_tell_66 (lyx_is hy 4 13 rfl) (lyx_n hy 4 5 rfl) hv4210 (by decide) e4205 ?_
      refine WP_callV2 (k := 7) dX7_tell_67 ⟨⟨⟨by decide, by decide⟩, zX7_tellLoss⟩, lX7_91, by decide, rfl, vX7_tellLoss.1, vX7_tellLoss.2⟩ (lyx_is hy 6 7 rfl) (sx_tellLoss_6 hy hr hI4202 w4197 w4198 (by omega) (by omega) (by omega) (by omega)) (Nat.le_of_ble_eq_true rfl) ?_
      intro r I4212 J4213 Ra hq
      obtain ⟨⟨hI4212, ec⟩, rfl⟩ := hq
      rw [ec]
      clear ec Ra
      have e4214 : I4212 (ad g 1) 1 = L := hI4212.2
      have b4215 := BT_get hI4212.1 1 1 2 (0) (0) (900) (by decide) 1 (by decide) (by decide)
      rw [e4214] at b4215
      refine WP_goto 193 dX7_tell_70 rfl ?_
      exact WP_vret dX7_tell_193 rfl ⟨⟨hI4212, rfl, trivial⟩, rfl⟩
    · exact False.elim (by omega)
    · exact False.elim (by omega)
    · exact False.elim (by omega)
    · exact False.elim (by omega)
    · exact False.elim (by omega)
    · exact False.elim (by omega)
    · exact False.elim (by omega)
    · exact False.elim (by omega)
set_option maxHeartbeats 4000000 in
set_option maxRecDepth 100000 in
theorem sx_tell_6_1 {g : GG} {n : Int} {L : Int32} (hy : LyX g)  {I : pI} {J : pJ} {R : pR} (hr : RfX g R) (hI : XI g n L I) (cl : Int32) (cl_lo : 1 ≤ cl.toInt) (cl_hi : cl.toInt ≤ 1) (hb : (I (ad g 4) 1).toInt ≤ 99 ∧ (I (ad g 4) 2).toInt ≤ 1000 ∧ (I (ad g 4) 3).toInt ≤ 60 ∧ (I (ad g 6) 1).toInt ≤ 3) : SP g mX7_tell [.ref (ad g 6), .int cl, .ref (ad g 4)] I J R (fun r I' J' R' => (XI g n L I' ∧ R' = R ∧ True) ∧ r = none) := by
  refine SP_of ⟨by decide, rfl⟩ (Nat.le_of_ble_eq_true rfl) ?_
  have e4216 : I (ad g 1) 1 = L := hI.2
  have b4217 := BT_get hI.1 1 1 2 (0) (0) (900) (by decide) 1 (by decide) (by decide)
  rw [e4216] at b4217
  obtain ⟨w4218, ew4218⟩ : ∃ w : Int32, I (ad g 4) 1 = w := ⟨_, rfl⟩
  have bw4218 := BT_get hI.1 4 0 5 (0) (0) (1000) (by decide) 1 (by decide) (by decide)
  rw [ew4218] at bw4218
  obtain ⟨w4219, ew4219⟩ : ∃ w : Int32, I (ad g 4) 2 = w := ⟨_, rfl⟩
  have bw4219 := BT_get hI.1 4 0 5 (0) (0) (1000) (by decide) 2 (by decide) (by decide)
  rw [ew4219] at bw4219
  obtain ⟨w4220, ew4220⟩ : ∃ w : Int32, I (ad g 4) 3 = w := ⟨_, rfl⟩
  have bw4220 := BT_get hI.1 4 0 5 (0) (0) (1000) (by decide) 3 (by decide) (by decide)
  rw [ew4220] at bw4220
  obtain ⟨w4221, ew4221⟩ : ∃ w : Int32, I (ad g 6) 1 = w := ⟨_, rfl⟩
  have bw4221 := BT_get hI.1 6 1 2 (0) (0) (4) (by decide) 1 (by decide) (by decide)
  rw [ew4221] at bw4221
  rw [ew4218, ew4219, ew4220, ew4221] at hb
  refine WP_aload_n dX7_tell_0 rfl ?_
  refine WP_dup dX7_tell_1 rfl ?_
  refine WQ_getiu dX7_tell_2 fX7_61 rfl (lyx_is hy 6 7 rfl) (fun v4222 ev4222 => ?_)
  refine WQ_iconst (1) (1) dX7_tell_5 rfl rfl (fun v4223 hv4223 => ?_)
  refine WQ_iaddu dX7_tell_6 (fun v4224 => ?_)
  refine WQ_puti dX7_tell_7 fX7_61 rfl rfl (lyx_is hy 6 7 rfl) (fun I4225 eI4225 => ?_)
  have hI4225 : XI g n L I4225 := by rw [eI4225]; exact (xi_f0 hy hI (c := 6) (by decide) (Or.inl (by decide)) (by decide))
  have e4226 : I4225 (ad g 1) 1 = L := by rw [eI4225, pp_ne _ _ (Or.inl (lyx_ne hy (by decide) (by decide) (by decide)))]; exact e4216
  have e4227 : I4225 (ad g 4) 1 = w4218 := by rw [eI4225, pp_ne _ _ (Or.inl (lyx_ne hy (by decide) (by decide) (by decide)))]; exact ew4218
  have e4228 : I4225 (ad g 4) 2 = w4219 := by rw [eI4225, pp_ne _ _ (Or.inl (lyx_ne hy (by decide) (by decide) (by decide)))]; exact ew4219
  have e4229 : I4225 (ad g 4) 3 = w4220 := by rw [eI4225, pp_ne _ _ (Or.inl (lyx_ne hy (by decide) (by decide) (by decide)))]; exact ew4220
  have e4230 : I4225 (ad g 6) 1 = w4221 := by rw [eI4225, pp_ne _ _ (Or.inr (by decide))]; exact ew4221
  have e4231 : I4225 (ad g 6) 0 = v4224 := by rw [eI4225, pp_self]
  clear eI4225
  refine WP_iload_n dX7_tell_10 rfl ?_
  refine WP_tab 178 dX7_tell_11 rfl rfl (fun c4231 => ?_) (fun j off c4231 hj => ?_) (by decide)
  · exact False.elim (by omega)
  · have hlt : j < 9 := by have := (Array.getElem?_eq_some_iff.mp hj).1; simpa using this
    have hcs : (j = 0 ∧ off = 49) ∨ (j = 1 ∧ off = 62) ∨ (j = 2 ∧ off = 70) ∨ (j = 3 ∧ off = 78) ∨ (j = 4 ∧ off = 91) ∨ (j = 5 ∧ off = 104) ∨ (j = 6 ∧ off = 117) ∨ (j = 7 ∧ off = 125) ∨ (j = 8 ∧ off = 149) := by
      match j, hlt, hj with
      | 0, _, hj => exact Or.inl ⟨rfl, (Option.some.inj hj).symm⟩
      | 1, _, hj => exact Or.inr (Or.inl ⟨rfl, (Option.some.inj hj).symm⟩)
      | 2, _, hj => exact Or.inr (Or.inr (Or.inl ⟨rfl, (Option.some.inj hj).symm⟩))
      | 3, _, hj => exact Or.inr (Or.inr (Or.inr (Or.inl ⟨rfl, (Option.some.inj hj).symm⟩)))
      | 4, _, hj => exact Or.inr (Or.inr (Or.inr (Or.inr (Or.inl ⟨rfl, (Option.some.inj hj).symm⟩))))
      | 5, _, hj => exact Or.inr (Or.inr (Or.inr (Or.inr (Or.inr (Or.inl ⟨rfl, (Option.some.inj hj).symm⟩)))))
      | 6, _, hj => exact Or.inr (Or.inr (Or.inr (Or.inr (Or.inr (Or.inr (Or.inl ⟨rfl, (Option.some.inj hj).symm⟩))))))
      | 7, _, hj => exact Or.inr (Or.inr (Or.inr (Or.inr (Or.inr (Or.inr (Or.inr (Or.inl ⟨rfl, (Option.some.inj hj).symm⟩)))))))
      | 8, _, hj => exact Or.inr (Or.inr (Or.inr (Or.inr (Or.inr (Or.inr (Or.inr (Or.inr (⟨rfl, (Option.some.inj hj).symm⟩))))))))
    clear hj hlt
    rcases hcs with ⟨rfl, rfl⟩ | ⟨rfl, rfl⟩ | ⟨rfl, rfl⟩ | ⟨rfl, rfl⟩ | ⟨rfl, rfl⟩ | ⟨rfl, rfl⟩ | ⟨rfl, rfl⟩ | ⟨rfl, rfl⟩ | ⟨rfl, rfl⟩
    · exact False.elim (by omega)
    · show WP _ _ 73 _ _ _ _ _ _
      refine WP_aload_n dX7_tell_73 rfl ?_
      refine WP_aload_n dX7_tell_74 rfl ?_
      refine WP_callV1 (k := 7) dX7_tell_75 ⟨⟨⟨by decide, by decide⟩, zX7_tellSort⟩, lX7_95, by decide, rfl, vX7_tellSort.1, vX7_tellSort.2⟩ (lyx_is hy 6 7 rfl) (sx_tellSort_6 hy hr hI4225   (by rw [e4227, e4228, e4229, e4230]; omega)) (Nat.le_of_ble_eq_true rfl) ?_
      intro r I4233 J4234 Ra hq
      obtain ⟨⟨hI4233, ec, pI4233⟩, rfl⟩ := hq
      rw [ec]
      clear ec Ra
      have e4235 : I4233 (ad g 1) 1 = L := hI4233.2
      have b4236 := BT_get hI4233.1 1 1 2 (0) (0) (900) (by decide) 1 (by decide) (by decide)
      rw [e4235] at b4236
      refine WP_goto 193 dX7_tell_78 rfl ?_
      exact WP_vret dX7_tell_193 rfl ⟨⟨hI4233, rfl, trivial⟩, rfl⟩
    · exact False.elim (by omega)
    · exact False.elim (by omega)
    · exact False.elim (by omega)
    · exact False.elim (by omega)
    · exact False.elim (by omega)
    · exact False.elim (by omega)
    · exact False.elim (by omega)
set_option maxHeartbeats 4000000 in
set_option maxRecDepth 100000 in
theorem sx_tell_6_2 {g : GG} {n : Int} {L : Int32} (hy : LyX g)  {I : pI} {J : pJ} {R : pR} (hr : RfX g R) (hI : XI g n L I) (cl : Int32) (cl_lo : 2 ≤ cl.toInt) (cl_hi : cl.toInt ≤ 2) (hb : (I (ad g 4) 1).toInt ≤ 1000 ∧ (I (ad g 4) 2).toInt ≤ 9 ∧ (I (ad g 6) 2).toInt ≤ 2) : SP g mX7_tell [.ref (ad g 6), .int cl, .ref (ad g 4)] I J R (fun r I' J' R' => (XI g n L I' ∧ R' = R ∧ True) ∧ r = none) := by
  refine SP_of ⟨by decide, rfl⟩ (Nat.le_of_ble_eq_true rfl) ?_
  have e4237 : I (ad g 1) 1 = L := hI.2
  have b4238 := BT_get hI.1 1 1 2 (0) (0) (900) (by decide) 1 (by decide) (by decide)
  rw [e4237] at b4238
  obtain ⟨w4239, ew4239⟩ : ∃ w : Int32, I (ad g 4) 1 = w := ⟨_, rfl⟩
  have bw4239 := BT_get hI.1 4 0 5 (0) (0) (1000) (by decide) 1 (by decide) (by decide)
  rw [ew4239] at bw4239
  obtain ⟨w4240, ew4240⟩ : ∃ w : Int32, I (ad g 4) 2 = w := ⟨_, rfl⟩
  have bw4240 := BT_get hI.1 4 0 5 (0) (0) (1000) (by decide) 2 (by decide) (by decide)
  rw [ew4240] at bw4240
  obtain ⟨w4241, ew4241⟩ : ∃ w : Int32, I (ad g 6) 2 = w := ⟨_, rfl⟩
  have bw4241 := BT_get hI.1 6 2 3 (0) (0) (3) (by decide) 2 (by decide) (by decide)
  rw [ew4241] at bw4241
  rw [ew4239, ew4240, ew4241] at hb
  refine WP_aload_n dX7_tell_0 rfl ?_
  refine WP_dup dX7_tell_1 rfl ?_
  refine WQ_getiu dX7_tell_2 fX7_61 rfl (lyx_is hy 6 7 rfl) (fun v4242 ev4242 => ?_)
  refine WQ_iconst (1) (1) dX7_tell_5 rfl rfl (fun v4243 hv4243 => ?_)
  refine WQ_iaddu dX7_tell_6 (fun v4244 => ?_)
  refine WQ_puti dX7_tell_7 fX7_61 rfl rfl (lyx_is hy 6 7 rfl) (fun I4245 eI4245 => ?_)
  have hI4245 : XI g n L I4245 := by rw [eI4245]; exact (xi_f0 hy hI (c := 6) (by decide) (Or.inl (by decide)) (by decide))
  have e4246 : I4245 (ad g 1) 1 = L := by rw [eI4245, pp_ne _ _ (Or.inl (lyx_ne hy (by decide) (by decide) (by decide)))]; exact e4237
  have e4247 : I4245 (ad g 4) 1 = w4239 := by rw [eI4245, pp_ne _ _ (Or.inl (lyx_ne hy (by decide) (by decide) (by decide)))]; exact ew4239
  have e4248 : I4245 (ad g 4) 2 = w4240 := by rw [eI4245, pp_ne _ _ (Or.inl (lyx_ne hy (by decide) (by decide) (by decide)))]; exact ew4240
  have e4249 : I4245 (ad g 6) 2 = w4241 := by rw [eI4245, pp_ne _ _ (Or.inr (by decide))]; exact ew4241
  have e4250 : I4245 (ad g 6) 0 = v4244 := by rw [eI4245, pp_self]
  clear eI4245
  refine WP_iload_n dX7_tell_10 rfl ?_
  refine WP_tab 178 dX7_tell_11 rfl rfl (fun c4250 => ?_) (fun j off c4250 hj => ?_) (by decide)
  · exact False.elim (by omega)
  · have hlt : j < 9 := by have := (Array.getElem?_eq_some_iff.mp hj).1; simpa using this
    have hcs : (j = 0 ∧ off = 49) ∨ (j = 1 ∧ off = 62) ∨ (j = 2 ∧ off = 70) ∨ (j = 3 ∧ off = 78) ∨ (j = 4 ∧ off = 91) ∨ (j = 5 ∧ off = 104) ∨ (j = 6 ∧ off = 117) ∨ (j = 7 ∧ off = 125) ∨ (j = 8 ∧ off = 149) := by
      match j, hlt, hj with
      | 0, _, hj => exact Or.inl ⟨rfl, (Option.some.inj hj).symm⟩
      | 1, _, hj => exact Or.inr (Or.inl ⟨rfl, (Option.some.inj hj).symm⟩)
      | 2, _, hj => exact Or.inr (Or.inr (Or.inl ⟨rfl, (Option.some.inj hj).symm⟩))
      | 3, _, hj => exact Or.inr (Or.inr (Or.inr (Or.inl ⟨rfl, (Option.some.inj hj).symm⟩)))
      | 4, _, hj => exact Or.inr (Or.inr (Or.inr (Or.inr (Or.inl ⟨rfl, (Option.some.inj hj).symm⟩))))
      | 5, _, hj => exact Or.inr (Or.inr (Or.inr (Or.inr (Or.inr (Or.inl ⟨rfl, (Option.some.inj hj).symm⟩)))))
      | 6, _, hj => exact Or.inr (Or.inr (Or.inr (Or.inr (Or.inr (Or.inr (Or.inl ⟨rfl, (Option.some.inj hj).symm⟩))))))
      | 7, _, hj => exact Or.inr (Or.inr (Or.inr (Or.inr (Or.inr (Or.inr (Or.inr (Or.inl ⟨rfl, (Option.some.inj hj).symm⟩)))))))
      | 8, _, hj => exact Or.inr (Or.inr (Or.inr (Or.inr (Or.inr (Or.inr (Or.inr (Or.inr (⟨rfl, (Option.some.inj hj).symm⟩))))))))
    clear hj hlt
    rcases hcs with ⟨rfl, rfl⟩ | ⟨rfl, rfl⟩ | ⟨rfl, rfl⟩ | ⟨rfl, rfl⟩ | ⟨rfl, rfl⟩ | ⟨rfl, rfl⟩ | ⟨rfl, rfl⟩ | ⟨rfl, rfl⟩ | ⟨rfl, rfl⟩
    · exact False.elim (by omega)
    · exact False.elim (by omega)
    · show WP _ _ 81 _ _ _ _ _ _
      refine WP_aload_n dX7_tell_81 rfl ?_
      refine WP_aload_n dX7_tell_82 rfl ?_
      refine WP_callV1 (k := 7) dX7_tell_83 ⟨⟨⟨by decide, by decide⟩, zX7_tellThing⟩, lX7_99, by decide, rfl, vX7_tellThing.1, vX7_tellThing.2⟩ (lyx_is hy 6 7 rfl) (sx_tellThing_6 hy hr hI4245   (by rw [e4247, e4248, e4249]; omega)) (Nat.le_of_ble_eq_true rfl) ?_
      intro r I4252 J4253 Ra hq
      obtain ⟨⟨hI4252, ec, pI4252⟩, rfl⟩ := hq
      rw [ec]
      clear ec Ra
      have e4254 : I4252 (ad g 1) 1 = L := hI4252.2
      have b4255 := BT_get hI4252.1 1 1 2 (0) (0) (900) (by decide) 1 (by decide) (by decide)
      rw [e4254] at b4255
      refine WP_goto 193 dX7_tell_86 rfl ?_
      exact WP_vret dX7_tell_193 rfl ⟨⟨hI4252, rfl, trivial⟩, rfl⟩
    · exact False.elim (by omega)
    · exact False.elim (by omega)
    · exact False.elim (by omega)
    · exact False.elim (by omega)
    · exact False.elim (by omega)
    · exact False.elim (by omega)
set_option maxHeartbeats 4000000 in
set_option maxRecDepth 100000 in
theorem sx_tell_6_3 {g : GG} {n : Int} {L : Int32} (hy : LyX g)  {I : pI} {J : pJ} {R : pR} (hr : RfX g R) (hI : XI g n L I) (cl : Int32) (cl_lo : 3 ≤ cl.toInt) (cl_hi : cl.toInt ≤ 3) (hb : (I (ad g 4) 0).toInt ≤ 3 ∧ (I (ad g 4) 1).toInt ≤ 6 ∧ (I (ad g 4) 2).toInt ≤ 20) : SP g mX7_tell [.ref (ad g 6), .int cl, .ref (ad g 4)] I J R (fun r I' J' R' => (XI g n L I' ∧ R' = R ∧ True) ∧ r = none) := by
  refine SP_of ⟨by decide, rfl⟩ (Nat.le_of_ble_eq_true rfl) ?_
  have e4256 : I (ad g 1) 1 = L := hI.2
  have b4257 := BT_get hI.1 1 1 2 (0) (0) (900) (by decide) 1 (by decide) (by decide)
  rw [e4256] at b4257
  obtain ⟨w4258, ew4258⟩ : ∃ w : Int32, I (ad g 4) 0 = w := ⟨_, rfl⟩
  have bw4258 := BT_get hI.1 4 0 5 (0) (0) (1000) (by decide) 0 (by decide) (by decide)
  rw [ew4258] at bw4258
  obtain ⟨w4259, ew4259⟩ : ∃ w : Int32, I (ad g 4) 1 = w := ⟨_, rfl⟩
  have bw4259 := BT_get hI.1 4 0 5 (0) (0) (1000) (by decide) 1 (by decide) (by decide)
  rw [ew4259] at bw4259
  obtain ⟨w4260, ew4260⟩ : ∃ w : Int32, I (ad g 4) 2 = w := ⟨_, rfl⟩
  have bw4260 := BT_get hI.1 4 0 5 (0) (0) (1000) (by decide) 2 (by decide) (by decide)
  rw [ew4260] at bw4260
  rw [ew4258, ew4259, ew4260] at hb
  refine WP_aload_n dX7_tell_0 rfl ?_
  refine WP_dup dX7_tell_1 rfl ?_
  refine WQ_getiu dX7_tell_2 fX7_61 rfl (lyx_is hy 6 7 rfl) (fun v4261 ev4261 => ?_)
  refine WQ_iconst (1) (1) dX7_tell_5 rfl rfl (fun v4262 hv4262 => ?_)
  refine WQ_iaddu dX7_tell_6 (fun v4263 => ?_)
  refine WQ_puti dX7_tell_7 fX7_61 rfl rfl (lyx_is hy 6 7 rfl) (fun I4264 eI4264 => ?_)
  have hI4264 : XI g n L I4264 := by rw [eI4264]; exact (xi_f0 hy hI (c := 6) (by decide) (Or.inl (by decide)) (by decide))
  have e4265 : I4264 (ad g 1) 1 = L := by rw [eI4264, pp_ne _ _ (Or.inl (lyx_ne hy (by decide) (by decide) (by decide)))]; exact e4256
  have e4266 : I4264 (ad g 4) 0 = w4258 := by rw [eI4264, pp_ne _ _ (Or.inl (lyx_ne hy (by decide) (by decide) (by decide)))]; exact ew4258
  have e4267 : I4264 (ad g 4) 1 = w4259 := by rw [eI4264, pp_ne _ _ (Or.inl (lyx_ne hy (by decide) (by decide) (by decide)))]; exact ew4259
  have e4268 : I4264 (ad g 4) 2 = w4260 := by rw [eI4264, pp_ne _ _ (Or.inl (lyx_ne hy (by decide) (by decide) (by decide)))]; exact ew4260
  have e4269 : I4264 (ad g 6) 0 = v4263 := by rw [eI4264, pp_self]
  clear eI4264
  refine WP_iload_n dX7_tell_10 rfl ?_
  refine WP_tab 178 dX7_tell_11 rfl rfl (fun c4269 => ?_) (fun j off c4269 hj => ?_) (by decide)
  · exact False.elim (by omega)
  · have hlt : j < 9 := by have := (Array.getElem?_eq_some_iff.mp hj).1; simpa using this
    have hcs : (j = 0 ∧ off = 49) ∨ (j = 1 ∧ off = 62) ∨ (j = 2 ∧ off = 70) ∨ (j = 3 ∧ off = 78) ∨ (j = 4 ∧ off = 91) ∨ (j = 5 ∧ off = 104) ∨ (j = 6 ∧ off = 117) ∨ (j = 7 ∧ off = 125) ∨ (j = 8 ∧ off = 149) := by
      match j, hlt, hj with
      | 0, _, hj => exact Or.inl ⟨rfl, (Option.some.inj hj).symm⟩
      | 1, _, hj => exact Or.inr (Or.inl ⟨rfl, (Option.some.inj hj).symm⟩)
      | 2, _, hj => exact Or.inr (Or.inr (Or.inl ⟨rfl, (Option.some.inj hj).symm⟩))
      | 3, _, hj => exact Or.inr (Or.inr (Or.inr (Or.inl ⟨rfl, (Option.some.inj hj).symm⟩)))
      | 4, _, hj => exact Or.inr (Or.inr (Or.inr (Or.inr (Or.inl ⟨rfl, (Option.some.inj hj).symm⟩))))
      | 5, _, hj => exact Or.inr (Or.inr (Or.inr (Or.inr (Or.inr (Or.inl ⟨rfl, (Option.some.inj hj).symm⟩)))))
      | 6, _, hj => exact Or.inr (Or.inr (Or.inr (Or.inr (Or.inr (Or.inr (Or.inl ⟨rfl, (Option.some.inj hj).symm⟩))))))
      | 7, _, hj => exact Or.inr (Or.inr (Or.inr (Or.inr (Or.inr (Or.inr (Or.inr (Or.inl ⟨rfl, (Option.some.inj hj).symm⟩)))))))
      | 8, _, hj => exact Or.inr (Or.inr (Or.inr (Or.inr (Or.inr (Or.inr (Or.inr (Or.inr (⟨rfl, (Option.some.inj hj).symm⟩))))))))
    clear hj hlt
    rcases hcs with ⟨rfl, rfl⟩ | ⟨rfl, rfl⟩ | ⟨rfl, rfl⟩ | ⟨rfl, rfl⟩ | ⟨rfl, rfl⟩ | ⟨rfl, rfl⟩ | ⟨rfl, rfl⟩ | ⟨rfl, rfl⟩ | ⟨rfl, rfl⟩
    · exact False.elim (by omega)
    · exact False.elim (by omega)
    · exact False.elim (by omega)
    · show WP _ _ 89 _ _ _ _ _ _
      refine WP_aload_n dX7_tell_89 rfl ?_
      refine WP_aload_n dX7_tell_90 rfl ?_
      refine WP_getr dX7_tell_91 fX7_27 rfl (lyx_is hy 6 7 rfl) (rfx hr 6 10 12 (by decide)) ?_
      refine WP_iload_n dX7_tell_94 rfl ?_
      refine WP_aload_n dX7_tell_95 rfl ?_
      refine WP_callV3 (k := 7) dX7_tell_96 ⟨⟨⟨by decide, by decide⟩, zX7_tellOn⟩, lX7_102, by decide, rfl, vX7_tellOn.1, vX7_tellOn.2⟩ (lyx_is hy 6 7 rfl) (sx_tellOn_6_3 hy hr hI4264 cl (by omega) (by omega) (by rw [e4266, e4267, e4268]; omega)) (Nat.le_of_ble_eq_true rfl) ?_
      intro r I4271 J4272 Ra hq
      obtain ⟨⟨hI4271, ec, pI4271⟩, rfl⟩ := hq
      rw [ec]
      clear ec Ra
      have e4273 : I4271 (ad g 1) 1 = L := hI4271.2
      have b4274 := BT_get hI4271.1 1 1 2 (0) (0) (900) (by decide) 1 (by decide) (by decide)
      rw [e4273] at b4274
      refine WP_goto 193 dX7_tell_99 rfl ?_
      exact WP_vret dX7_tell_193 rfl ⟨⟨hI4271, rfl, trivial⟩, rfl⟩
    · exact False.elim (by omega)
    · exact False.elim (by omega)
    · exact False.elim (by omega)
    · exact False.elim (by omega)
    · exact False.elim (by omega)
set_option maxHeartbeats 4000000 in
set_option maxRecDepth 100000 in
theorem sx_tell_6_4 {g : GG} {n : Int} {L : Int32} (hy : LyX g)  {I : pI} {J : pJ} {R : pR} (hr : RfX g R) (hI : XI g n L I) (cl : Int32) (cl_lo : 4 ≤ cl.toInt) (cl_hi : cl.toInt ≤ 4) (hb : (I (ad g 4) 0).toInt ≤ 2 ∧ (I (ad g 4) 1).toInt ≤ 6 ∧ (I (ad g 4) 2).toInt ≤ 20) : SP g mX7_tell [.ref (ad g 6), .int cl, .ref (ad g 4)] I J R (fun r I' J' R' => (XI g n L I' ∧ R' = R ∧ True) ∧ r = none) := by
  refine SP_of ⟨by decide, rfl⟩ (Nat.le_of_ble_eq_true rfl) ?_
  have e4275 : I (ad g 1) 1 = L := hI.2
  have b4276 := BT_get hI.1 1 1 2 (0) (0) (900) (by decide) 1 (by decide) (by decide)
  rw [e4275] at b4276
  obtain ⟨w4277, ew4277⟩ : ∃ w : Int32, I (ad g 4) 0 = w := ⟨_, rfl⟩
  have bw4277 := BT_get hI.1 4 0 5 (0) (0) (1000) (by decide) 0 (by decide) (by decide)
  rw [ew4277] at bw4277
  obtain ⟨w4278, ew4278⟩ : ∃ w : Int32, I (ad g 4) 1 = w := ⟨_, rfl⟩
  have bw4278 := BT_get hI.1 4 0 5 (0) (0) (1000) (by decide) 1 (by decide) (by decide)
  rw [ew4278] at bw4278
  obtain ⟨w4279, ew4279⟩ : ∃ w : Int32, I (ad g 4) 2 = w := ⟨_, rfl⟩
  have bw4279 := BT_get hI.1 4 0 5 (0) (0) (1000) (by decide) 2 (by decide) (by decide)
  rw [ew4279] at bw4279
  rw [ew4277, ew4278, ew4279] at hb
  refine WP_aload_n dX7_tell_0 rfl ?_
  refine WP_dup dX7_tell_1 rfl ?_
  refine WQ_getiu dX7_tell_2 fX7_61 rfl (lyx_is hy 6 7 rfl) (fun v4280 ev4280 => ?_)
  refine WQ_iconst (1) (1) dX7_tell_5 rfl rfl (fun v4281 hv4281 => ?_)
  refine WQ_iaddu dX7_tell_6 (fun v4282 => ?_)
  refine WQ_puti dX7_tell_7 fX7_61 rfl rfl (lyx_is hy 6 7 rfl) (fun I4283 eI4283 => ?_)
  have hI4283 : XI g n L I4283 := by rw [eI4283]; exact (xi_f0 hy hI (c := 6) (by decide) (Or.inl (by decide)) (by decide))
  have e4284 : I4283 (ad g 1) 1 = L := by rw [eI4283, pp_ne _ _ (Or.inl (lyx_ne hy (by decide) (by decide) (by decide)))]; exact e4275
  have e4285 : I4283 (ad g 4) 0 = w4277 := by rw [eI4283, pp_ne _ _ (Or.inl (lyx_ne hy (by decide) (by decide) (by decide)))]; exact ew4277
  have e4286 : I4283 (ad g 4) 1 = w4278 := by rw [eI4283, pp_ne _ _ (Or.inl (lyx_ne hy (by decide) (by decide) (by decide)))]; exact ew4278
  have e4287 : I4283 (ad g 4) 2 = w4279 := by rw [eI4283, pp_ne _ _ (Or.inl (lyx_ne hy (by decide) (by decide) (by decide)))]; exact ew4279
  have e4288 : I4283 (ad g 6) 0 = v4282 := by rw [eI4283, pp_self]
  clear eI4283
  refine WP_iload_n dX7_tell_10 rfl ?_
  refine WP_tab 178 dX7_tell_11 rfl rfl (fun c4288 => ?_) (fun j off c4288 hj => ?_) (by decide)
  · exact False.elim (by omega)
  · have hlt : j < 9 := by have := (Array.getElem?_eq_some_iff.mp hj).1; simpa using this
    have hcs : (j = 0 ∧ off = 49) ∨ (j = 1 ∧ off = 62) ∨ (j = 2 ∧ off = 70) ∨ (j = 3 ∧ off = 78) ∨ (j = 4 ∧ off = 91) ∨ (j = 5 ∧ off = 104) ∨ (j = 6 ∧ off = 117) ∨ (j = 7 ∧ off = 125) ∨ (j = 8 ∧ off = 149) := by
      match j, hlt, hj with
      | 0, _, hj => exact Or.inl ⟨rfl, (Option.some.inj hj).symm⟩
      | 1, _, hj => exact Or.inr (Or.inl ⟨rfl, (Option.some.inj hj).symm⟩)
      | 2, _, hj => exact Or.inr (Or.inr (Or.inl ⟨rfl, (Option.some.inj hj).symm⟩))
      | 3, _, hj => exact Or.inr (Or.inr (Or.inr (Or.inl ⟨rfl, (Option.some.inj hj).symm⟩)))
      | 4, _, hj => exact Or.inr (Or.inr (Or.inr (Or.inr (Or.inl ⟨rfl, (Option.some.inj hj).symm⟩))))
      | 5, _, hj => exact Or.inr (Or.inr (Or.inr (Or.inr (Or.inr (Or.inl ⟨rfl, (Option.some.inj hj).symm⟩)))))
      | 6, _, hj => exact Or.inr (Or.inr (Or.inr (Or.inr (Or.inr (Or.inr (Or.inl ⟨rfl, (Option.some.inj hj).symm⟩))))))
      | 7, _, hj => exact Or.inr (Or.inr (Or.inr (Or.inr (Or.inr (Or.inr (Or.inr (Or.inl ⟨rfl, (Option.some.inj hj).symm⟩)))))))
      | 8, _, hj => exact Or.inr (Or.inr (Or.inr (Or.inr (Or.inr (Or.inr (Or.inr (Or.inr (⟨rfl, (Option.some.inj hj).symm⟩))))))))
    clear hj hlt
    rcases hcs with ⟨rfl, rfl⟩ | ⟨rfl, rfl⟩ | ⟨rfl, rfl⟩ | ⟨rfl, rfl⟩ | ⟨rfl, rfl⟩ | ⟨rfl, rfl⟩ | ⟨rfl, rfl⟩ | ⟨rfl, rfl⟩ | ⟨rfl, rfl⟩
    · exact False.elim (by omega)
    · exact False.elim (by omega)
    · exact False.elim (by omega)
    · exact False.elim (by omega)
    · show WP _ _ 102 _ _ _ _ _ _
      refine WP_aload_n dX7_tell_102 rfl ?_
      refine WP_aload_n dX7_tell_103 rfl ?_
      refine WP_getr dX7_tell_104 fX7_45 rfl (lyx_is hy 6 7 rfl) (rfx hr 6 16 18 (by decide)) ?_
      refine WP_iload_n dX7_tell_107 rfl ?_
      refine WP_aload_n dX7_tell_108 rfl ?_
      refine WP_callV3 (k := 7) dX7_tell_109 ⟨⟨⟨by decide, by decide⟩, zX7_tellOn⟩, lX7_102, by decide, rfl, vX7_tellOn.1, vX7_tellOn.2⟩ (lyx_is hy 6 7 rfl) (sx_tellOn_6_4 hy hr hI4283 cl (by omega) (by omega) (by rw [e4285, e4286, e4287]; omega)) (Nat.le_of_ble_eq_true rfl) ?_
      intro r I4290 J4291 Ra hq
      obtain ⟨⟨hI4290, ec, pI4290⟩, rfl⟩ := hq
      rw [ec]
      clear ec Ra
      have e4292 : I4290 (ad g 1) 1 = L := hI4290.2
      have b4293 := BT_get hI4290.1 1 1 2 (0) (0) (900) (by decide) 1 (by decide) (by decide)
      rw [e4292] at b4293
      refine WP_goto 193 dX7_tell_112 rfl ?_
      exact WP_vret dX7_tell_193 rfl ⟨⟨hI4290, rfl, trivial⟩, rfl⟩
    · exact False.elim (by omega)
    · exact False.elim (by omega)
    · exact False.elim (by omega)
    · exact False.elim (by omega)
set_option maxHeartbeats 4000000 in
set_option maxRecDepth 100000 in
theorem sx_tell_6_5 {g : GG} {n : Int} {L : Int32} (hy : LyX g)  {I : pI} {J : pJ} {R : pR} (hr : RfX g R) (hI : XI g n L I) (cl : Int32) (cl_lo : 5 ≤ cl.toInt) (cl_hi : cl.toInt ≤ 5) (hb : (I (ad g 4) 0).toInt ≤ 2 ∧ (I (ad g 4) 1).toInt ≤ 6 ∧ (I (ad g 4) 2).toInt ≤ 999) : SP g mX7_tell [.ref (ad g 6), .int cl, .ref (ad g 4)] I J R (fun r I' J' R' => (XI g n L I' ∧ R' = R ∧ True) ∧ r = none) := by
  refine SP_of ⟨by decide, rfl⟩ (Nat.le_of_ble_eq_true rfl) ?_
  have e4294 : I (ad g 1) 1 = L := hI.2
  have b4295 := BT_get hI.1 1 1 2 (0) (0) (900) (by decide) 1 (by decide) (by decide)
  rw [e4294] at b4295
  obtain ⟨w4296, ew4296⟩ : ∃ w : Int32, I (ad g 4) 0 = w := ⟨_, rfl⟩
  have bw4296 := BT_get hI.1 4 0 5 (0) (0) (1000) (by decide) 0 (by decide) (by decide)
  rw [ew4296] at bw4296
  obtain ⟨w4297, ew4297⟩ : ∃ w : Int32, I (ad g 4) 1 = w := ⟨_, rfl⟩
  have bw4297 := BT_get hI.1 4 0 5 (0) (0) (1000) (by decide) 1 (by decide) (by decide)
  rw [ew4297] at bw4297
  obtain ⟨w4298, ew4298⟩ : ∃ w : Int32, I (ad g 4) 2 = w := ⟨_, rfl⟩
  have bw4298 := BT_get hI.1 4 0 5 (0) (0) (1000) (by decide) 2 (by decide) (by decide)
  rw [ew4298] at bw4298
  rw [ew4296, ew4297, ew4298] at hb
  refine WP_aload_n dX7_tell_0 rfl ?_
  refine WP_dup dX7_tell_1 rfl ?_
  refine WQ_getiu dX7_tell_2 fX7_61 rfl (lyx_is hy 6 7 rfl) (fun v4299 ev4299 => ?_)
  refine WQ_iconst (1) (1) dX7_tell_5 rfl rfl (fun v4300 hv4300 => ?_)
  refine WQ_iaddu dX7_tell_6 (fun v4301 => ?_)
  refine WQ_puti dX7_tell_7 fX7_61 rfl rfl (lyx_is hy 6 7 rfl) (fun I4302 eI4302 => ?_)
  have hI4302 : XI g n L I4302 := by rw [eI4302]; exact (xi_f0 hy hI (c := 6) (by decide) (Or.inl (by decide)) (by decide))
  have e4303 : I4302 (ad g 1) 1 = L := by rw [eI4302, pp_ne _ _ (Or.inl (lyx_ne hy (by decide) (by decide) (by decide)))]; exact e4294
  have e4304 : I4302 (ad g 4) 0 = w4296 := by rw [eI4302, pp_ne _ _ (Or.inl (lyx_ne hy (by decide) (by decide) (by decide)))]; exact ew4296
  have e4305 : I4302 (ad g 4) 1 = w4297 := by rw [eI4302, pp_ne _ _ (Or.inl (lyx_ne hy (by decide) (by decide) (by decide)))]; exact ew4297
  have e4306 : I4302 (ad g 4) 2 = w4298 := by rw [eI4302, pp_ne _ _ (Or.inl (lyx_ne hy (by decide) (by decide) (by decide)))]; exact ew4298
  have e4307 : I4302 (ad g 6) 0 = v4301 := by rw [eI4302, pp_self]
  clear eI4302
  refine WP_iload_n dX7_tell_10 rfl ?_
  refine WP_tab 178 dX7_tell_11 rfl rfl (fun c4307 => ?_) (fun j off c4307 hj => ?_) (by decide)
  · exact False.elim (by omega)
  · have hlt : j < 9 := by have := (Array.getElem?_eq_some_iff.mp hj).1; simpa using this
    have hcs : (j = 0 ∧ off = 49) ∨ (j = 1 ∧ off = 62) ∨ (j = 2 ∧ off = 70) ∨ (j = 3 ∧ off = 78) ∨ (j = 4 ∧ off = 91) ∨ (j = 5 ∧ off = 104) ∨ (j = 6 ∧ off = 117) ∨ (j = 7 ∧ off = 125) ∨ (j = 8 ∧ off = 149) := by
      match j, hlt, hj with
      | 0, _, hj => exact Or.inl ⟨rfl, (Option.some.inj hj).symm⟩
      | 1, _, hj => exact Or.inr (Or.inl ⟨rfl, (Option.some.inj hj).symm⟩)
      | 2, _, hj => exact Or.inr (Or.inr (Or.inl ⟨rfl, (Option.some.inj hj).symm⟩))
      | 3, _, hj => exact Or.inr (Or.inr (Or.inr (Or.inl ⟨rfl, (Option.some.inj hj).symm⟩)))
      | 4, _, hj => exact Or.inr (Or.inr (Or.inr (Or.inr (Or.inl ⟨rfl, (Option.some.inj hj).symm⟩))))
      | 5, _, hj => exact Or.inr (Or.inr (Or.inr (Or.inr (Or.inr (Or.inl ⟨rfl, (Option.some.inj hj).symm⟩)))))
      | 6, _, hj => exact Or.inr (Or.inr (Or.inr (Or.inr (Or.inr (Or.inr (Or.inl ⟨rfl, (Option.some.inj hj).symm⟩))))))
      | 7, _, hj => exact Or.inr (Or.inr (Or.inr (Or.inr (Or.inr (Or.inr (Or.inr (Or.inl ⟨rfl, (Option.some.inj hj).symm⟩)))))))
      | 8, _, hj => exact Or.inr (Or.inr (Or.inr (Or.inr (Or.inr (Or.inr (Or.inr (Or.inr (⟨rfl, (Option.some.inj hj).symm⟩))))))))
    clear hj hlt
    rcases hcs with ⟨rfl, rfl⟩ | ⟨rfl, rfl⟩ | ⟨rfl, rfl⟩ | ⟨rfl, rfl⟩ | ⟨rfl, rfl⟩ | ⟨rfl, rfl⟩ | ⟨rfl, rfl⟩ | ⟨rfl, rfl⟩ | ⟨rfl, rfl⟩
    · exact False.elim (by omega)
    · exact False.elim (by omega)
    · exact False.elim (by omega)
    · exact False.elim (by omega)
    · exact False.elim (by omega)
    · show WP _ _ 115 _ _ _ _ _ _
      refine WP_aload_n dX7_tell_115 rfl ?_
      refine WP_aload_n dX7_tell_116 rfl ?_
      refine WP_getr dX7_tell_117 fX7_48 rfl (lyx_is hy 6 7 rfl) (rfx hr 6 17 19 (by decide)) ?_
      refine WP_iload_n dX7_tell_120 rfl ?_
      refine WP_aload_n dX7_tell_121 rfl ?_
      refine WP_callV3 (k := 7) dX7_tell_122 ⟨⟨⟨by decide, by decide⟩, zX7_tellOn⟩, lX7_102, by decide, rfl, vX7_tellOn.1, vX7_tellOn.2⟩ (lyx_is hy 6 7 rfl) (sx_tellOn_6_5 hy hr hI4302 cl (by omega) (by omega) (by rw [e4304, e4305, e4306]; omega)) (Nat.le_of_ble_eq_true rfl) ?_
      intro r I4309 J4310 Ra hq
      obtain ⟨⟨hI4309, ec, pI4309⟩, rfl⟩ := hq
      rw [ec]
      clear ec Ra
      have e4311 : I4309 (ad g 1) 1 = L := hI4309.2
      have b4312 := BT_get hI4309.1 1 1 2 (0) (0) (900) (by decide) 1 (by decide) (by decide)
      rw [e4311] at b4312
      refine WP_goto 193 dX7_tell_125 rfl ?_
      exact WP_vret dX7_tell_193 rfl ⟨⟨hI4309, rfl, trivial⟩, rfl⟩
    · exact False.elim (by omega)
    · exact False.elim (by omega)
    · exact False.elim (by omega)
set_option maxHeartbeats 4000000 in
set_option maxRecDepth 100000 in
theorem sx_tell_6_6 {g : GG} {n : Int} {L : Int32} (hy : LyX g)  {I : pI} {J : pJ} {R : pR} (hr : RfX g R) (hI : XI g n L I) (cl : Int32) (cl_lo : 6 ≤ cl.toInt) (cl_hi : cl.toInt ≤ 6) (hb : (I (ad g 4) 0).toInt ≤ 3 ∧ (I (ad g 4) 1).toInt ≤ 2 ∧ (I (ad g 4) 2).toInt ≤ 6 ∧ (I (ad g 4) 3).toInt ≤ 3 ∧ (I (ad g 4) 4).toInt ≤ 99) : SP g mX7_tell [.ref (ad g 6), .int cl, .ref (ad g 4)] I J R (fun r I' J' R' => (XI g n L I' ∧ R' = R ∧ True) ∧ r = none) := by
  refine SP_of ⟨by decide, rfl⟩ (Nat.le_of_ble_eq_true rfl) ?_
  have e4313 : I (ad g 1) 1 = L := hI.2
  have b4314 := BT_get hI.1 1 1 2 (0) (0) (900) (by decide) 1 (by decide) (by decide)
  rw [e4313] at b4314
  obtain ⟨w4315, ew4315⟩ : ∃ w : Int32, I (ad g 4) 0 = w := ⟨_, rfl⟩
  have bw4315 := BT_get hI.1 4 0 5 (0) (0) (1000) (by decide) 0 (by decide) (by decide)
  rw [ew4315] at bw4315
  obtain ⟨w4316, ew4316⟩ : ∃ w : Int32, I (ad g 4) 1 = w := ⟨_, rfl⟩
  have bw4316 := BT_get hI.1 4 0 5 (0) (0) (1000) (by decide) 1 (by decide) (by decide)
  rw [ew4316] at bw4316
  obtain ⟨w4317, ew4317⟩ : ∃ w : Int32, I (ad g 4) 2 = w := ⟨_, rfl⟩
  have bw4317 := BT_get hI.1 4 0 5 (0) (0) (1000) (by decide) 2 (by decide) (by decide)
  rw [ew4317] at bw4317
  obtain ⟨w4318, ew4318⟩ : ∃ w : Int32, I (ad g 4) 3 = w := ⟨_, rfl⟩
  have bw4318 := BT_get hI.1 4 0 5 (0) (0) (1000) (by decide) 3 (by decide) (by decide)
  rw [ew4318] at bw4318
  obtain ⟨w4319, ew4319⟩ : ∃ w : Int32, I (ad g 4) 4 = w := ⟨_, rfl⟩
  have bw4319 := BT_get hI.1 4 0 5 (0) (0) (1000) (by decide) 4 (by decide) (by decide)
  rw [ew4319] at bw4319
  rw [ew4315, ew4316, ew4317, ew4318, ew4319] at hb
  refine WP_aload_n dX7_tell_0 rfl ?_
  refine WP_dup dX7_tell_1 rfl ?_
  refine WQ_getiu dX7_tell_2 fX7_61 rfl (lyx_is hy 6 7 rfl) (fun v4320 ev4320 => ?_)
  refine WQ_iconst (1) (1) dX7_tell_5 rfl rfl (fun v4321 hv4321 => ?_)
  refine WQ_iaddu dX7_tell_6 (fun v4322 => ?_)
  refine WQ_puti dX7_tell_7 fX7_61 rfl rfl (lyx_is hy 6 7 rfl) (fun I4323 eI4323 => ?_)
  have hI4323 : XI g n L I4323 := by rw [eI4323]; exact (xi_f0 hy hI (c := 6) (by decide) (Or.inl (by decide)) (by decide))
  have e4324 : I4323 (ad g 1) 1 = L := by rw [eI4323, pp_ne _ _ (Or.inl (lyx_ne hy (by decide) (by decide) (by decide)))]; exact e4313
  have e4325 : I4323 (ad g 4) 0 = w4315 := by rw [eI4323, pp_ne _ _ (Or.inl (lyx_ne hy (by decide) (by decide) (by decide)))]; exact ew4315
  have e4326 : I4323 (ad g 4) 1 = w4316 := by rw [eI4323, pp_ne _ _ (Or.inl (lyx_ne hy (by decide) (by decide) (by decide)))]; exact ew4316
  have e4327 : I4323 (ad g 4) 2 = w4317 := by rw [eI4323, pp_ne _ _ (Or.inl (lyx_ne hy (by decide) (by decide) (by decide)))]; exact ew4317
  have e4328 : I4323 (ad g 4) 3 = w4318 := by rw [eI4323, pp_ne _ _ (Or.inl (lyx_ne hy (by decide) (by decide) (by decide)))]; exact ew4318
  have e4329 : I4323 (ad g 4) 4 = w4319 := by rw [eI4323, pp_ne _ _ (Or.inl (lyx_ne hy (by decide) (by decide) (by decide)))]; exact ew4319
  have e4330 : I4323 (ad g 6) 0 = v4322 := by rw [eI4323, pp_self]
  clear eI4323
  refine WP_iload_n dX7_tell_10 rfl ?_
  refine WP_tab 178 dX7_tell_11 rfl rfl (fun c4330 => ?_) (fun j off c4330 hj => ?_) (by decide)
  · exact False.elim (by omega)
  · have hlt : j < 9 := by have := (Array.getElem?_eq_some_iff.mp hj).1; simpa using this
    have hcs : (j = 0 ∧ off = 49) ∨ (j = 1 ∧ off = 62) ∨ (j = 2 ∧ off = 70) ∨ (j = 3 ∧ off = 78) ∨ (j = 4 ∧ off = 91) ∨ (j = 5 ∧ off = 104) ∨ (j = 6 ∧ off = 117) ∨ (j = 7 ∧ off = 125) ∨ (j = 8 ∧ off = 149) := by
      match j, hlt, hj with
      | 0, _, hj => exact Or.inl ⟨rfl, (Option.some.inj hj).symm⟩
      | 1, _, hj => exact Or.inr (Or.inl ⟨rfl, (Option.some.inj hj).symm⟩)
      | 2, _, hj => exact Or.inr (Or.inr (Or.inl ⟨rfl, (Option.some.inj hj).symm⟩))
      | 3, _, hj => exact Or.inr (Or.inr (Or.inr (Or.inl ⟨rfl, (Option.some.inj hj).symm⟩)))
      | 4, _, hj => exact Or.inr (Or.inr (Or.inr (Or.inr (Or.inl ⟨rfl, (Option.some.inj hj).symm⟩))))
      | 5, _, hj => exact Or.inr (Or.inr (Or.inr (Or.inr (Or.inr (Or.inl ⟨rfl, (Option.some.inj hj).symm⟩)))))
      | 6, _, hj => exact Or.inr (Or.inr (Or.inr (Or.inr (Or.inr (Or.inr (Or.inl ⟨rfl, (Option.some.inj hj).symm⟩))))))
      | 7, _, hj => exact Or.inr (Or.inr (Or.inr (Or.inr (Or.inr (Or.inr (Or.inr (Or.inl ⟨rfl, (Option.some.inj hj).symm⟩)))))))
      | 8, _, hj => exact Or.inr (Or.inr (Or.inr (Or.inr (Or.inr (Or.inr (Or.inr (Or.inr (⟨rfl, (Option.some.inj hj).symm⟩))))))))
    clear hj hlt
    rcases hcs with ⟨rfl, rfl⟩ | ⟨rfl, rfl⟩ | ⟨rfl, rfl⟩ | ⟨rfl, rfl⟩ | ⟨rfl, rfl⟩ | ⟨rfl, rfl⟩ | ⟨rfl, rfl⟩ | ⟨rfl, rfl⟩ | ⟨rfl, rfl⟩
    · exact False.elim (by omega)
    · exact False.elim (by omega)
    · exact False.elim (by omega)
    · exact False.elim (by omega)
    · exact False.elim (by omega)
    · exact False.elim (by omega)
    · show WP _ _ 128 _ _ _ _ _ _
      refine WP_aload_n dX7_tell_128 rfl ?_
      refine WP_aload_n dX7_tell_129 rfl ?_
      refine WP_callV1 (k := 7) dX7_tell_130 ⟨⟨⟨by decide, by decide⟩, zX7_tellWant⟩, lX7_106, by decide, rfl, vX7_tellWant.1, vX7_tellWant.2⟩ (lyx_is hy 6 7 rfl) (sx_tellWant_6 hy hr hI4323   (by rw [e4325, e4326, e4327, e4328, e4329]; omega)) (Nat.le_of_ble_eq_true rfl) ?_
      intro r I4332 J4333 Ra hq
      obtain ⟨⟨hI4332, ec, pI4332⟩, rfl⟩ := hq
      rw [ec]
      clear ec Ra
      have e4334 : I4332 (ad g 1) 1 = L := hI4332.2
      have b4335 := BT_get hI4332.1 1 1 2 (0) (0) (900) (by decide) 1 (by decide) (by decide)
      rw [e4334] at b4335
      refine WP_goto 193 dX7_tell_133 rfl ?_
      exact WP_vret dX7_tell_193 rfl ⟨⟨hI4332, rfl, trivial⟩, rfl⟩
    · exact False.elim (by omega)
    · exact False.elim (by omega)
set_option maxHeartbeats 4000000 in
set_option maxRecDepth 100000 in
theorem sx_tell_6_7 {g : GG} {n : Int} {L : Int32} (hy : LyX g)  {I : pI} {J : pJ} {R : pR} (hr : RfX g R) (hI : XI g n L I) (cl : Int32) (cl_lo : 7 ≤ cl.toInt) (cl_hi : cl.toInt ≤ 7) (hb : (I (ad g 4) 0).toInt ≤ 3) : SP g mX7_tell [.ref (ad g 6), .int cl, .ref (ad g 4)] I J R (fun r I' J' R' => (XI g n L I' ∧ R' = R ∧ True) ∧ r = none) := by
  refine SP_of ⟨by decide, rfl⟩ (Nat.le_of_ble_eq_true rfl) ?_
  have e4336 : I (ad g 1) 1 = L := hI.2
  have b4337 := BT_get hI.1 1 1 2 (0) (0) (900) (by decide) 1 (by decide) (by decide)
  rw [e4336] at b4337
  obtain ⟨w4338, ew4338⟩ : ∃ w : Int32, I (ad g 4) 0 = w := ⟨_, rfl⟩
  have bw4338 := BT_get hI.1 4 0 5 (0) (0) (1000) (by decide) 0 (by decide) (by decide)
  rw [ew4338] at bw4338
  rw [ew4338] at hb
  refine WP_aload_n dX7_tell_0 rfl ?_
  refine WP_dup dX7_tell_1 rfl ?_
  refine WQ_getiu dX7_tell_2 fX7_61 rfl (lyx_is hy 6 7 rfl) (fun v4339 ev4339 => ?_)
  refine WQ_iconst (1) (1) dX7_tell_5 rfl rfl (fun v4340 hv4340 => ?_)
  refine WQ_iaddu dX7_tell_6 (fun v4341 => ?_)
  refine WQ_puti dX7_tell_7 fX7_61 rfl rfl (lyx_is hy 6 7 rfl) (fun I4342 eI4342 => ?_)
  have hI4342 : XI g n L I4342 := by rw [eI4342]; exact (xi_f0 hy hI (c := 6) (by decide) (Or.inl (by decide)) (by decide))
  have e4343 : I4342 (ad g 1) 1 = L := by rw [eI4342, pp_ne _ _ (Or.inl (lyx_ne hy (by decide) (by decide) (by decide)))]; exact e4336
  have e4344 : I4342 (ad g 4) 0 = w4338 := by rw [eI4342, pp_ne _ _ (Or.inl (lyx_ne hy (by decide) (by decide) (by decide)))]; exact ew4338
  have e4345 : I4342 (ad g 6) 0 = v4341 := by rw [eI4342, pp_self]
  clear eI4342
  refine WP_iload_n dX7_tell_10 rfl ?_
  refine WP_tab 178 dX7_tell_11 rfl rfl (fun c4345 => ?_) (fun j off c4345 hj => ?_) (by decide)
  · exact False.elim (by omega)
  · have hlt : j < 9 := by have := (Array.getElem?_eq_some_iff.mp hj).1; simpa using this
    have hcs : (j = 0 ∧ off = 49) ∨ (j = 1 ∧ off = 62) ∨ (j = 2 ∧ off = 70) ∨ (j = 3 ∧ off = 78) ∨ (j = 4 ∧ off = 91) ∨ (j = 5 ∧ off = 104) ∨ (j = 6 ∧ off = 117) ∨ (j = 7 ∧ off = 125) ∨ (j = 8 ∧ off = 149) := by
      match j, hlt, hj with
      | 0, _, hj => exact Or.inl ⟨rfl, (Option.some.inj hj).symm⟩
      | 1, _, hj => exact Or.inr (Or.inl ⟨rfl, (Option.some.inj hj).symm⟩)
      | 2, _, hj => exact Or.inr (Or.inr (Or.inl ⟨rfl, (Option.some.inj hj).symm⟩))
      | 3, _, hj => exact Or.inr (Or.inr (Or.inr (Or.inl ⟨rfl, (Option.some.inj hj).symm⟩)))
      | 4, _, hj => exact Or.inr (Or.inr (Or.inr (Or.inr (Or.inl ⟨rfl, (Option.some.inj hj).symm⟩))))
      | 5, _, hj => exact Or.inr (Or.inr (Or.inr (Or.inr (Or.inr (Or.inl ⟨rfl, (Option.some.inj hj).symm⟩)))))
      | 6, _, hj => exact Or.inr (Or.inr (Or.inr (Or.inr (Or.inr (Or.inr (Or.inl ⟨rfl, (Option.some.inj hj).symm⟩))))))
      | 7, _, hj => exact Or.inr (Or.inr (Or.inr (Or.inr (Or.inr (Or.inr (Or.inr (Or.inl ⟨rfl, (Option.some.inj hj).symm⟩)))))))
      | 8, _, hj => exact Or.inr (Or.inr (Or.inr (Or.inr (Or.inr (Or.inr (Or.inr (Or.inr (⟨rfl, (Option.some.inj hj).symm⟩))))))))
    clear hj hlt
    rcases hcs with ⟨rfl, rfl⟩ | ⟨rfl, rfl⟩ | ⟨rfl, rfl⟩ | ⟨rfl, rfl⟩ | ⟨rfl, rfl⟩ | ⟨rfl, rfl⟩ | ⟨rfl, rfl⟩ | ⟨rfl, rfl⟩ | ⟨rfl, rfl⟩
    · exact False.elim (by omega)
    · exact False.elim (by omega)
    · exact False.elim (by omega)
    · exact False.elim (by omega)
    · exact False.elim (by omega)
    · exact False.elim (by omega)
    · exact False.elim (by omega)
    · show WP _ _ 136 _ _ _ _ _ _
      refine WP_aload_n dX7_tell_136 rfl ?_
      refine WP_getr dX7_tell_137 fX7_24 rfl (lyx_is hy 6 7 rfl) (rfx hr 6 9 11 (by decide)) ?_
      refine WP_aload_n dX7_tell_140 rfl ?_
      refine WQ_iconst (0) (0) dX7_tell_141 rfl rfl (fun v4347 hv4347 => ?_)
      refine WQ_ialdm (z := 0) dX7_tell_142 (lyx_is hy 4 13 rfl) (lyx_n hy 4 5 rfl) hv4347 (by decide) e4344 ?_
      refine WP_aload_n dX7_tell_143 rfl ?_
      refine WQ_iconst (1) (1) dX7_tell_144 rfl rfl (fun v4349 hv4349 => ?_)
      refine WQ_iald dX7_tell_145 (lyx_is hy 4 13 rfl) (lyx_n hy 4 5 rfl) (by omega) (by omega) (fun q hq => BT_get hI4342.1 4 0 5 (0) (0) (1000) (by decide) q (Nat.zero_le _) hq) (fun v4350 av4350 bv4350 ev4350 => ?_)
      clear ev4350
      refine WQ_iast dX7_tell_146 (lyx_is hy 11 13 rfl) (lyx_n hy 11 4 rfl) (by omega) (by omega) (fun I4351 eI4351 => ?_)
      have hI4351 : XI g n L I4351 := by rw [eI4351]; exact (xi_r0 hy hI4342 (c := 11) (by decide) (Or.inl (by decide)) (by decide))
      have e4352 : I4351 (ad g 1) 1 = L := by rw [eI4351, pp_ne _ _ (Or.inl (lyx_ne hy (by decide) (by decide) (by decide)))]; exact e4343
      have e4353 : I4351 (ad g 4) 0 = w4338 := by rw [eI4351, pp_ne _ _ (Or.inl (lyx_ne hy (by decide) (by decide) (by decide)))]; exact e4344
      have e4354 : I4351 (ad g 6) 0 = v4341 := by rw [eI4351, pp_ne _ _ (Or.inl (lyx_ne hy (by decide) (by decide) (by decide)))]; exact e4345
      clear eI4351
      refine WP_aload_n dX7_tell_147 rfl ?_
      refine WQ_bipush (7) (7) dX7_tell_148 rfl rfl (fun v4355 hv4355 => ?_)
      refine WP_aload_n dX7_tell_150 rfl ?_
      refine WQ_iconst (0) (0) dX7_tell_151 rfl rfl (fun v4356 hv4356 => ?_)
      refine WQ_ialdm (z := 0) dX7_tell_152 (lyx_is hy 4 13 rfl) (lyx_n hy 4 5 rfl) hv4356 (by decide) e4353 ?_
      refine WQ_iconst (0) (0) dX7_tell_153 rfl rfl (fun v4358 hv4358 => ?_)
      refine WP_callV3 (k := 7) dX7_tell_154 ⟨⟨⟨by decide, by decide⟩, zX7_hold⟩, lX7_109, by decide, rfl, vX7_hold.1, vX7_hold.2⟩ (lyx_is hy 6 7 rfl) (sx_hold_6 hy hr hI4351 v4355 w4338 v4358 (by omega) (by omega) (by omega) (by omega) ) (Nat.le_of_ble_eq_true rfl) ?_
      intro r I4359 J4360 Ra hq
      obtain ⟨⟨hI4359, ec⟩, rfl⟩ := hq
      rw [ec]
      clear ec Ra
      have e4361 : I4359 (ad g 1) 1 = L := hI4359.2
      have b4362 := BT_get hI4359.1 1 1 2 (0) (0) (900) (by decide) 1 (by decide) (by decide)
      rw [e4361] at b4362
      refine WP_goto 193 dX7_tell_157 rfl ?_
      exact WP_vret dX7_tell_193 rfl ⟨⟨hI4359, rfl, trivial⟩, rfl⟩
    · exact False.elim (by omega)
set_option maxHeartbeats 4000000 in
set_option maxRecDepth 100000 in
theorem sx_tell_6_8 {g : GG} {n : Int} {L : Int32} (hy : LyX g)  {I : pI} {J : pJ} {R : pR} (hr : RfX g R) (hI : XI g n L I) (cl : Int32) (cl_lo : 8 ≤ cl.toInt) (cl_hi : cl.toInt ≤ 8) (hb : (I (ad g 4) 0).toInt ≤ 3) : SP g mX7_tell [.ref (ad g 6), .int cl, .ref (ad g 4)] I J R (fun r I' J' R' => (XI g n L I' ∧ R' = R ∧ True) ∧ r = none) := by
  refine SP_of ⟨by decide, rfl⟩ (Nat.le_of_ble_eq_true rfl) ?_
  have e4363 : I (ad g 1) 1 = L := hI.2
  have b4364 := BT_get hI.1 1 1 2 (0) (0) (900) (by decide) 1 (by decide) (by decide)
  rw [e4363] at b4364
  obtain ⟨w4365, ew4365⟩ : ∃ w : Int32, I (ad g 4) 0 = w := ⟨_, rfl⟩
  have bw4365 := BT_get hI.1 4 0 5 (0) (0) (1000) (by decide) 0 (by decide) (by decide)
  rw [ew4365] at bw4365
  rw [ew4365] at hb
  refine WP_aload_n dX7_tell_0 rfl ?_
  refine WP_dup dX7_tell_1 rfl ?_
  refine WQ_getiu dX7_tell_2 fX7_61 rfl (lyx_is hy 6 7 rfl) (fun v4366 ev4366 => ?_)
  refine WQ_iconst (1) (1) dX7_tell_5 rfl rfl (fun v4367 hv4367 => ?_)
  refine WQ_iaddu dX7_tell_6 (fun v4368 => ?_)
  refine WQ_puti dX7_tell_7 fX7_61 rfl rfl (lyx_is hy 6 7 rfl) (fun I4369 eI4369 => ?_)
  have hI4369 : XI g n L I4369 := by rw [eI4369]; exact (xi_f0 hy hI (c := 6) (by decide) (Or.inl (by decide)) (by decide))
  have e4370 : I4369 (ad g 1) 1 = L := by rw [eI4369, pp_ne _ _ (Or.inl (lyx_ne hy (by decide) (by decide) (by decide)))]; exact e4363
  have e4371 : I4369 (ad g 4) 0 = w4365 := by rw [eI4369, pp_ne _ _ (Or.inl (lyx_ne hy (by decide) (by decide) (by decide)))]; exact ew4365
  have e4372 : I4369 (ad g 6) 0 = v4368 := by rw [eI4369, pp_self]
  clear eI4369
  refine WP_iload_n dX7_tell_10 rfl ?_
  refine WP_tab 178 dX7_tell_11 rfl rfl (fun c4372 => ?_) (fun j off c4372 hj => ?_) (by decide)
  · exact False.elim (by omega)
  · have hlt : j < 9 := by have := (Array.getElem?_eq_some_iff.mp hj).1; simpa using this
    have hcs : (j = 0 ∧ off = 49) ∨ (j = 1 ∧ off = 62) ∨ (j = 2 ∧ off = 70) ∨ (j = 3 ∧ off = 78) ∨ (j = 4 ∧ off = 91) ∨ (j = 5 ∧ off = 104) ∨ (j = 6 ∧ off = 117) ∨ (j = 7 ∧ off = 125) ∨ (j = 8 ∧ off = 149) := by
      match j, hlt, hj with
      | 0, _, hj => exact Or.inl ⟨rfl, (Option.some.inj hj).symm⟩
      | 1, _, hj => exact Or.inr (Or.inl ⟨rfl, (Option.some.inj hj).symm⟩)
      | 2, _, hj => exact Or.inr (Or.inr (Or.inl ⟨rfl, (Option.some.inj hj).symm⟩))
      | 3, _, hj => exact Or.inr (Or.inr (Or.inr (Or.inl ⟨rfl, (Option.some.inj hj).symm⟩)))
      | 4, _, hj => exact Or.inr (Or.inr (Or.inr (Or.inr (Or.inl ⟨rfl, (Option.some.inj hj).symm⟩))))
      | 5, _, hj => exact Or.inr (Or.inr (Or.inr (Or.inr (Or.inr (Or.inl ⟨rfl, (Option.some.inj hj).symm⟩)))))
      | 6, _, hj => exact Or.inr (Or.inr (Or.inr (Or.inr (Or.inr (Or.inr (Or.inl ⟨rfl, (Option.some.inj hj).symm⟩))))))
      | 7, _, hj => exact Or.inr (Or.inr (Or.inr (Or.inr (Or.inr (Or.inr (Or.inr (Or.inl ⟨rfl, (Option.some.inj hj).symm⟩)))))))
      | 8, _, hj => exact Or.inr (Or.inr (Or.inr (Or.inr (Or.inr (Or.inr (Or.inr (Or.inr (⟨rfl, (Option.some.inj hj).symm⟩))))))))
    clear hj hlt
    rcases hcs with ⟨rfl, rfl⟩ | ⟨rfl, rfl⟩ | ⟨rfl, rfl⟩ | ⟨rfl, rfl⟩ | ⟨rfl, rfl⟩ | ⟨rfl, rfl⟩ | ⟨rfl, rfl⟩ | ⟨rfl, rfl⟩ | ⟨rfl, rfl⟩
    · exact False.elim (by omega)
    · exact False.elim (by omega)
    · exact False.elim (by omega)
    · exact False.elim (by omega)
    · exact False.elim (by omega)
    · exact False.elim (by omega)
    · exact False.elim (by omega)
    · exact False.elim (by omega)
    · show WP _ _ 160 _ _ _ _ _ _
      refine WP_aload_n dX7_tell_160 rfl ?_
      refine WP_aload_n dX7_tell_161 rfl ?_
      refine WQ_iconst (0) (0) dX7_tell_162 rfl rfl (fun v4374 hv4374 => ?_)
      refine WQ_ialdm (z := 0) dX7_tell_163 (lyx_is hy 4 13 rfl) (lyx_n hy 4 5 rfl) hv4374 (by decide) e4371 ?_
      refine WQ_puti dX7_tell_164 fX7_71 rfl rfl (lyx_is hy 6 7 rfl) (fun I4376 eI4376 => ?_)
      have hI4376 : XI g n L I4376 := by rw [eI4376]; exact (xi_f hy hI4369 (c := 6) (-1) (0) (3) (by decide) (Or.inl (by decide)) (by decide) (by omega) (by omega))
      have e4377 : I4376 (ad g 1) 1 = L := by rw [eI4376, pp_ne _ _ (Or.inl (lyx_ne hy (by decide) (by decide) (by decide)))]; exact e4370
      have e4378 : I4376 (ad g 4) 0 = w4365 := by rw [eI4376, pp_ne _ _ (Or.inl (lyx_ne hy (by decide) (by decide) (by decide)))]; exact e4371
      have e4379 : I4376 (ad g 6) 0 = v4368 := by rw [eI4376, pp_ne _ _ (Or.inr (by decide))]; exact e4372
      have e4380 : I4376 (ad g 6) 3 = w4365 := by rw [eI4376, pp_self]
      clear eI4376
      refine WP_aload_n dX7_tell_167 rfl ?_
      refine WQ_bipush (8) (8) dX7_tell_168 rfl rfl (fun v4381 hv4381 => ?_)
      refine WQ_iconst (0) (0) dX7_tell_170 rfl rfl (fun v4382 hv4382 => ?_)
      refine WQ_iconst (0) (0) dX7_tell_171 rfl rfl (fun v4383 hv4383 => ?_)
      refine WP_callV3 (k := 7) dX7_tell_172 ⟨⟨⟨by decide, by decide⟩, zX7_hold⟩, lX7_109, by decide, rfl, vX7_hold.1, vX7_hold.2⟩ (lyx_is hy 6 7 rfl) (sx_hold_6 hy hr hI4376 v4381 v4382 v4383 (by omega) (by omega) (by omega) (by omega) ) (Nat.le_of_ble_eq_true rfl) ?_
      intro r I4384 J4385 Ra hq
      obtain ⟨⟨hI4384, ec⟩, rfl⟩ := hq
      rw [ec]
      clear ec Ra
      have e4386 : I4384 (ad g 1) 1 = L := hI4384.2
      have b4387 := BT_get hI4384.1 1 1 2 (0) (0) (900) (by decide) 1 (by decide) (by decide)
      rw [e4386] at b4387
      refine WP_goto 193 dX7_tell_175 rfl ?_
      exact WP_vret dX7_tell_193 rfl ⟨⟨hI4384, rfl, trivial⟩, rfl⟩
set_option maxHeartbeats 4000000 in
set_option maxRecDepth 100000 in
theorem sx_tell_6_9 {g : GG} {n : Int} {L : Int32} (hy : LyX g)  {I : pI} {J : pJ} {R : pR} (hr : RfX g R) (hI : XI g n L I) (cl : Int32) (cl_lo : 9 ≤ cl.toInt) (cl_hi : cl.toInt ≤ 9) (hb : (I (ad g 4) 0).toInt ≤ 2) : SP g mX7_tell [.ref (ad g 6), .int cl, .ref (ad g 4)] I J R (fun r I' J' R' => (XI g n L I' ∧ R' = R ∧ True) ∧ r = none) := by
  refine SP_of ⟨by decide, rfl⟩ (Nat.le_of_ble_eq_true rfl) ?_
  have e4388 : I (ad g 1) 1 = L := hI.2
  have b4389 := BT_get hI.1 1 1 2 (0) (0) (900) (by decide) 1 (by decide) (by decide)
  rw [e4388] at b4389
  obtain ⟨w4390, ew4390⟩ : ∃ w : Int32, I (ad g 4) 0 = w := ⟨_, rfl⟩
  have bw4390 := BT_get hI.1 4 0 5 (0) (0) (1000) (by decide) 0 (by decide) (by decide)
  rw [ew4390] at bw4390
  rw [ew4390] at hb
  refine WP_aload_n dX7_tell_0 rfl ?_
  refine WP_dup dX7_tell_1 rfl ?_
  refine WQ_getiu dX7_tell_2 fX7_61 rfl (lyx_is hy 6 7 rfl) (fun v4391 ev4391 => ?_)
  refine WQ_iconst (1) (1) dX7_tell_5 rfl rfl (fun v4392 hv4392 => ?_)
  refine WQ_iaddu dX7_tell_6 (fun v4393 => ?_)
  refine WQ_puti dX7_tell_7 fX7_61 rfl rfl (lyx_is hy 6 7 rfl) (fun I4394 eI4394 => ?_)
  have hI4394 : XI g n L I4394 := by rw [eI4394]; exact (xi_f0 hy hI (c := 6) (by decide) (Or.inl (by decide)) (by decide))
  have e4395 : I4394 (ad g 1) 1 = L := by rw [eI4394, pp_ne _ _ (Or.inl (lyx_ne hy (by decide) (by decide) (by decide)))]; exact e4388
  have e4396 : I4394 (ad g 4) 0 = w4390 := by rw [eI4394, pp_ne _ _ (Or.inl (lyx_ne hy (by decide) (by decide) (by decide)))]; exact ew4390
  have e4397 : I4394 (ad g 6) 0 = v4393 := by rw [eI4394, pp_self]
  clear eI4394
  refine WP_iload_n dX7_tell_10 rfl ?_
  refine WP_tab 178 dX7_tell_11 rfl rfl (fun c4397 => ?_) (fun j off c4397 hj => ?_) (by decide)
  · refine WP_aload_n dX7_tell_178 rfl ?_
    refine WP_aload_n dX7_tell_179 rfl ?_
    refine WQ_iconst (0) (0) dX7_tell_180 rfl rfl (fun v4399 hv4399 => ?_)
    refine WQ_ialdm (z := 0) dX7_tell_181 (lyx_is hy 4 13 rfl) (lyx_n hy 4 5 rfl) hv4399 (by decide) e4396 ?_
    refine WQ_puti dX7_tell_182 fX7_74 rfl rfl (lyx_is hy 6 7 rfl) (fun I4401 eI4401 => ?_)
    have hI4401 : XI g n L I4401 := by rw [eI4401]; exact (xi_f hy hI4394 (c := 6) (-1) (0) (2) (by decide) (Or.inl (by decide)) (by decide) (by omega) (by omega))
    have e4402 : I4401 (ad g 1) 1 = L := by rw [eI4401, pp_ne _ _ (Or.inl (lyx_ne hy (by decide) (by decide) (by decide)))]; exact e4395
    have e4403 : I4401 (ad g 4) 0 = w4390 := by rw [eI4401, pp_ne _ _ (Or.inl (lyx_ne hy (by decide) (by decide) (by decide)))]; exact e4396
    have e4404 : I4401 (ad g 6) 0 = v4393 := by rw [eI4401, pp_ne _ _ (Or.inr (by decide))]; exact e4397
    have e4405 : I4401 (ad g 6) 4 = w4390 := by rw [eI4401, pp_self]
    clear eI4401
    refine WP_aload_n dX7_tell_185 rfl ?_
    refine WQ_bipush (9) (9) dX7_tell_186 rfl rfl (fun v4406 hv4406 => ?_)
    refine WQ_iconst (0) (0) dX7_tell_188 rfl rfl (fun v4407 hv4407 => ?_)
    refine WQ_iconst (0) (0) dX7_tell_189 rfl rfl (fun v4408 hv4408 => ?_)
    refine WP_callV3 (k := 7) dX7_tell_190 ⟨⟨⟨by decide, by decide⟩, zX7_hold⟩, lX7_109, by decide, rfl, vX7_hold.1, vX7_hold.2⟩ (lyx_is hy 6 7 rfl) (sx_hold_6 hy hr hI4401 v4406 v4407 v4408 (by omega) (by omega) (by omega) (by omega) ) (Nat.le_of_ble_eq_true rfl) ?_
    intro r I4409 J4410 Ra hq
    obtain ⟨⟨hI4409, ec⟩, rfl⟩ := hq
    rw [ec]
    clear ec Ra
    have e4411 : I4409 (ad g 1) 1 = L := hI4409.2
    have b4412 := BT_get hI4409.1 1 1 2 (0) (0) (900) (by decide) 1 (by decide) (by decide)
    rw [e4411] at b4412
    exact WP_vret dX7_tell_193 rfl ⟨⟨hI4409, rfl, trivial⟩, rfl⟩
  · have hlt : j < 9 := by have := (Array.getElem?_eq_some_iff.mp hj).1; simpa using this
    have hcs : (j = 0 ∧ off = 49) ∨ (j = 1 ∧ off = 62) ∨ (j = 2 ∧ off = 70) ∨ (j = 3 ∧ off = 78) ∨ (j = 4 ∧ off = 91) ∨ (j = 5 ∧ off = 104) ∨ (j = 6 ∧ off = 117) ∨ (j = 7 ∧ off = 125) ∨ (j = 8 ∧ off = 149) := by
      match j, hlt, hj with
      | 0, _, hj => exact Or.inl ⟨rfl, (Option.some.inj hj).symm⟩
      | 1, _, hj => exact Or.inr (Or.inl ⟨rfl, (Option.some.inj hj).symm⟩)
      | 2, _, hj => exact Or.inr (Or.inr (Or.inl ⟨rfl, (Option.some.inj hj).symm⟩))
      | 3, _, hj => exact Or.inr (Or.inr (Or.inr (Or.inl ⟨rfl, (Option.some.inj hj).symm⟩)))
      | 4, _, hj => exact Or.inr (Or.inr (Or.inr (Or.inr (Or.inl ⟨rfl, (Option.some.inj hj).symm⟩))))
      | 5, _, hj => exact Or.inr (Or.inr (Or.inr (Or.inr (Or.inr (Or.inl ⟨rfl, (Option.some.inj hj).symm⟩)))))
      | 6, _, hj => exact Or.inr (Or.inr (Or.inr (Or.inr (Or.inr (Or.inr (Or.inl ⟨rfl, (Option.some.inj hj).symm⟩))))))
      | 7, _, hj => exact Or.inr (Or.inr (Or.inr (Or.inr (Or.inr (Or.inr (Or.inr (Or.inl ⟨rfl, (Option.some.inj hj).symm⟩)))))))
      | 8, _, hj => exact Or.inr (Or.inr (Or.inr (Or.inr (Or.inr (Or.inr (Or.inr (Or.inr (⟨rfl, (Option.some.inj hj).symm⟩))))))))
    clear hj hlt
    rcases hcs with ⟨rfl, rfl⟩ | ⟨rfl, rfl⟩ | ⟨rfl, rfl⟩ | ⟨rfl, rfl⟩ | ⟨rfl, rfl⟩ | ⟨rfl, rfl⟩ | ⟨rfl, rfl⟩ | ⟨rfl, rfl⟩ | ⟨rfl, rfl⟩
    · exact False.elim (by omega)
    · exact False.elim (by omega)
    · exact False.elim (by omega)
    · exact False.elim (by omega)
    · exact False.elim (by omega)
    · exact False.elim (by omega)
    · exact False.elim (by omega)
    · exact False.elim (by omega)
    · exact False.elim (by omega)
set_option maxHeartbeats 4000000 in
set_option maxRecDepth 100000 in
theorem sx_tellLoss_27 {g : GG} {n : Int} {L : Int32} (hy : LyX g)  {I : pI} {J : pJ} {R : pR} (hr : RfX g R) (hI : XI g n L I) (da : Int32) (lo : Int32) (da_lo : 0 ≤ da.toInt) (da_hi : da.toInt ≤ 6) (lo_lo : 0 ≤ lo.toInt) (lo_hi : lo.toInt ≤ 900) : SP g mX7_tellLoss [.ref (ad g 27), .int da, .int lo] I J R (fun r I' J' R' => (XI g n L I' ∧ R' = R) ∧ r = none) := by
  refine SP_of ⟨by decide, rfl⟩ (Nat.le_of_ble_eq_true rfl) ?_
  have e4413 : I (ad g 1) 1 = L := hI.2
  have b4414 := BT_get hI.1 1 1 2 (0) (0) (900) (by decide) 1 (by decide) (by decide)
  rw [e4413] at b4414
  refine WP_aload_n dX7_tellLoss_0 rfl ?_
  refine WP_getr dX7_tellLoss_1 fX7_9 rfl (lyx_is hy 27 7 rfl) (rfx hr 27 5 28 (by decide)) ?_
  refine WP_iload_n dX7_tellLoss_4 rfl ?_
  refine WP_iload_n dX7_tellLoss_5 rfl ?_
  refine WQ_iast dX7_tellLoss_6 (lyx_is hy 28 13 rfl) (lyx_n hy 28 7 rfl) (by omega) (by omega) (fun I4415 eI4415 => ?_)
  have hI4415 : XI g n L I4415 := by rw [eI4415]; exact (xi_r hy hI (c := 28) (0) (0) (900) (by decide) (Or.inl (by decide)) (by decide) (by omega) (by omega))
  have e4416 : I4415 (ad g 1) 1 = L := by rw [eI4415, pp_ne _ _ (Or.inl (lyx_ne hy (by decide) (by decide) (by decide)))]; exact e4413
  clear eI4415
  refine WP_aload_n dX7_tellLoss_7 rfl ?_
  refine WQ_iconst (0) (0) dX7_tellLoss_8 rfl rfl (fun v4417 hv4417 => ?_)
  refine WQ_iconst (0) (0) dX7_tellLoss_9 rfl rfl (fun v4418 hv4418 => ?_)
  refine WP_iload_n dX7_tellLoss_10 rfl ?_
  refine WP_callV3 (k := 7) dX7_tellLoss_11 ⟨⟨⟨by decide, by decide⟩, zX7_hold⟩, lX7_109, by decide, rfl, vX7_hold.1, vX7_hold.2⟩ (lyx_is hy 27 7 rfl) (sx_hold_27 hy hr hI4415 v4417 v4418 da (by omega) (by omega) (by omega) (by omega) ) (Nat.le_of_ble_eq_true rfl) ?_
  intro r I4419 J4420 Ra hq
  obtain ⟨⟨hI4419, ec⟩, rfl⟩ := hq
  rw [ec]
  clear ec Ra
  have e4421 : I4419 (ad g 1) 1 = L := hI4419.2
  have b4422 := BT_get hI4419.1 1 1 2 (0) (0) (900) (by decide) 1 (by decide) (by decide)
  rw [e4421] at b4422
  exact WP_vret dX7_tellLoss_14 rfl ⟨⟨hI4419, rfl⟩, rfl⟩
set_option maxHeartbeats 4000000 in
set_option maxRecDepth 100000 in
theorem sx_tellSort_27 {g : GG} {n : Int} {L : Int32} (hy : LyX g)  {I : pI} {J : pJ} {R : pR} (hr : RfX g R) (hI : XI g n L I)   (hb : (I (ad g 4) 1).toInt ≤ 99 ∧ (I (ad g 4) 2).toInt ≤ 1000 ∧ (I (ad g 4) 3).toInt ≤ 60 ∧ (I (ad g 27) 1).toInt ≤ 3) : SP g mX7_tellSort [.ref (ad g 27), .ref (ad g 4)] I J R (fun r I' J' R' => (XI g n L I' ∧ R' = R ∧ True) ∧ r = none) := by
  refine SP_of ⟨by decide, rfl⟩ (Nat.le_of_ble_eq_true rfl) ?_
  have e4423 : I (ad g 1) 1 = L := hI.2
  have b4424 := BT_get hI.1 1 1 2 (0) (0) (900) (by decide) 1 (by decide) (by decide)
  rw [e4423] at b4424
  obtain ⟨w4425, ew4425⟩ : ∃ w : Int32, I (ad g 4) 1 = w := ⟨_, rfl⟩
  have bw4425 := BT_get hI.1 4 0 5 (0) (0) (1000) (by decide) 1 (by decide) (by decide)
  rw [ew4425] at bw4425
  obtain ⟨w4426, ew4426⟩ : ∃ w : Int32, I (ad g 4) 2 = w := ⟨_, rfl⟩
  have bw4426 := BT_get hI.1 4 0 5 (0) (0) (1000) (by decide) 2 (by decide) (by decide)
  rw [ew4426] at bw4426
  obtain ⟨w4427, ew4427⟩ : ∃ w : Int32, I (ad g 4) 3 = w := ⟨_, rfl⟩
  have bw4427 := BT_get hI.1 4 0 5 (0) (0) (1000) (by decide) 3 (by decide) (by decide)
  rw [ew4427] at bw4427
  obtain ⟨w4428, ew4428⟩ : ∃ w : Int32, I (ad g 27) 1 = w := ⟨_, rfl⟩
  have bw4428 := BT_get hI.1 27 1 2 (0) (0) (4) (by decide) 1 (by decide) (by decide)
  rw [ew4428] at bw4428
  rw [ew4425, ew4426, ew4427, ew4428] at hb
  refine WP_aload_n dX7_tellSort_0 rfl ?_
  refine WP_getr dX7_tellSort_1 fX7_15 rfl (lyx_is hy 27 7 rfl) (rfx hr 27 6 29 (by decide)) ?_
  refine WP_aload_n dX7_tellSort_4 rfl ?_
  refine WQ_getim dX7_tellSort_5 fX7_65 rfl (lyx_is hy 27 7 rfl) ew4428 ?_
  refine WP_aload_n dX7_tellSort_8 rfl ?_
  refine WQ_iconst (1) (1) dX7_tellSort_9 rfl rfl (fun v4429 hv4429 => ?_)
  refine WQ_ialdm (z := 1) dX7_tellSort_10 (lyx_is hy 4 13 rfl) (lyx_n hy 4 5 rfl) hv4429 (by decide) ew4425 ?_
  refine WQ_iast dX7_tellSort_11 (lyx_is hy 29 13 rfl) (lyx_n hy 29 4 rfl) (by omega) (by omega) (fun I4431 eI4431 => ?_)
  have hI4431 : XI g n L I4431 := by rw [eI4431]; exact (xi_r hy hI (c := 29) (0) (0) (99) (by decide) (Or.inl (by decide)) (by decide) (by omega) (by omega))
  have e4432 : I4431 (ad g 1) 1 = L := by rw [eI4431, pp_ne _ _ (Or.inl (lyx_ne hy (by decide) (by decide) (by decide)))]; exact e4423
  have e4433 : I4431 (ad g 4) 1 = w4425 := by rw [eI4431, pp_ne _ _ (Or.inl (lyx_ne hy (by decide) (by decide) (by decide)))]; exact ew4425
  have e4434 : I4431 (ad g 4) 2 = w4426 := by rw [eI4431, pp_ne _ _ (Or.inl (lyx_ne hy (by decide) (by decide) (by decide)))]; exact ew4426
  have e4435 : I4431 (ad g 4) 3 = w4427 := by rw [eI4431, pp_ne _ _ (Or.inl (lyx_ne hy (by decide) (by decide) (by decide)))]; exact ew4427
  have e4436 : I4431 (ad g 27) 1 = w4428 := by rw [eI4431, pp_ne _ _ (Or.inl (lyx_ne hy (by decide) (by decide) (by decide)))]; exact ew4428
  clear eI4431
  refine WP_aload_n dX7_tellSort_12 rfl ?_
  refine WP_getr dX7_tellSort_13 fX7_18 rfl (lyx_is hy 27 7 rfl) (rfx hr 27 7 30 (by decide)) ?_
  refine WP_aload_n dX7_tellSort_16 rfl ?_
  refine WQ_getim dX7_tellSort_17 fX7_65 rfl (lyx_is hy 27 7 rfl) e4436 ?_
  refine WP_aload_n dX7_tellSort_20 rfl ?_
  refine WQ_iconst (2) (2) dX7_tellSort_21 rfl rfl (fun v4437 hv4437 => ?_)
  refine WQ_ialdm (z := 2) dX7_tellSort_22 (lyx_is hy 4 13 rfl) (lyx_n hy 4 5 rfl) hv4437 (by decide) e4434 ?_
  refine WQ_iast dX7_tellSort_23 (lyx_is hy 30 13 rfl) (lyx_n hy 30 4 rfl) (by omega) (by omega) (fun I4439 eI4439 => ?_)
  have hI4439 : XI g n L I4439 := by rw [eI4439]; exact (xi_r hy hI4431 (c := 30) (0) (0) (1000) (by decide) (Or.inl (by decide)) (by decide) (by omega) (by omega))
  have e4440 : I4439 (ad g 1) 1 = L := by rw [eI4439, pp_ne _ _ (Or.inl (lyx_ne hy (by decide) (by decide) (by decide)))]; exact e4432
  have e4441 : I4439 (ad g 4) 1 = w4425 := by rw [eI4439, pp_ne _ _ (Or.inl (lyx_ne hy (by decide) (by decide) (by decide)))]; exact e4433
  have e4442 : I4439 (ad g 4) 2 = w4426 := by rw [eI4439, pp_ne _ _ (Or.inl (lyx_ne hy (by decide) (by decide) (by decide)))]; exact e4434
  have e4443 : I4439 (ad g 4) 3 = w4427 := by rw [eI4439, pp_ne _ _ (Or.inl (lyx_ne hy (by decide) (by decide) (by decide)))]; exact e4435
  have e4444 : I4439 (ad g 27) 1 = w4428 := by rw [eI4439, pp_ne _ _ (Or.inl (lyx_ne hy (by decide) (by decide) (by decide)))]; exact e4436
  clear eI4439
  refine WP_aload_n dX7_tellSort_24 rfl ?_
  refine WP_getr dX7_tellSort_25 fX7_21 rfl (lyx_is hy 27 7 rfl) (rfx hr 27 8 31 (by decide)) ?_
  refine WP_aload_n dX7_tellSort_28 rfl ?_
  refine WQ_getim dX7_tellSort_29 fX7_65 rfl (lyx_is hy 27 7 rfl) e4444 ?_
  refine WP_aload_n dX7_tellSort_32 rfl ?_
  refine WQ_iconst (3) (3) dX7_tellSort_33 rfl rfl (fun v4445 hv4445 => ?_)
  refine WQ_ialdm (z := 3) dX7_tellSort_34 (lyx_is hy 4 13 rfl) (lyx_n hy 4 5 rfl) hv4445 (by decide) e4443 ?_
  refine WQ_iast dX7_tellSort_35 (lyx_is hy 31 13 rfl) (lyx_n hy 31 4 rfl) (by omega) (by omega) (fun I4447 eI4447 => ?_)
  have hI4447 : XI g n L I4447 := by rw [eI4447]; exact (xi_r hy hI4439 (c := 31) (0) (0) (60) (by decide) (Or.inl (by decide)) (by decide) (by omega) (by omega))
  have e4448 : I4447 (ad g 1) 1 = L := by rw [eI4447, pp_ne _ _ (Or.inl (lyx_ne hy (by decide) (by decide) (by decide)))]; exact e4440
  have e4449 : I4447 (ad g 4) 1 = w4425 := by rw [eI4447, pp_ne _ _ (Or.inl (lyx_ne hy (by decide) (by decide) (by decide)))]; exact e4441
  have e4450 : I4447 (ad g 4) 2 = w4426 := by rw [eI4447, pp_ne _ _ (Or.inl (lyx_ne hy (by decide) (by decide) (by decide)))]; exact e4442
  have e4451 : I4447 (ad g 4) 3 = w4427 := by rw [eI4447, pp_ne _ _ (Or.inl (lyx_ne hy (by decide) (by decide) (by decide)))]; exact e4443
  have e4452 : I4447 (ad g 27) 1 = w4428 := by rw [eI4447, pp_ne _ _ (Or.inl (lyx_ne hy (by decide) (by decide) (by decide)))]; exact e4444
  clear eI4447
  refine WP_aload_n dX7_tellSort_36 rfl ?_
  refine WP_dup dX7_tellSort_37 rfl ?_
  refine WQ_getim dX7_tellSort_38 fX7_65 rfl (lyx_is hy 27 7 rfl) e4452 ?_
  refine WQ_iconst (1) (1) dX7_tellSort_41 rfl rfl (fun v4453 hv4453 => ?_)
  refine WQ_iadd dX7_tellSort_42 (by omega) (by omega) (fun v4454 hv4454 => ?_)
  refine WQ_puti dX7_tellSort_43 fX7_65 rfl rfl (lyx_is hy 27 7 rfl) (fun I4455 eI4455 => ?_)
  have hI4455 : XI g n L I4455 := by rw [eI4455]; exact (xi_f hy hI4447 (c := 27) (0) (0) (4) (by decide) (Or.inl (by decide)) (by decide) (by omega) (by omega))
  have e4456 : I4455 (ad g 1) 1 = L := by rw [eI4455, pp_ne _ _ (Or.inl (lyx_ne hy (by decide) (by decide) (by decide)))]; exact e4448
  have e4457 : I4455 (ad g 4) 1 = w4425 := by rw [eI4455, pp_ne _ _ (Or.inl (lyx_ne hy (by decide) (by decide) (by decide)))]; exact e4449
  have e4458 : I4455 (ad g 4) 2 = w4426 := by rw [eI4455, pp_ne _ _ (Or.inl (lyx_ne hy (by decide) (by decide) (by decide)))]; exact e4450
  have e4459 : I4455 (ad g 4) 3 = w4427 := by rw [eI4455, pp_ne _ _ (Or.inl (lyx_ne hy (by decide) (by decide) (by decide)))]; exact e4451
  have e4460 : I4455 (ad g 27) 1 = v4454 := by rw [eI4455, pp_self]
  clear eI4455
  exact WP_vret dX7_tellSort_46 rfl ⟨⟨hI4455, rfl, trivial⟩, rfl⟩
set_option maxHeartbeats 4000000 in
set_option maxRecDepth 100000 in
theorem sx_tellThing_27 {g : GG} {n : Int} {L : Int32} (hy : LyX g)  {I : pI} {J : pJ} {R : pR} (hr : RfX g R) (hI : XI g n L I)   (hb : (I (ad g 4) 1).toInt ≤ 1000 ∧ (I (ad g 4) 2).toInt ≤ 9 ∧ (I (ad g 27) 2).toInt ≤ 2) : SP g mX7_tellThing [.ref (ad g 27), .ref (ad g 4)] I J R (fun r I' J' R' => (XI g n L I' ∧ R' = R ∧ True) ∧ r = none) := by
  refine SP_of ⟨by decide, rfl⟩ (Nat.le_of_ble_eq_true rfl) ?_
  have e4461 : I (ad g 1) 1 = L := hI.2
  have b4462 := BT_get hI.1 1 1 2 (0) (0) (900) (by decide) 1 (by decide) (by decide)
  rw [e4461] at b4462
  obtain ⟨w4463, ew4463⟩ : ∃ w : Int32, I (ad g 4) 1 = w := ⟨_, rfl⟩
  have bw4463 := BT_get hI.1 4 0 5 (0) (0) (1000) (by decide) 1 (by decide) (by decide)
  rw [ew4463] at bw4463
  obtain ⟨w4464, ew4464⟩ : ∃ w : Int32, I (ad g 4) 2 = w := ⟨_, rfl⟩
  have bw4464 := BT_get hI.1 4 0 5 (0) (0) (1000) (by decide) 2 (by decide) (by decide)
  rw [ew4464] at bw4464
  obtain ⟨w4465, ew4465⟩ : ∃ w : Int32, I (ad g 27) 2 = w := ⟨_, rfl⟩
  have bw4465 := BT_get hI.1 27 2 3 (0) (0) (3) (by decide) 2 (by decide) (by decide)
  rw [ew4465] at bw4465
  rw [ew4463, ew4464, ew4465] at hb
  refine WP_aload_n dX7_tellThing_0 rfl ?_
  refine WP_getr dX7_tellThing_1 fX7_39 rfl (lyx_is hy 27 7 rfl) (rfx hr 27 14 37 (by decide)) ?_
  refine WP_aload_n dX7_tellThing_4 rfl ?_
  refine WQ_getim dX7_tellThing_5 fX7_68 rfl (lyx_is hy 27 7 rfl) ew4465 ?_
  refine WP_aload_n dX7_tellThing_8 rfl ?_
  refine WQ_iconst (1) (1) dX7_tellThing_9 rfl rfl (fun v4466 hv4466 => ?_)
  refine WQ_ialdm (z := 1) dX7_tellThing_10 (lyx_is hy 4 13 rfl) (lyx_n hy 4 5 rfl) hv4466 (by decide) ew4463 ?_
  refine WQ_iast dX7_tellThing_11 (lyx_is hy 37 13 rfl) (lyx_n hy 37 3 rfl) (by omega) (by omega) (fun I4468 eI4468 => ?_)
  have hI4468 : XI g n L I4468 := by rw [eI4468]; exact (xi_r hy hI (c := 37) (0) (0) (1000) (by decide) (Or.inl (by decide)) (by decide) (by omega) (by omega))
  have e4469 : I4468 (ad g 1) 1 = L := by rw [eI4468, pp_ne _ _ (Or.inl (lyx_ne hy (by decide) (by decide) (by decide)))]; exact e4461
  have e4470 : I4468 (ad g 4) 1 = w4463 := by rw [eI4468, pp_ne _ _ (Or.inl (lyx_ne hy (by decide) (by decide) (by decide)))]; exact ew4463
  have e4471 : I4468 (ad g 4) 2 = w4464 := by rw [eI4468, pp_ne _ _ (Or.inl (lyx_ne hy (by decide) (by decide) (by decide)))]; exact ew4464
  have e4472 : I4468 (ad g 27) 2 = w4465 := by rw [eI4468, pp_ne _ _ (Or.inl (lyx_ne hy (by decide) (by decide) (by decide)))]; exact ew4465
  clear eI4468
  refine WP_aload_n dX7_tellThing_12 rfl ?_
  refine WP_getr dX7_tellThing_13 fX7_42 rfl (lyx_is hy 27 7 rfl) (rfx hr 27 15 38 (by decide)) ?_
  refine WP_aload_n dX7_tellThing_16 rfl ?_
  refine WQ_getim dX7_tellThing_17 fX7_68 rfl (lyx_is hy 27 7 rfl) e4472 ?_
  refine WP_aload_n dX7_tellThing_20 rfl ?_
  refine WQ_iconst (2) (2) dX7_tellThing_21 rfl rfl (fun v4473 hv4473 => ?_)
  refine WQ_ialdm (z := 2) dX7_tellThing_22 (lyx_is hy 4 13 rfl) (lyx_n hy 4 5 rfl) hv4473 (by decide) e4471 ?_
  refine WQ_iast dX7_tellThing_23 (lyx_is hy 38 13 rfl) (lyx_n hy 38 3 rfl) (by omega) (by omega) (fun I4475 eI4475 => ?_)
  have hI4475 : XI g n L I4475 := by rw [eI4475]; exact (xi_r hy hI4468 (c := 38) (0) (0) (9) (by decide) (Or.inl (by decide)) (by decide) (by omega) (by omega))
  have e4476 : I4475 (ad g 1) 1 = L := by rw [eI4475, pp_ne _ _ (Or.inl (lyx_ne hy (by decide) (by decide) (by decide)))]; exact e4469
  have e4477 : I4475 (ad g 4) 1 = w4463 := by rw [eI4475, pp_ne _ _ (Or.inl (lyx_ne hy (by decide) (by decide) (by decide)))]; exact e4470
  have e4478 : I4475 (ad g 4) 2 = w4464 := by rw [eI4475, pp_ne _ _ (Or.inl (lyx_ne hy (by decide) (by decide) (by decide)))]; exact e4471
  have e4479 : I4475 (ad g 27) 2 = w4465 := by rw [eI4475, pp_ne _ _ (Or.inl (lyx_ne hy (by decide) (by decide) (by decide)))]; exact e4472
  clear eI4475
  refine WP_aload_n dX7_tellThing_24 rfl ?_
  refine WP_dup dX7_tellThing_25 rfl ?_
  refine WQ_getim dX7_tellThing_26 fX7_68 rfl (lyx_is hy 27 7 rfl) e4479 ?_
  refine WQ_iconst (1) (1) dX7_tellThing_29 rfl rfl (fun v4480 hv4480 => ?_)
  refine WQ_iadd dX7_tellThing_30 (by omega) (by omega) (fun v4481 hv4481 => ?_)
  refine WQ_puti dX7_tellThing_31 fX7_68 rfl rfl (lyx_is hy 27 7 rfl) (fun I4482 eI4482 => ?_)
  have hI4482 : XI g n L I4482 := by rw [eI4482]; exact (xi_f hy hI4475 (c := 27) (0) (0) (3) (by decide) (Or.inl (by decide)) (by decide) (by omega) (by omega))
  have e4483 : I4482 (ad g 1) 1 = L := by rw [eI4482, pp_ne _ _ (Or.inl (lyx_ne hy (by decide) (by decide) (by decide)))]; exact e4476
  have e4484 : I4482 (ad g 4) 1 = w4463 := by rw [eI4482, pp_ne _ _ (Or.inl (lyx_ne hy (by decide) (by decide) (by decide)))]; exact e4477
  have e4485 : I4482 (ad g 4) 2 = w4464 := by rw [eI4482, pp_ne _ _ (Or.inl (lyx_ne hy (by decide) (by decide) (by decide)))]; exact e4478
  have e4486 : I4482 (ad g 27) 2 = v4481 := by rw [eI4482, pp_self]
  clear eI4482
  refine WP_aload_n dX7_tellThing_34 rfl ?_
  refine WQ_geti dX7_tellThing_35 fX7_74 rfl (lyx_is hy 27 7 rfl) (BT_get hI4482.1 27 4 5 (-1) (0) (2) (by decide) 4 (by decide) (by decide)) (fun v4487 ev4487 av4487 bv4487 => ?_)
  refine WQ_iconst (-1) (-1) dX7_tellThing_38 rfl rfl (fun v4488 hv4488 => ?_)
  refine WQ_icmp_ne 47 dX7_tellThing_39 rfl (fun c4488 => ?_) (fun c4488 => ?_)
  · exact WP_vret dX7_tellThing_47 rfl ⟨⟨hI4482, rfl, trivial⟩, rfl⟩
  · refine WP_aload_n dX7_tellThing_42 rfl ?_
    refine WQ_iconst (0) (0) dX7_tellThing_43 rfl rfl (fun v4490 hv4490 => ?_)
    refine WQ_puti dX7_tellThing_44 fX7_74 rfl rfl (lyx_is hy 27 7 rfl) (fun I4491 eI4491 => ?_)
    have hI4491 : XI g n L I4491 := by rw [eI4491]; exact (xi_f hy hI4482 (c := 27) (-1) (0) (2) (by decide) (Or.inl (by decide)) (by decide) (by omega) (by omega))
    have e4492 : I4491 (ad g 1) 1 = L := by rw [eI4491, pp_ne _ _ (Or.inl (lyx_ne hy (by decide) (by decide) (by decide)))]; exact e4483
    have e4493 : I4491 (ad g 4) 1 = w4463 := by rw [eI4491, pp_ne _ _ (Or.inl (lyx_ne hy (by decide) (by decide) (by decide)))]; exact e4484
    have e4494 : I4491 (ad g 4) 2 = w4464 := by rw [eI4491, pp_ne _ _ (Or.inl (lyx_ne hy (by decide) (by decide) (by decide)))]; exact e4485
    have e4495 : I4491 (ad g 27) 2 = v4481 := by rw [eI4491, pp_ne _ _ (Or.inr (by decide))]; exact e4486
    have e4496 : I4491 (ad g 27) 4 = v4490 := by rw [eI4491, pp_self]
    clear eI4491
    exact WP_vret dX7_tellThing_47 rfl ⟨⟨hI4491, rfl, trivial⟩, rfl⟩
set_option maxHeartbeats 4000000 in
set_option maxRecDepth 100000 in
theorem sx_tellWant_27 {g : GG} {n : Int} {L : Int32} (hy : LyX g)  {I : pI} {J : pJ} {R : pR} (hr : RfX g R) (hI : XI g n L I)   (hb : (I (ad g 4) 0).toInt ≤ 3 ∧ (I (ad g 4) 1).toInt ≤ 2 ∧ (I (ad g 4) 2).toInt ≤ 6 ∧ (I (ad g 4) 3).toInt ≤ 3 ∧ (I (ad g 4) 4).toInt ≤ 99) : SP g mX7_tellWant [.ref (ad g 27), .ref (ad g 4)] I J R (fun r I' J' R' => (XI g n L I' ∧ R' = R ∧ True) ∧ r = none) := by
  refine SP_of ⟨by decide, rfl⟩ (Nat.le_of_ble_eq_true rfl) ?_
  have e4497 : I (ad g 1) 1 = L := hI.2
  have b4498 := BT_get hI.1 1 1 2 (0) (0) (900) (by decide) 1 (by decide) (by decide)
  rw [e4497] at b4498
  obtain ⟨w4499, ew4499⟩ : ∃ w : Int32, I (ad g 4) 0 = w := ⟨_, rfl⟩
  have bw4499 := BT_get hI.1 4 0 5 (0) (0) (1000) (by decide) 0 (by decide) (by decide)
  rw [ew4499] at bw4499
  obtain ⟨w4500, ew4500⟩ : ∃ w : Int32, I (ad g 4) 1 = w := ⟨_, rfl⟩
  have bw4500 := BT_get hI.1 4 0 5 (0) (0) (1000) (by decide) 1 (by decide) (by decide)
  rw [ew4500] at bw4500
  obtain ⟨w4501, ew4501⟩ : ∃ w : Int32, I (ad g 4) 2 = w := ⟨_, rfl⟩
  have bw4501 := BT_get hI.1 4 0 5 (0) (0) (1000) (by decide) 2 (by decide) (by decide)
  rw [ew4501] at bw4501
  obtain ⟨w4502, ew4502⟩ : ∃ w : Int32, I (ad g 4) 3 = w := ⟨_, rfl⟩
  have bw4502 := BT_get hI.1 4 0 5 (0) (0) (1000) (by decide) 3 (by decide) (by decide)
  rw [ew4502] at bw4502
  obtain ⟨w4503, ew4503⟩ : ∃ w : Int32, I (ad g 4) 4 = w := ⟨_, rfl⟩
  have bw4503 := BT_get hI.1 4 0 5 (0) (0) (1000) (by decide) 4 (by decide) (by decide)
  rw [ew4503] at bw4503
  rw [ew4499, ew4500, ew4501, ew4502, ew4503] at hb
  refine WP_aload_n dX7_tellWant_0 rfl ?_
  refine WQ_iconst (0) (0) dX7_tellWant_1 rfl rfl (fun v4504 hv4504 => ?_)
  refine WQ_ialdm (z := 0) dX7_tellWant_2 (lyx_is hy 4 13 rfl) (lyx_n hy 4 5 rfl) hv4504 (by decide) ew4499 ?_
  refine WQ_bipush (7) (7) dX7_tellWant_3 rfl rfl (fun v4506 hv4506 => ?_)
  refine WQ_imulk (7) dX7_tellWant_5 hv4506 (by omega) (by omega) (fun v4507 hv4507 => ?_)
  refine WP_aload_n dX7_tellWant_6 rfl ?_
  refine WQ_iconst (2) (2) dX7_tellWant_7 rfl rfl (fun v4508 hv4508 => ?_)
  refine WQ_ialdm (z := 2) dX7_tellWant_8 (lyx_is hy 4 13 rfl) (lyx_n hy 4 5 rfl) hv4508 (by decide) ew4501 ?_
  refine WQ_iadd dX7_tellWant_9 (by omega) (by omega) (fun v4510 hv4510 => ?_)
  refine WP_istore_n (ls' := [(0, _), (1, _), (2, _)]) dX7_tellWant_10 (by decide) rfl ?_
  refine WP_aload_n dX7_tellWant_11 rfl ?_
  refine WP_getr dX7_tellWant_12 fX7_30 rfl (lyx_is hy 27 7 rfl) (rfx hr 27 11 34 (by decide)) ?_
  refine WP_iload_n dX7_tellWant_15 rfl ?_
  refine WP_aload_n dX7_tellWant_16 rfl ?_
  refine WQ_iconst (1) (1) dX7_tellWant_17 rfl rfl (fun v4511 hv4511 => ?_)
  refine WQ_ialdm (z := 1) dX7_tellWant_18 (lyx_is hy 4 13 rfl) (lyx_n hy 4 5 rfl) hv4511 (by decide) ew4500 ?_
  refine WQ_iast dX7_tellWant_19 (lyx_is hy 34 13 rfl) (lyx_n hy 34 28 rfl) (by omega) (by omega) (fun I4513 eI4513 => ?_)
  have hI4513 : XI g n L I4513 := by rw [eI4513]; exact (xi_r hy hI (c := 34) (-1) (0) (2) (by decide) (Or.inl (by decide)) (by decide) (by omega) (by omega))
  have e4514 : I4513 (ad g 1) 1 = L := by rw [eI4513, pp_ne _ _ (Or.inl (lyx_ne hy (by decide) (by decide) (by decide)))]; exact e4497
  have e4515 : I4513 (ad g 4) 0 = w4499 := by rw [eI4513, pp_ne _ _ (Or.inl (lyx_ne hy (by decide) (by decide) (by decide)))]; exact ew4499
  have e4516 : I4513 (ad g 4) 1 = w4500 := by rw [eI4513, pp_ne _ _ (Or.inl (lyx_ne hy (by decide) (by decide) (by decide)))]; exact ew4500
  have e4517 : I4513 (ad g 4) 2 = w4501 := by rw [eI4513, pp_ne _ _ (Or.inl (lyx_ne hy (by decide) (by decide) (by decide)))]; exact ew4501
  have e4518 : I4513 (ad g 4) 3 = w4502 := by rw [eI4513, pp_ne _ _ (Or.inl (lyx_ne hy (by decide) (by decide) (by decide)))]; exact ew4502
  have e4519 : I4513 (ad g 4) 4 = w4503 := by rw [eI4513, pp_ne _ _ (Or.inl (lyx_ne hy (by decide) (by decide) (by decide)))]; exact ew4503
  clear eI4513
  refine WP_aload_n dX7_tellWant_20 rfl ?_
  refine WP_getr dX7_tellWant_21 fX7_33 rfl (lyx_is hy 27 7 rfl) (rfx hr 27 12 35 (by decide)) ?_
  refine WP_iload_n dX7_tellWant_24 rfl ?_
  refine WP_aload_n dX7_tellWant_25 rfl ?_
  refine WQ_iconst (3) (3) dX7_tellWant_26 rfl rfl (fun v4520 hv4520 => ?_)
  refine WQ_ialdm (z := 3) dX7_tellWant_27 (lyx_is hy 4 13 rfl) (lyx_n hy 4 5 rfl) hv4520 (by decide) e4518 ?_
  refine WQ_iast dX7_tellWant_28 (lyx_is hy 35 13 rfl) (lyx_n hy 35 28 rfl) (by omega) (by omega) (fun I4522 eI4522 => ?_)
  have hI4522 : XI g n L I4522 := by rw [eI4522]; exact (xi_r hy hI4513 (c := 35) (0) (0) (3) (by decide) (Or.inl (by decide)) (by decide) (by omega) (by omega))
  have e4523 : I4522 (ad g 1) 1 = L := by rw [eI4522, pp_ne _ _ (Or.inl (lyx_ne hy (by decide) (by decide) (by decide)))]; exact e4514
  have e4524 : I4522 (ad g 4) 0 = w4499 := by rw [eI4522, pp_ne _ _ (Or.inl (lyx_ne hy (by decide) (by decide) (by decide)))]; exact e4515
  have e4525 : I4522 (ad g 4) 1 = w4500 := by rw [eI4522, pp_ne _ _ (Or.inl (lyx_ne hy (by decide) (by decide) (by decide)))]; exact e4516
  have e4526 : I4522 (ad g 4) 2 = w4501 := by rw [eI4522, pp_ne _ _ (Or.inl (lyx_ne hy (by decide) (by decide) (by decide)))]; exact e4517
  have e4527 : I4522 (ad g 4) 3 = w4502 := by rw [eI4522, pp_ne _ _ (Or.inl (lyx_ne hy (by decide) (by decide) (by decide)))]; exact e4518
  have e4528 : I4522 (ad g 4) 4 = w4503 := by rw [eI4522, pp_ne _ _ (Or.inl (lyx_ne hy (by decide) (by decide) (by decide)))]; exact e4519
  clear eI4522
  refine WP_aload_n dX7_tellWant_29 rfl ?_
  refine WP_getr dX7_tellWant_30 fX7_36 rfl (lyx_is hy 27 7 rfl) (rfx hr 27 13 36 (by decide)) ?_
  refine WP_iload_n dX7_tellWant_33 rfl ?_
  refine WP_aload_n dX7_tellWant_34 rfl ?_
  refine WQ_iconst (4) (4) dX7_tellWant_35 rfl rfl (fun v4529 hv4529 => ?_)
  refine WQ_ialdm (z := 4) dX7_tellWant_36 (lyx_is hy 4 13 rfl) (lyx_n hy 4 5 rfl) hv4529 (by decide) e4528 ?_
  refine WQ_iast dX7_tellWant_37 (lyx_is hy 36 13 rfl) (lyx_n hy 36 28 rfl) (by omega) (by omega) (fun I4531 eI4531 => ?_)
  have hI4531 : XI g n L I4531 := by rw [eI4531]; exact (xi_r hy hI4522 (c := 36) (0) (0) (99) (by decide) (Or.inl (by decide)) (by decide) (by omega) (by omega))
  have e4532 : I4531 (ad g 1) 1 = L := by rw [eI4531, pp_ne _ _ (Or.inl (lyx_ne hy (by decide) (by decide) (by decide)))]; exact e4523
  have e4533 : I4531 (ad g 4) 0 = w4499 := by rw [eI4531, pp_ne _ _ (Or.inl (lyx_ne hy (by decide) (by decide) (by decide)))]; exact e4524
  have e4534 : I4531 (ad g 4) 1 = w4500 := by rw [eI4531, pp_ne _ _ (Or.inl (lyx_ne hy (by decide) (by decide) (by decide)))]; exact e4525
  have e4535 : I4531 (ad g 4) 2 = w4501 := by rw [eI4531, pp_ne _ _ (Or.inl (lyx_ne hy (by decide) (by decide) (by decide)))]; exact e4526
  have e4536 : I4531 (ad g 4) 3 = w4502 := by rw [eI4531, pp_ne _ _ (Or.inl (lyx_ne hy (by decide) (by decide) (by decide)))]; exact e4527
  have e4537 : I4531 (ad g 4) 4 = w4503 := by rw [eI4531, pp_ne _ _ (Or.inl (lyx_ne hy (by decide) (by decide) (by decide)))]; exact e4528
  clear eI4531
  refine WP_aload_n dX7_tellWant_38 rfl ?_
  refine WQ_bipush (6) (6) dX7_tellWant_39 rfl rfl (fun v4538 hv4538 => ?_)
  refine WP_aload_n dX7_tellWant_41 rfl ?_
  refine WQ_iconst (0) (0) dX7_tellWant_42 rfl rfl (fun v4539 hv4539 => ?_)
  refine WQ_ialdm (z := 0) dX7_tellWant_43 (lyx_is hy 4 13 rfl) (lyx_n hy 4 5 rfl) hv4539 (by decide) e4533 ?_
  refine WP_aload_n dX7_tellWant_44 rfl ?_
  refine WQ_iconst (2) (2) dX7_tellWant_45 rfl rfl (fun v4541 hv4541 => ?_)
  refine WQ_ialdm (z := 2) dX7_tellWant_46 (lyx_is hy 4 13 rfl) (lyx_n hy 4 5 rfl) hv4541 (by decide) e4535 ?_
  refine WP_callV3 (k := 7) dX7_tellWant_47 ⟨⟨⟨by decide, by decide⟩, zX7_hold⟩, lX7_109, by decide, rfl, vX7_hold.1, vX7_hold.2⟩ (lyx_is hy 27 7 rfl) (sx_hold_27 hy hr hI4531 v4538 w4499 w4501 (by omega) (by omega) (by omega) (by omega) ) (Nat.le_of_ble_eq_true rfl) ?_
  intro r I4543 J4544 Ra hq
  obtain ⟨⟨hI4543, ec⟩, rfl⟩ := hq
  rw [ec]
  clear ec Ra
  have e4545 : I4543 (ad g 1) 1 = L := hI4543.2
  have b4546 := BT_get hI4543.1 1 1 2 (0) (0) (900) (by decide) 1 (by decide) (by decide)
  rw [e4545] at b4546
  exact WP_vret dX7_tellWant_50 rfl ⟨⟨hI4543, rfl, trivial⟩, rfl⟩
set_option maxHeartbeats 4000000 in
set_option maxRecDepth 100000 in
theorem sx_tellOn_27_3 {g : GG} {n : Int} {L : Int32} (hy : LyX g)  {I : pI} {J : pJ} {R : pR} (hr : RfX g R) (hI : XI g n L I) (cl : Int32) (cl_lo : 3 ≤ cl.toInt) (cl_hi : cl.toInt ≤ 3) (hb : (I (ad g 4) 0).toInt ≤ 3 ∧ (I (ad g 4) 1).toInt ≤ 6 ∧ (I (ad g 4) 2).toInt ≤ 20) : SP g mX7_tellOn [.ref (ad g 27), .ref (ad g 33), .int cl, .ref (ad g 4)] I J R (fun r I' J' R' => (XI g n L I' ∧ R' = R ∧ True) ∧ r = none) := by
  refine SP_of ⟨by decide, rfl⟩ (Nat.le_of_ble_eq_true rfl) ?_
  have e4547 : I (ad g 1) 1 = L := hI.2
  have b4548 := BT_get hI.1 1 1 2 (0) (0) (900) (by decide) 1 (by decide) (by decide)
  rw [e4547] at b4548
  obtain ⟨w4549, ew4549⟩ : ∃ w : Int32, I (ad g 4) 0 = w := ⟨_, rfl⟩
  have bw4549 := BT_get hI.1 4 0 5 (0) (0) (1000) (by decide) 0 (by decide) (by decide)
  rw [ew4549] at bw4549
  obtain ⟨w4550, ew4550⟩ : ∃ w : Int32, I (ad g 4) 1 = w := ⟨_, rfl⟩
  have bw4550 := BT_get hI.1 4 0 5 (0) (0) (1000) (by decide) 1 (by decide) (by decide)
  rw [ew4550] at bw4550
  obtain ⟨w4551, ew4551⟩ : ∃ w : Int32, I (ad g 4) 2 = w := ⟨_, rfl⟩
  have bw4551 := BT_get hI.1 4 0 5 (0) (0) (1000) (by decide) 2 (by decide) (by decide)
  rw [ew4551] at bw4551
  rw [ew4549, ew4550, ew4551] at hb
  refine WP_aload_n dX7_tellOn_0 rfl ?_
  refine WP_aload_n dX7_tellOn_1 rfl ?_
  refine WQ_iconst (0) (0) dX7_tellOn_2 rfl rfl (fun v4552 hv4552 => ?_)
  refine WQ_ialdm (z := 0) dX7_tellOn_3 (lyx_is hy 4 13 rfl) (lyx_n hy 4 5 rfl) hv4552 (by decide) ew4549 ?_
  refine WQ_bipush (7) (7) dX7_tellOn_4 rfl rfl (fun v4554 hv4554 => ?_)
  refine WQ_imulk (7) dX7_tellOn_6 hv4554 (by omega) (by omega) (fun v4555 hv4555 => ?_)
  refine WP_aload_n dX7_tellOn_7 rfl ?_
  refine WQ_iconst (1) (1) dX7_tellOn_8 rfl rfl (fun v4556 hv4556 => ?_)
  refine WQ_ialdm (z := 1) dX7_tellOn_9 (lyx_is hy 4 13 rfl) (lyx_n hy 4 5 rfl) hv4556 (by decide) ew4550 ?_
  refine WQ_iadd dX7_tellOn_10 (by omega) (by omega) (fun v4558 hv4558 => ?_)
  refine WP_aload_n dX7_tellOn_11 rfl ?_
  refine WQ_iconst (2) (2) dX7_tellOn_12 rfl rfl (fun v4559 hv4559 => ?_)
  refine WQ_ialdm (z := 2) dX7_tellOn_13 (lyx_is hy 4 13 rfl) (lyx_n hy 4 5 rfl) hv4559 (by decide) ew4551 ?_
  refine WQ_iast dX7_tellOn_14 (lyx_is hy 33 13 rfl) (lyx_n hy 33 28 rfl) (by omega) (by omega) (fun I4561 eI4561 => ?_)
  have hI4561 : XI g n L I4561 := by rw [eI4561]; exact (xi_r hy hI (c := 33) (0) (0) (20) (by decide) (Or.inl (by decide)) (by decide) (by omega) (by omega))
  have e4562 : I4561 (ad g 1) 1 = L := by rw [eI4561, pp_ne _ _ (Or.inl (lyx_ne hy (by decide) (by decide) (by decide)))]; exact e4547
  have e4563 : I4561 (ad g 4) 0 = w4549 := by rw [eI4561, pp_ne _ _ (Or.inl (lyx_ne hy (by decide) (by decide) (by decide)))]; exact ew4549
  have e4564 : I4561 (ad g 4) 1 = w4550 := by rw [eI4561, pp_ne _ _ (Or.inl (lyx_ne hy (by decide) (by decide) (by decide)))]; exact ew4550
  have e4565 : I4561 (ad g 4) 2 = w4551 := by rw [eI4561, pp_ne _ _ (Or.inl (lyx_ne hy (by decide) (by decide) (by decide)))]; exact ew4551
  clear eI4561
  refine WP_aload_n dX7_tellOn_15 rfl ?_
  refine WP_iload_n dX7_tellOn_16 rfl ?_
  refine WP_aload_n dX7_tellOn_17 rfl ?_
  refine WQ_iconst (0) (0) dX7_tellOn_18 rfl rfl (fun v4566 hv4566 => ?_)
  refine WQ_ialdm (z := 0) dX7_tellOn_19 (lyx_is hy 4 13 rfl) (lyx_n hy 4 5 rfl) hv4566 (by decide) e4563 ?_
  refine WP_aload_n dX7_tellOn_20 rfl ?_
  refine WQ_iconst (1) (1) dX7_tellOn_21 rfl rfl (fun v4568 hv4568 => ?_)
  refine WQ_ialdm (z := 1) dX7_tellOn_22 (lyx_is hy 4 13 rfl) (lyx_n hy 4 5 rfl) hv4568 (by decide) e4564 ?_
  refine WP_callV3 (k := 7) dX7_tellOn_23 ⟨⟨⟨by decide, by decide⟩, zX7_hold⟩, lX7_109, by decide, rfl, vX7_hold.1, vX7_hold.2⟩ (lyx_is hy 27 7 rfl) (sx_hold_27 hy hr hI4561 cl w4549 w4550 (by omega) (by omega) (by omega) (by omega) ) (Nat.le_of_ble_eq_true rfl) ?_
  intro r I4570 J4571 Ra hq
  obtain ⟨⟨hI4570, ec⟩, rfl⟩ := hq
  rw [ec]
  clear ec Ra
  have e4572 : I4570 (ad g 1) 1 = L := hI4570.2
  have b4573 := BT_get hI4570.1 1 1 2 (0) (0) (900) (by decide) 1 (by decide) (by decide)
  rw [e4572] at b4573
  exact WP_vret dX7_tellOn_26 rfl ⟨⟨hI4570, rfl, trivial⟩, rfl⟩
set_option maxHeartbeats 4000000 in
set_option maxRecDepth 100000 in
theorem sx_tellOn_27_4 {g : GG} {n : Int} {L : Int32} (hy : LyX g)  {I : pI} {J : pJ} {R : pR} (hr : RfX g R) (hI : XI g n L I) (cl : Int32) (cl_lo : 4 ≤ cl.toInt) (cl_hi : cl.toInt ≤ 4) (hb : (I (ad g 4) 0).toInt ≤ 2 ∧ (I (ad g 4) 1).toInt ≤ 6 ∧ (I (ad g 4) 2).toInt ≤ 20) : SP g mX7_tellOn [.ref (ad g 27), .ref (ad g 39), .int cl, .ref (ad g 4)] I J R (fun r I' J' R' => (XI g n L I' ∧ R' = R ∧ True) ∧ r = none) := by
  refine SP_of ⟨by decide, rfl⟩ (Nat.le_of_ble_eq_true rfl) ?_
  have e4574 : I (ad g 1) 1 = L := hI.2
  have b4575 := BT_get hI.1 1 1 2 (0) (0) (900) (by decide) 1 (by decide) (by decide)
  rw [e4574] at b4575
  obtain ⟨w4576, ew4576⟩ : ∃ w : Int32, I (ad g 4) 0 = w := ⟨_, rfl⟩
  have bw4576 := BT_get hI.1 4 0 5 (0) (0) (1000) (by decide) 0 (by decide) (by decide)
  rw [ew4576] at bw4576
  obtain ⟨w4577, ew4577⟩ : ∃ w : Int32, I (ad g 4) 1 = w := ⟨_, rfl⟩
  have bw4577 := BT_get hI.1 4 0 5 (0) (0) (1000) (by decide) 1 (by decide) (by decide)
  rw [ew4577] at bw4577
  obtain ⟨w4578, ew4578⟩ : ∃ w : Int32, I (ad g 4) 2 = w := ⟨_, rfl⟩
  have bw4578 := BT_get hI.1 4 0 5 (0) (0) (1000) (by decide) 2 (by decide) (by decide)
  rw [ew4578] at bw4578
  rw [ew4576, ew4577, ew4578] at hb
  refine WP_aload_n dX7_tellOn_0 rfl ?_
  refine WP_aload_n dX7_tellOn_1 rfl ?_
  refine WQ_iconst (0) (0) dX7_tellOn_2 rfl rfl (fun v4579 hv4579 => ?_)
  refine WQ_ialdm (z := 0) dX7_tellOn_3 (lyx_is hy 4 13 rfl) (lyx_n hy 4 5 rfl) hv4579 (by decide) ew4576 ?_
  refine WQ_bipush (7) (7) dX7_tellOn_4 rfl rfl (fun v4581 hv4581 => ?_)
  refine WQ_imulk (7) dX7_tellOn_6 hv4581 (by omega) (by omega) (fun v4582 hv4582 => ?_)
  refine WP_aload_n dX7_tellOn_7 rfl ?_
  refine WQ_iconst (1) (1) dX7_tellOn_8 rfl rfl (fun v4583 hv4583 => ?_)
  refine WQ_ialdm (z := 1) dX7_tellOn_9 (lyx_is hy 4 13 rfl) (lyx_n hy 4 5 rfl) hv4583 (by decide) ew4577 ?_
  refine WQ_iadd dX7_tellOn_10 (by omega) (by omega) (fun v4585 hv4585 => ?_)
  refine WP_aload_n dX7_tellOn_11 rfl ?_
  refine WQ_iconst (2) (2) dX7_tellOn_12 rfl rfl (fun v4586 hv4586 => ?_)
  refine WQ_ialdm (z := 2) dX7_tellOn_13 (lyx_is hy 4 13 rfl) (lyx_n hy 4 5 rfl) hv4586 (by decide) ew4578 ?_
  refine WQ_iast dX7_tellOn_14 (lyx_is hy 39 13 rfl) (lyx_n hy 39 21 rfl) (by omega) (by omega) (fun I4588 eI4588 => ?_)
  have hI4588 : XI g n L I4588 := by rw [eI4588]; exact (xi_r hy hI (c := 39) (0) (0) (20) (by decide) (Or.inl (by decide)) (by decide) (by omega) (by omega))
  have e4589 : I4588 (ad g 1) 1 = L := by rw [eI4588, pp_ne _ _ (Or.inl (lyx_ne hy (by decide) (by decide) (by decide)))]; exact e4574
  have e4590 : I4588 (ad g 4) 0 = w4576 := by rw [eI4588, pp_ne _ _ (Or.inl (lyx_ne hy (by decide) (by decide) (by decide)))]; exact ew4576
  have e4591 : I4588 (ad g 4) 1 = w4577 := by rw [eI4588, pp_ne _ _ (Or.inl (lyx_ne hy (by decide) (by decide) (by decide)))]; exact ew4577
  have e4592 : I4588 (ad g 4) 2 = w4578 := by rw [eI4588, pp_ne _ _ (Or.inl (lyx_ne hy (by decide) (by decide) (by decide)))]; exact ew4578
  clear eI4588
  refine WP_aload_n dX7_tellOn_15 rfl ?_
  refine WP_iload_n dX7_tellOn_16 rfl ?_
  refine WP_aload_n dX7_tellOn_17 rfl ?_
  refine WQ_iconst (0) (0) dX7_tellOn_18 rfl rfl (fun v4593 hv4593 => ?_)
  refine WQ_ialdm (z := 0) dX7_tellOn_19 (lyx_is hy 4 13 rfl) (lyx_n hy 4 5 rfl) hv4593 (by decide) e4590 ?_
  refine WP_aload_n dX7_tellOn_20 rfl ?_
  refine WQ_iconst (1) (1) dX7_tellOn_21 rfl rfl (fun v4595 hv4595 => ?_)
  refine WQ_ialdm (z := 1) dX7_tellOn_22 (lyx_is hy 4 13 rfl) (lyx_n hy 4 5 rfl) hv4595 (by decide) e4591 ?_
  refine WP_callV3 (k := 7) dX7_tellOn_23 ⟨⟨⟨by decide, by decide⟩, zX7_hold⟩, lX7_109, by decide, rfl, vX7_hold.1, vX7_hold.2⟩ (lyx_is hy 27 7 rfl) (sx_hold_27 hy hr hI4588 cl w4576 w4577 (by omega) (by omega) (by omega) (by omega) ) (Nat.le_of_ble_eq_true rfl) ?_
  intro r I4597 J4598 Ra hq
  obtain ⟨⟨hI4597, ec⟩, rfl⟩ := hq
  rw [ec]
  clear ec Ra
  have e4599 : I4597 (ad g 1) 1 = L := hI4597.2
  have b4600 := BT_get hI4597.1 1 1 2 (0) (0) (900) (by decide) 1 (by decide) (by decide)
  rw [e4599] at b4600
  exact WP_vret dX7_tellOn_26 rfl ⟨⟨hI4597, rfl, trivial⟩, rfl⟩
set_option maxHeartbeats 4000000 in
set_option maxRecDepth 100000 in
theorem sx_tellOn_27_5 {g : GG} {n : Int} {L : Int32} (hy : LyX g)  {I : pI} {J : pJ} {R : pR} (hr : RfX g R) (hI : XI g n L I) (cl : Int32) (cl_lo : 5 ≤ cl.toInt) (cl_hi : cl.toInt ≤ 5) (hb : (I (ad g 4) 0).toInt ≤ 2 ∧ (I (ad g 4) 1).toInt ≤ 6 ∧ (I (ad g 4) 2).toInt ≤ 999) : SP g mX7_tellOn [.ref (ad g 27), .ref (ad g 40), .int cl, .ref (ad g 4)] I J R (fun r I' J' R' => (XI g n L I' ∧ R' = R ∧ True) ∧ r = none) := by
  refine SP_of ⟨by decide, rfl⟩ (Nat.le_of_ble_eq_true rfl) ?_
  have e4601 : I (ad g 1) 1 = L := hI.2
  have b4602 := BT_get hI.1 1 1 2 (0) (0) (900) (by decide) 1 (by decide) (by decide)
  rw [e4601] at b4602
  obtain ⟨w4603, ew4603⟩ : ∃ w : Int32, I (ad g 4) 0 = w := ⟨_, rfl⟩
  have bw4603 := BT_get hI.1 4 0 5 (0) (0) (1000) (by decide) 0 (by decide) (by decide)
  rw [ew4603] at bw4603
  obtain ⟨w4604, ew4604⟩ : ∃ w : Int32, I (ad g 4) 1 = w := ⟨_, rfl⟩
  have bw4604 := BT_get hI.1 4 0 5 (0) (0) (1000) (by decide) 1 (by decide) (by decide)
  rw [ew4604] at bw4604
  obtain ⟨w4605, ew4605⟩ : ∃ w : Int32, I (ad g 4) 2 = w := ⟨_, rfl⟩
  have bw4605 := BT_get hI.1 4 0 5 (0) (0) (1000) (by decide) 2 (by decide) (by decide)
  rw [ew4605] at bw4605
  rw [ew4603, ew4604, ew4605] at hb
  refine WP_aload_n dX7_tellOn_0 rfl ?_
  refine WP_aload_n dX7_tellOn_1 rfl ?_
  refine WQ_iconst (0) (0) dX7_tellOn_2 rfl rfl (fun v4606 hv4606 => ?_)
  refine WQ_ialdm (z := 0) dX7_tellOn_3 (lyx_is hy 4 13 rfl) (lyx_n hy 4 5 rfl) hv4606 (by decide) ew4603 ?_
  refine WQ_bipush (7) (7) dX7_tellOn_4 rfl rfl (fun v4608 hv4608 => ?_)
  refine WQ_imulk (7) dX7_tellOn_6 hv4608 (by omega) (by omega) (fun v4609 hv4609 => ?_)
  refine WP_aload_n dX7_tellOn_7 rfl ?_
  refine WQ_iconst (1) (1) dX7_tellOn_8 rfl rfl (fun v4610 hv4610 => ?_)
  refine WQ_ialdm (z := 1) dX7_tellOn_9 (lyx_is hy 4 13 rfl) (lyx_n hy 4 5 rfl) hv4610 (by decide) ew4604 ?_
  refine WQ_iadd dX7_tellOn_10 (by omega) (by omega) (fun v4612 hv4612 => ?_)
  refine WP_aload_n dX7_tellOn_11 rfl ?_
  refine WQ_iconst (2) (2) dX7_tellOn_12 rfl rfl (fun v4613 hv4613 => ?_)
  refine WQ_ialdm (z := 2) dX7_tellOn_13 (lyx_is hy 4 13 rfl) (lyx_n hy 4 5 rfl) hv4613 (by decide) ew4605 ?_
  refine WQ_iast dX7_tellOn_14 (lyx_is hy 40 13 rfl) (lyx_n hy 40 21 rfl) (by omega) (by omega) (fun I4615 eI4615 => ?_)
  have hI4615 : XI g n L I4615 := by rw [eI4615]; exact (xi_r hy hI (c := 40) (-1) (0) (999) (by decide) (Or.inl (by decide)) (by decide) (by omega) (by omega))
  have e4616 : I4615 (ad g 1) 1 = L := by rw [eI4615, pp_ne _ _ (Or.inl (lyx_ne hy (by decide) (by decide) (by decide)))]; exact e4601
  have e4617 : I4615 (ad g 4) 0 = w4603 := by rw [eI4615, pp_ne _ _ (Or.inl (lyx_ne hy (by decide) (by decide) (by decide)))]; exact ew4603
  have e4618 : I4615 (ad g 4) 1 = w4604 := by rw [eI4615, pp_ne _ _ (Or.inl (lyx_ne hy (by decide) (by decide) (by decide)))]; exact ew4604
  have e4619 : I4615 (ad g 4) 2 = w4605 := by rw [eI4615, pp_ne _ _ (Or.inl (lyx_ne hy (by decide) (by decide) (by decide)))]; exact ew4605
  clear eI4615
  refine WP_aload_n dX7_tellOn_15 rfl ?_
  refine WP_iload_n dX7_tellOn_16 rfl ?_
  refine WP_aload_n dX7_tellOn_17 rfl ?_
  refine WQ_iconst (0) (0) dX7_tellOn_18 rfl rfl (fun v4620 hv4620 => ?_)
  refine WQ_ialdm (z := 0) dX7_tellOn_19 (lyx_is hy 4 13 rfl) (lyx_n hy 4 5 rfl) hv4620 (by decide) e4617 ?_
  refine WP_aload_n dX7_tellOn_20 rfl ?_
  refine WQ_iconst (1) (1) dX7_tellOn_21 rfl rfl (fun v4622 hv4622 => ?_)
  refine WQ_ialdm (z := 1) dX7_tellOn_22 (lyx_is hy 4 13 rfl) (lyx_n hy 4 5 rfl) hv4622 (by decide) e4618 ?_
  refine WP_callV3 (k := 7) dX7_tellOn_23 ⟨⟨⟨by decide, by decide⟩, zX7_hold⟩, lX7_109, by decide, rfl, vX7_hold.1, vX7_hold.2⟩ (lyx_is hy 27 7 rfl) (sx_hold_27 hy hr hI4615 cl w4603 w4604 (by omega) (by omega) (by omega) (by omega) ) (Nat.le_of_ble_eq_true rfl) ?_
  intro r I4624 J4625 Ra hq
  obtain ⟨⟨hI4624, ec⟩, rfl⟩ := hq
  rw [ec]
  clear ec Ra
  have e4626 : I4624 (ad g 1) 1 = L := hI4624.2
  have b4627 := BT_get hI4624.1 1 1 2 (0) (0) (900) (by decide) 1 (by decide) (by decide)
  rw [e4626] at b4627
  exact WP_vret dX7_tellOn_26 rfl ⟨⟨hI4624, rfl, trivial⟩, rfl⟩
set_option maxHeartbeats 4000000 in
set_option maxRecDepth 100000 in
theorem sx_tell_27_0 {g : GG} {n : Int} {L : Int32} (hy : LyX g)  {I : pI} {J : pJ} {R : pR} (hr : RfX g R) (hI : XI g n L I) (cl : Int32) (cl_lo : 0 ≤ cl.toInt) (cl_hi : cl.toInt ≤ 0) (hb : (I (ad g 4) 0).toInt ≤ 6 ∧ (I (ad g 4) 1).toInt ≤ 900) : SP g mX7_tell [.ref (ad g 27), .int cl, .ref (ad g 4)] I J R (fun r I' J' R' => (XI g n L I' ∧ R' = R ∧ True) ∧ r = none) := by
  refine SP_of ⟨by decide, rfl⟩ (Nat.le_of_ble_eq_true rfl) ?_
  have e4628 : I (ad g 1) 1 = L := hI.2
  have b4629 := BT_get hI.1 1 1 2 (0) (0) (900) (by decide) 1 (by decide) (by decide)
  rw [e4628] at b4629
  obtain ⟨w4630, ew4630⟩ : ∃ w : Int32, I (ad g 4) 0 = w := ⟨_, rfl⟩
  have bw4630 := BT_get hI.1 4 0 5 (0) (0) (1000) (by decide) 0 (by decide) (by decide)
  rw [ew4630] at bw4630
  obtain ⟨w4631, ew4631⟩ : ∃ w : Int32, I (ad g 4) 1 = w := ⟨_, rfl⟩
  have bw4631 := BT_get hI.1 4 0 5 (0) (0) (1000) (by decide) 1 (by decide) (by decide)
  rw [ew4631] at bw4631
  rw [ew4630, ew4631] at hb
  refine WP_aload_n dX7_tell_0 rfl ?_
  refine WP_dup dX7_tell_1 rfl ?_
  refine WQ_getiu dX7_tell_2 fX7_61 rfl (lyx_is hy 27 7 rfl) (fun v4632 ev4632 => ?_)
  refine WQ_iconst (1) (1) dX7_tell_5 rfl rfl (fun v4633 hv4633 => ?_)
  refine WQ_iaddu dX7_tell_6 (fun v4634 => ?_)
  refine WQ_puti dX7_tell_7 fX7_61 rfl rfl (lyx_is hy 27 7 rfl) (fun I4635 eI4635 => ?_)
  have hI4635 : XI g n L I4635 := by rw [eI4635]; exact (xi_f0 hy hI (c := 27) (by decide) (Or.inl (by decide)) (by decide))
  have e4636 : I4635 (ad g 1) 1 = L := by rw [eI4635, pp_ne _ _ (Or.inl (lyx_ne hy (by decide) (by decide) (by decide)))]; exact e4628
  have e4637 : I4635 (ad g 4) 0 = w4630 := by rw [eI4635, pp_ne _ _ (Or.inl (lyx_ne hy (by decide) (by decide) (by decide)))]; exact ew4630
  have e4638 : I4635 (ad g 4) 1 = w4631 := by rw [eI4635, pp_ne _ _ (Or.inl (lyx_ne hy (by decide) (by decide) (by decide)))]; exact ew4631
  have e4639 : I4635 (ad g 27) 0 = v4634 := by rw [eI4635, pp_self]
  clear eI4635
  refine WP_iload_n dX7_tell_10 rfl ?_
  refine WP_tab 178 dX7_tell_11 rfl rfl (fun c4639 => ?_) (fun j off c4639 hj => ?_) (by decide)
  · exact False.elim (by omega)
  · have hlt : j < 9 := by have := (Array.getElem?_eq_some_iff.mp hj).1; simpa using this
    have hcs : (j = 0 ∧ off = 49) ∨ (j = 1 ∧ off = 62) ∨ (j = 2 ∧ off = 70) ∨ (j = 3 ∧ off = 78) ∨ (j = 4 ∧ off = 91) ∨ (j = 5 ∧ off = 104) ∨ (j = 6 ∧ off = 117) ∨ (j = 7 ∧ off = 125) ∨ (j = 8 ∧ off = 149) := by
      match j, hlt, hj with
      | 0, _, hj => exact Or.inl ⟨rfl, (Option.some.inj hj).symm⟩
      | 1, _, hj => exact Or.inr (Or.inl ⟨rfl, (Option.some.inj hj).symm⟩)
      | 2, _, hj => exact Or.inr (Or.inr (Or.inl ⟨rfl, (Option.some.inj hj).symm⟩))
      | 3, _, hj => exact Or.inr (Or.inr (Or.inr (Or.inl ⟨rfl, (Option.some.inj hj).symm⟩)))
      | 4, _, hj => exact Or.inr (Or.inr (Or.inr (Or.inr (Or.inl ⟨rfl, (Option.some.inj hj).symm⟩))))
      | 5, _, hj => exact Or.inr (Or.inr (Or.inr (Or.inr (Or.inr (Or.inl ⟨rfl, (Option.some.inj hj).symm⟩)))))
      | 6, _, hj => exact Or.inr (Or.inr (Or.inr (Or.inr (Or.inr (Or.inr (Or.inl ⟨rfl, (Option.some.inj hj).symm⟩))))))
      | 7, _, hj => exact Or.inr (Or.inr (Or.inr (Or.inr (Or.inr (Or.inr (Or.inr (Or.inl ⟨rfl, (Option.some.inj hj).symm⟩)))))))
      | 8, _, hj => exact Or.inr (Or.inr (Or.inr (Or.inr (Or.inr (Or.inr (Or.inr (Or.inr (⟨rfl, (Option.some.inj hj).symm⟩))))))))
    clear hj hlt
    rcases hcs with ⟨rfl, rfl⟩ | ⟨rfl, rfl⟩ | ⟨rfl, rfl⟩ | ⟨rfl, rfl⟩ | ⟨rfl, rfl⟩ | ⟨rfl, rfl⟩ | ⟨rfl, rfl⟩ | ⟨rfl, rfl⟩ | ⟨rfl, rfl⟩
    · show WP _ _ 60 _ _ _ _ _ _
      refine WP_aload_n dX7_tell_60 rfl ?_
      refine WP_aload_n dX7_tell_61 rfl ?_
      refine WQ_iconst (0) (0) dX7_tell_62 rfl rfl (fun v4641 hv4641 => ?_)
      refine WQ_ialdm (z := 0) dX7_tell_63 (lyx_is hy 4 13 rfl) (lyx_n hy 4 5 rfl) hv4641 (by decide) e4637 ?_
      refine WP_aload_n dX7_tell_64 rfl ?_
      refine WQ_iconst (1) (1) dX7_tell_65 rfl rfl (fun v4643 hv4643 => ?_)
      refine WQ_ialdm (z := 1) dX7_tell_66 (lyx_is hy 4 13 rfl) (lyx_n hy 4 5 rfl) hv4643 (by decide) e4638 ?_
      refine WP_callV2 (k := 7) dX7_tell_67 ⟨⟨⟨by decide, by decide⟩, zX7_tellLoss⟩, lX7_91, by decide, rfl, vX7_tellLoss.1, vX7_tellLoss.2⟩ (lyx_is hy 27 7 rfl) (sx_tellLoss_27 hy hr hI4635 w4630 w4631 (by omega) (by omega) (by omega) (by omega)) (Nat.le_of_ble_eq_true rfl) ?_
      intro r I4645 J4646 Ra hq
      obtain ⟨⟨hI4645, ec⟩, rfl⟩ := hq
      rw [ec]
      clear ec Ra
      have e4647 : I4645 (ad g 1) 1 = L := hI4645.2
      have b4648 := BT_get hI4645.1 1 1 2 (0) (0) (900) (by decide) 1 (by decide) (by decide)
      rw [e4647] at b4648
      refine WP_goto 193 dX7_tell_70 rfl ?_
      exact WP_vret dX7_tell_193 rfl ⟨⟨hI4645, rfl, trivial⟩, rfl⟩
    · exact False.elim (by omega)
    · exact False.elim (by omega)
    · exact False.elim (by omega)
    · exact False.elim (by omega)
    · exact False.elim (by omega)
    · exact False.elim (by omega)
    · exact False.elim (by omega)
    · exact False.elim (by omega)
set_option maxHeartbeats 4000000 in
set_option maxRecDepth 100000 in
theorem sx_tell_27_1 {g : GG} {n : Int} {L : Int32} (hy : LyX g)  {I : pI} {J : pJ} {R : pR} (hr : RfX g R) (hI : XI g n L I) (cl : Int32) (cl_lo : 1 ≤ cl.toInt) (cl_hi : cl.toInt ≤ 1) (hb : (I (ad g 4) 1).toInt ≤ 99 ∧ (I (ad g 4) 2).toInt ≤ 1000 ∧ (I (ad g 4) 3).toInt ≤ 60 ∧ (I (ad g 27) 1).toInt ≤ 3) : SP g mX7_tell [.ref (ad g 27), .int cl, .ref (ad g 4)] I J R (fun r I' J' R' => (XI g n L I' ∧ R' = R ∧ True) ∧ r = none) := by
  refine SP_of ⟨by decide, rfl⟩ (Nat.le_of_ble_eq_true rfl) ?_
  have e4649 : I (ad g 1) 1 = L := hI.2
  have b4650 := BT_get hI.1 1 1 2 (0) (0) (900) (by decide) 1 (by decide) (by decide)
  rw [e4649] at b4650
  obtain ⟨w4651, ew4651⟩ : ∃ w : Int32, I (ad g 4) 1 = w := ⟨_, rfl⟩
  have bw4651 := BT_get hI.1 4 0 5 (0) (0) (1000) (by decide) 1 (by decide) (by decide)
  rw [ew4651] at bw4651
  obtain ⟨w4652, ew4652⟩ : ∃ w : Int32, I (ad g 4) 2 = w := ⟨_, rfl⟩
  have bw4652 := BT_get hI.1 4 0 5 (0) (0) (1000) (by decide) 2 (by decide) (by decide)
  rw [ew4652] at bw4652
  obtain ⟨w4653, ew4653⟩ : ∃ w : Int32, I (ad g 4) 3 = w := ⟨_, rfl⟩
  have bw4653 := BT_get hI.1 4 0 5 (0) (0) (1000) (by decide) 3 (by decide) (by decide)
  rw [ew4653] at bw4653
  obtain ⟨w4654, ew4654⟩ : ∃ w : Int32, I (ad g 27) 1 = w := ⟨_, rfl⟩
  have bw4654 := BT_get hI.1 27 1 2 (0) (0) (4) (by decide) 1 (by decide) (by decide)
  rw [ew4654] at bw4654
  rw [ew4651, ew4652, ew4653, ew4654] at hb
  refine WP_aload_n dX7_tell_0 rfl ?_
  refine WP_dup dX7_tell_1 rfl ?_
  refine WQ_getiu dX7_tell_2 fX7_61 rfl (lyx_is hy 27 7 rfl) (fun v4655 ev4655 => ?_)
  refine WQ_iconst (1) (1) dX7_tell_5 rfl rfl (fun v4656 hv4656 => ?_)
  refine WQ_iaddu dX7_tell_6 (fun v4657 => ?_)
  refine WQ_puti dX7_tell_7 fX7_61 rfl rfl (lyx_is hy 27 7 rfl) (fun I4658 eI4658 => ?_)
  have hI4658 : XI g n L I4658 := by rw [eI4658]; exact (xi_f0 hy hI (c := 27) (by decide) (Or.inl (by decide)) (by decide))
  have e4659 : I4658 (ad g 1) 1 = L := by rw [eI4658, pp_ne _ _ (Or.inl (lyx_ne hy (by decide) (by decide) (by decide)))]; exact e4649
  have e4660 : I4658 (ad g 4) 1 = w4651 := by rw [eI4658, pp_ne _ _ (Or.inl (lyx_ne hy (by decide) (by decide) (by decide)))]; exact ew4651
  have e4661 : I4658 (ad g 4) 2 = w4652 := by rw [eI4658, pp_ne _ _ (Or.inl (lyx_ne hy (by decide) (by decide) (by decide)))]; exact ew4652
  have e4662 : I4658 (ad g 4) 3 = w4653 := by rw [eI4658, pp_ne _ _ (Or.inl (lyx_ne hy (by decide) (by decide) (by decide)))]; exact ew4653
  have e4663 : I4658 (ad g 27) 1 = w4654 := by rw [eI4658, pp_ne _ _ (Or.inr (by decide))]; exact ew4654
  have e4664 : I4658 (ad g 27) 0 = v4657 := by rw [eI4658, pp_self]
  clear eI4658
  refine WP_iload_n dX7_tell_10 rfl ?_
  refine WP_tab 178 dX7_tell_11 rfl rfl (fun c4664 => ?_) (fun j off c4664 hj => ?_) (by decide)
  · exact False.elim (by omega)
  · have hlt : j < 9 := by have := (Array.getElem?_eq_some_iff.mp hj).1; simpa using this
    have hcs : (j = 0 ∧ off = 49) ∨ (j = 1 ∧ off = 62) ∨ (j = 2 ∧ off = 70) ∨ (j = 3 ∧ off = 78) ∨ (j = 4 ∧ off = 91) ∨ (j = 5 ∧ off = 104) ∨ (j = 6 ∧ off = 117) ∨ (j = 7 ∧ off = 125) ∨ (j = 8 ∧ off = 149) := by
      match j, hlt, hj with
      | 0, _, hj => exact Or.inl ⟨rfl, (Option.some.inj hj).symm⟩
      | 1, _, hj => exact Or.inr (Or.inl ⟨rfl, (Option.some.inj hj).symm⟩)
      | 2, _, hj => exact Or.inr (Or.inr (Or.inl ⟨rfl, (Option.some.inj hj).symm⟩))
      | 3, _, hj => exact Or.inr (Or.inr (Or.inr (Or.inl ⟨rfl, (Option.some.inj hj).symm⟩)))
      | 4, _, hj => exact Or.inr (Or.inr (Or.inr (Or.inr (Or.inl ⟨rfl, (Option.some.inj hj).symm⟩))))
      | 5, _, hj => exact Or.inr (Or.inr (Or.inr (Or.inr (Or.inr (Or.inl ⟨rfl, (Option.some.inj hj).symm⟩)))))
      | 6, _, hj => exact Or.inr (Or.inr (Or.inr (Or.inr (Or.inr (Or.inr (Or.inl ⟨rfl, (Option.some.inj hj).symm⟩))))))
      | 7, _, hj => exact Or.inr (Or.inr (Or.inr (Or.inr (Or.inr (Or.inr (Or.inr (Or.inl ⟨rfl, (Option.some.inj hj).symm⟩)))))))
      | 8, _, hj => exact Or.inr (Or.inr (Or.inr (Or.inr (Or.inr (Or.inr (Or.inr (Or.inr (⟨rfl, (Option.some.inj hj).symm⟩))))))))
    clear hj hlt
    rcases hcs with ⟨rfl, rfl⟩ | ⟨rfl, rfl⟩ | ⟨rfl, rfl⟩ | ⟨rfl, rfl⟩ | ⟨rfl, rfl⟩ | ⟨rfl, rfl⟩ | ⟨rfl, rfl⟩ | ⟨rfl, rfl⟩ | ⟨rfl, rfl⟩
    · exact False.elim (by omega)
    · show WP _ _ 73 _ _ _ _ _ _
      refine WP_aload_n dX7_tell_73 rfl ?_
      refine WP_aload_n dX7_tell_74 rfl ?_
      refine WP_callV1 (k := 7) dX7_tell_75 ⟨⟨⟨by decide, by decide⟩, zX7_tellSort⟩, lX7_95, by decide, rfl, vX7_tellSort.1, vX7_tellSort.2⟩ (lyx_is hy 27 7 rfl) (sx_tellSort_27 hy hr hI4658   (by rw [e4660, e4661, e4662, e4663]; omega)) (Nat.le_of_ble_eq_true rfl) ?_
      intro r I4666 J4667 Ra hq
      obtain ⟨⟨hI4666, ec, pI4666⟩, rfl⟩ := hq
      rw [ec]
      clear ec Ra
      have e4668 : I4666 (ad g 1) 1 = L := hI4666.2
      have b4669 := BT_get hI4666.1 1 1 2 (0) (0) (900) (by decide) 1 (by decide) (by decide)
      rw [e4668] at b4669
      refine WP_goto 193 dX7_tell_78 rfl ?_
      exact WP_vret dX7_tell_193 rfl ⟨⟨hI4666, rfl, trivial⟩, rfl⟩
    · exact False.elim (by omega)
    · exact False.elim (by omega)
    · exact False.elim (by omega)
    · exact False.elim (by omega)
    · exact False.elim (by omega)
    · exact False.elim (by omega)
    · exact False.elim (by omega)
set_option maxHeartbeats 4000000 in
set_option maxRecDepth 100000 in
theorem sx_tell_27_2 {g : GG} {n : Int} {L : Int32} (hy : LyX g)  {I : pI} {J : pJ} {R : pR} (hr : RfX g R) (hI : XI g n L I) (cl : Int32) (cl_lo : 2 ≤ cl.toInt) (cl_hi : cl.toInt ≤ 2) (hb : (I (ad g 4) 1).toInt ≤ 1000 ∧ (I (ad g 4) 2).toInt ≤ 9 ∧ (I (ad g 27) 2).toInt ≤ 2) : SP g mX7_tell [.ref (ad g 27), .int cl, .ref (ad g 4)] I J R (fun r I' J' R' => (XI g n L I' ∧ R' = R ∧ True) ∧ r = none) := by
  refine SP_of ⟨by decide, rfl⟩ (Nat.le_of_ble_eq_true rfl) ?_
  have e4670 : I (ad g 1) 1 = L := hI.2
  have b4671 := BT_get hI.1 1 1 2 (0) (0) (900) (by decide) 1 (by decide) (by decide)
  rw [e4670] at b4671
  obtain ⟨w4672, ew4672⟩ : ∃ w : Int32, I (ad g 4) 1 = w := ⟨_, rfl⟩
  have bw4672 := BT_get hI.1 4 0 5 (0) (0) (1000) (by decide) 1 (by decide) (by decide)
  rw [ew4672] at bw4672
  obtain ⟨w4673, ew4673⟩ : ∃ w : Int32, I (ad g 4) 2 = w := ⟨_, rfl⟩
  have bw4673 := BT_get hI.1 4 0 5 (0) (0) (1000) (by decide) 2 (by decide) (by decide)
  rw [ew4673] at bw4673
  obtain ⟨w4674, ew4674⟩ : ∃ w : Int32, I (ad g 27) 2 = w := ⟨_, rfl⟩
  have bw4674 := BT_get hI.1 27 2 3 (0) (0) (3) (by decide) 2 (by decide) (by decide)
  rw [ew4674] at bw4674
  rw [ew4672, ew4673, ew4674] at hb
  refine WP_aload_n dX7_tell_0 rfl ?_
  refine WP_dup dX7_tell_1 rfl ?_
  refine WQ_getiu dX7_tell_2 fX7_61 rfl (lyx_is hy 27 7 rfl) (fun v4675 ev4675 => ?_)
  refine WQ_iconst (1) (1) dX7_tell_5 rfl rfl (fun v4676 hv4676 => ?_)
  refine WQ_iaddu dX7_tell_6 (fun v4677 => ?_)
  refine WQ_puti dX7_tell_7 fX7_61 rfl rfl (lyx_is hy 27 7 rfl) (fun I4678 eI4678 => ?_)
  have hI4678 : XI g n L I4678 := by rw [eI4678]; exact (xi_f0 hy hI (c := 27) (by decide) (Or.inl (by decide)) (by decide))
  have e4679 : I4678 (ad g 1) 1 = L := by rw [eI4678, pp_ne _ _ (Or.inl (lyx_ne hy (by decide) (by decide) (by decide)))]; exact e4670
  have e4680 : I4678 (ad g 4) 1 = w4672 := by rw [eI4678, pp_ne _ _ (Or.inl (lyx_ne hy (by decide) (by decide) (by decide)))]; exact ew4672
  have e4681 : I4678 (ad g 4) 2 = w4673 := by rw [eI4678, pp_ne _ _ (Or.inl (lyx_ne hy (by decide) (by decide) (by decide)))]; exact ew4673
  have e4682 : I4678 (ad g 27) 2 = w4674 := by rw [eI4678, pp_ne _ _ (Or.inr (by decide))]; exact ew4674
  have e4683 : I4678 (ad g 27) 0 = v4677 := by rw [eI4678, pp_self]
  clear eI4678
  refine WP_iload_n dX7_tell_10 rfl ?_
  refine WP_tab 178 dX7_tell_11 rfl rfl (fun c4683 => ?_) (fun j off c4683 hj => ?_) (by decide)
  · exact False.elim (by omega)
  · have hlt : j < 9 := by have := (Array.getElem?_eq_some_iff.mp hj).1; simpa using this
    have hcs : (j = 0 ∧ off = 49) ∨ (j = 1 ∧ off = 62) ∨ (j = 2 ∧ off = 70) ∨ (j = 3 ∧ off = 78) ∨ (j = 4 ∧ off = 91) ∨ (j = 5 ∧ off = 104) ∨ (j = 6 ∧ off = 117) ∨ (j = 7 ∧ off = 125) ∨ (j = 8 ∧ off = 149) := by
      match j, hlt, hj with
      | 0, _, hj => exact Or.inl ⟨rfl, (Option.some.inj hj).symm⟩
      | 1, _, hj => exact Or.inr (Or.inl ⟨rfl, (Option.some.inj hj).symm⟩)
      | 2, _, hj => exact Or.inr (Or.inr (Or.inl ⟨rfl, (Option.some.inj hj).symm⟩))
      | 3, _, hj => exact Or.inr (Or.inr (Or.inr (Or.inl ⟨rfl, (Option.some.inj hj).symm⟩)))
      | 4, _, hj => exact Or.inr (Or.inr (Or.inr (Or.inr (Or.inl ⟨rfl, (Option.some.inj hj).symm⟩))))
      | 5, _, hj => exact Or.inr (Or.inr (Or.inr (Or.inr (Or.inr (Or.inl ⟨rfl, (Option.some.inj hj).symm⟩)))))
      | 6, _, hj => exact Or.inr (Or.inr (Or.inr (Or.inr (Or.inr (Or.inr (Or.inl ⟨rfl, (Option.some.inj hj).symm⟩))))))
      | 7, _, hj => exact Or.inr (Or.inr (Or.inr (Or.inr (Or.inr (Or.inr (Or.inr (Or.inl ⟨rfl, (Option.some.inj hj).symm⟩)))))))
      | 8, _, hj => exact Or.inr (Or.inr (Or.inr (Or.inr (Or.inr (Or.inr (Or.inr (Or.inr (⟨rfl, (Option.some.inj hj).symm⟩))))))))
    clear hj hlt
    rcases hcs with ⟨rfl, rfl⟩ | ⟨rfl, rfl⟩ | ⟨rfl, rfl⟩ | ⟨rfl, rfl⟩ | ⟨rfl, rfl⟩ | ⟨rfl, rfl⟩ | ⟨rfl, rfl⟩ | ⟨rfl, rfl⟩ | ⟨rfl, rfl⟩
    · exact False.elim (by omega)
    · exact False.elim (by omega)
    · show WP _ _ 81 _ _ _ _ _ _
      refine WP_aload_n dX7_tell_81 rfl ?_
      refine WP_aload_n dX7_tell_82 rfl ?_
      refine WP_callV1 (k := 7) dX7_tell_83 ⟨⟨⟨by decide, by decide⟩, zX7_tellThing⟩, lX7_99, by decide, rfl, vX7_tellThing.1, vX7_tellThing.2⟩ (lyx_is hy 27 7 rfl) (sx_tellThing_27 hy hr hI4678   (by rw [e4680, e4681, e4682]; omega)) (Nat.le_of_ble_eq_true rfl) ?_
      intro r I4685 J4686 Ra hq
      obtain ⟨⟨hI4685, ec, pI4685⟩, rfl⟩ := hq
      rw [ec]
      clear ec Ra
      have e4687 : I4685 (ad g 1) 1 = L := hI4685.2
      have b4688 := BT_get hI4685.1 1 1 2 (0) (0) (900) (by decide) 1 (by decide) (by decide)
      rw [e4687] at b4688
      refine WP_goto 193 dX7_tell_86 rfl ?_
      exact WP_vret dX7_tell_193 rfl ⟨⟨hI4685, rfl, trivial⟩, rfl⟩
    · exact False.elim (by omega)
    · exact False.elim (by omega)
    · exact False.elim (by omega)
    · exact False.elim (by omega)
    · exact False.elim (by omega)
    · exact False.elim (by omega)
set_option maxHeartbeats 4000000 in
set_option maxRecDepth 100000 in
theorem sx_tell_27_3 {g : GG} {n : Int} {L : Int32} (hy : LyX g)  {I : pI} {J : pJ} {R : pR} (hr : RfX g R) (hI : XI g n L I) (cl : Int32) (cl_lo : 3 ≤ cl.toInt) (cl_hi : cl.toInt ≤ 3) (hb : (I (ad g 4) 0).toInt ≤ 3 ∧ (I (ad g 4) 1).toInt ≤ 6 ∧ (I (ad g 4) 2).toInt ≤ 20) : SP g mX7_tell [.ref (ad g 27), .int cl, .ref (ad g 4)] I J R (fun r I' J' R' => (XI g n L I' ∧ R' = R ∧ True) ∧ r = none) := by
  refine SP_of ⟨by decide, rfl⟩ (Nat.le_of_ble_eq_true rfl) ?_
  have e4689 : I (ad g 1) 1 = L := hI.2
  have b4690 := BT_get hI.1 1 1 2 (0) (0) (900) (by decide) 1 (by decide) (by decide)
  rw [e4689] at b4690
  obtain ⟨w4691, ew4691⟩ : ∃ w : Int32, I (ad g 4) 0 = w := ⟨_, rfl⟩
  have bw4691 := BT_get hI.1 4 0 5 (0) (0) (1000) (by decide) 0 (by decide) (by decide)
  rw [ew4691] at bw4691
  obtain ⟨w4692, ew4692⟩ : ∃ w : Int32, I (ad g 4) 1 = w := ⟨_, rfl⟩
  have bw4692 := BT_get hI.1 4 0 5 (0) (0) (1000) (by decide) 1 (by decide) (by decide)
  rw [ew4692] at bw4692
  obtain ⟨w4693, ew4693⟩ : ∃ w : Int32, I (ad g 4) 2 = w := ⟨_, rfl⟩
  have bw4693 := BT_get hI.1 4 0 5 (0) (0) (1000) (by decide) 2 (by decide) (by decide)
  rw [ew4693] at bw4693
  rw [ew4691, ew4692, ew4693] at hb
  refine WP_aload_n dX7_tell_0 rfl ?_
  refine WP_dup dX7_tell_1 rfl ?_
  refine WQ_getiu dX7_tell_2 fX7_61 rfl (lyx_is hy 27 7 rfl) (fun v4694 ev4694 => ?_)
  refine WQ_iconst (1) (1) dX7_tell_5 rfl rfl (fun v4695 hv4695 => ?_)
  refine WQ_iaddu dX7_tell_6 (fun v4696 => ?_)
  refine WQ_puti dX7_tell_7 fX7_61 rfl rfl (lyx_is hy 27 7 rfl) (fun I4697 eI4697 => ?_)
  have hI4697 : XI g n L I4697 := by rw [eI4697]; exact (xi_f0 hy hI (c := 27) (by decide) (Or.inl (by decide)) (by decide))
  have e4698 : I4697 (ad g 1) 1 = L := by rw [eI4697, pp_ne _ _ (Or.inl (lyx_ne hy (by decide) (by decide) (by decide)))]; exact e4689
  have e4699 : I4697 (ad g 4) 0 = w4691 := by rw [eI4697, pp_ne _ _ (Or.inl (lyx_ne hy (by decide) (by decide) (by decide)))]; exact ew4691
  have e4700 : I4697 (ad g 4) 1 = w4692 := by rw [eI4697, pp_ne _ _ (Or.inl (lyx_ne hy (by decide) (by decide) (by decide)))]; exact ew4692
  have e4701 : I4697 (ad g 4) 2 = w4693 := by rw [eI4697, pp_ne _ _ (Or.inl (lyx_ne hy (by decide) (by decide) (by decide)))]; exact ew4693
  have e4702 : I4697 (ad g 27) 0 = v4696 := by rw [eI4697, pp_self]
  clear eI4697
  refine WP_iload_n dX7_tell_10 rfl ?_
  refine WP_tab 178 dX7_tell_11 rfl rfl (fun c4702 => ?_) (fun j off c4702 hj => ?_) (by decide)
  · exact False.elim (by omega)
  · have hlt : j < 9 := by have := (Array.getElem?_eq_some_iff.mp hj).1; simpa using this
    have hcs : (j = 0 ∧ off = 49) ∨ (j = 1 ∧ off = 62) ∨ (j = 2 ∧ off = 70) ∨ (j = 3 ∧ off = 78) ∨ (j = 4 ∧ off = 91) ∨ (j = 5 ∧ off = 104) ∨ (j = 6 ∧ off = 117) ∨ (j = 7 ∧ off = 125) ∨ (j = 8 ∧ off = 149) := by
      match j, hlt, hj with
      | 0, _, hj => exact Or.inl ⟨rfl, (Option.some.inj hj).symm⟩
      | 1, _, hj => exact Or.inr (Or.inl ⟨rfl, (Option.some.inj hj).symm⟩)
      | 2, _, hj => exact Or.inr (Or.inr (Or.inl ⟨rfl, (Option.some.inj hj).symm⟩))
      | 3, _, hj => exact Or.inr (Or.inr (Or.inr (Or.inl ⟨rfl, (Option.some.inj hj).symm⟩)))
      | 4, _, hj => exact Or.inr (Or.inr (Or.inr (Or.inr (Or.inl ⟨rfl, (Option.some.inj hj).symm⟩))))
      | 5, _, hj => exact Or.inr (Or.inr (Or.inr (Or.inr (Or.inr (Or.inl ⟨rfl, (Option.some.inj hj).symm⟩)))))
      | 6, _, hj => exact Or.inr (Or.inr (Or.inr (Or.inr (Or.inr (Or.inr (Or.inl ⟨rfl, (Option.some.inj hj).symm⟩))))))
      | 7, _, hj => exact Or.inr (Or.inr (Or.inr (Or.inr (Or.inr (Or.inr (Or.inr (Or.inl ⟨rfl, (Option.some.inj hj).symm⟩)))))))
      | 8, _, hj => exact Or.inr (Or.inr (Or.inr (Or.inr (Or.inr (Or.inr (Or.inr (Or.inr (⟨rfl, (Option.some.inj hj).symm⟩))))))))
    clear hj hlt
    rcases hcs with ⟨rfl, rfl⟩ | ⟨rfl, rfl⟩ | ⟨rfl, rfl⟩ | ⟨rfl, rfl⟩ | ⟨rfl, rfl⟩ | ⟨rfl, rfl⟩ | ⟨rfl, rfl⟩ | ⟨rfl, rfl⟩ | ⟨rfl, rfl⟩
    · exact False.elim (by omega)
    · exact False.elim (by omega)
    · exact False.elim (by omega)
    · show WP _ _ 89 _ _ _ _ _ _
      refine WP_aload_n dX7_tell_89 rfl ?_
      refine WP_aload_n dX7_tell_90 rfl ?_
      refine WP_getr dX7_tell_91 fX7_27 rfl (lyx_is hy 27 7 rfl) (rfx hr 27 10 33 (by decide)) ?_
      refine WP_iload_n dX7_tell_94 rfl ?_
      refine WP_aload_n dX7_tell_95 rfl ?_
      refine WP_callV3 (k := 7) dX7_tell_96 ⟨⟨⟨by decide, by decide⟩, zX7_tellOn⟩, lX7_102, by decide, rfl, vX7_tellOn.1, vX7_tellOn.2⟩ (lyx_is hy 27 7 rfl) (sx_tellOn_27_3 hy hr hI4697 cl (by omega) (by omega) (by rw [e4699, e4700, e4701]; omega)) (Nat.le_of_ble_eq_true rfl) ?_
      intro r I4704 J4705 Ra hq
      obtain ⟨⟨hI4704, ec, pI4704⟩, rfl⟩ := hq
      rw [ec]
      clear ec Ra
      have e4706 : I4704 (ad g 1) 1 = L := hI4704.2
      have b4707 := BT_get hI4704.1 1 1 2 (0) (0) (900) (by decide) 1 (by decide) (by decide)
      rw [e4706] at b4707
      refine WP_goto 193 dX7_tell_99 rfl ?_
      exact WP_vret dX7_tell_193 rfl ⟨⟨hI4704, rfl, trivial⟩, rfl⟩
    · exact False.elim (by omega)
    · exact False.elim (by omega)
    · exact False.elim (by omega)
    · exact False.elim (by omega)
    · exact False.elim (by omega)
set_option maxHeartbeats 4000000 in
set_option maxRecDepth 100000 in
theorem sx_tell_27_4 {g : GG} {n : Int} {L : Int32} (hy : LyX g)  {I : pI} {J : pJ} {R : pR} (hr : RfX g R) (hI : XI g n L I) (cl : Int32) (cl_lo : 4 ≤ cl.toInt) (cl_hi : cl.toInt ≤ 4) (hb : (I (ad g 4) 0).toInt ≤ 2 ∧ (I (ad g 4) 1).toInt ≤ 6 ∧ (I (ad g 4) 2).toInt ≤ 20) : SP g mX7_tell [.ref (ad g 27), .int cl, .ref (ad g 4)] I J R (fun r I' J' R' => (XI g n L I' ∧ R' = R ∧ True) ∧ r = none) := by
  refine SP_of ⟨by decide, rfl⟩ (Nat.le_of_ble_eq_true rfl) ?_
  have e4708 : I (ad g 1) 1 = L := hI.2
  have b4709 := BT_get hI.1 1 1 2 (0) (0) (900) (by decide) 1 (by decide) (by decide)
  rw [e4708] at b4709
  obtain ⟨w4710, ew4710⟩ : ∃ w : Int32, I (ad g 4) 0 = w := ⟨_, rfl⟩
  have bw4710 := BT_get hI.1 4 0 5 (0) (0) (1000) (by decide) 0 (by decide) (by decide)
  rw [ew4710] at bw4710
  obtain ⟨w4711, ew4711⟩ : ∃ w : Int32, I (ad g 4) 1 = w := ⟨_, rfl⟩
  have bw4711 := BT_get hI.1 4 0 5 (0) (0) (1000) (by decide) 1 (by decide) (by decide)
  rw [ew4711] at bw4711
  obtain ⟨w4712, ew4712⟩ : ∃ w : Int32, I (ad g 4) 2 = w := ⟨_, rfl⟩
  have bw4712 := BT_get hI.1 4 0 5 (0) (0) (1000) (by decide) 2 (by decide) (by decide)
  rw [ew4712] at bw4712
  rw [ew4710, ew4711, ew4712] at hb
  refine WP_aload_n dX7_tell_0 rfl ?_
  refine WP_dup dX7_tell_1 rfl ?_
  refine WQ_getiu dX7_tell_2 fX7_61 rfl (lyx_is hy 27 7 rfl) (fun v4713 ev4713 => ?_)
  refine WQ_iconst (1) (1) dX7_tell_5 rfl rfl (fun v4714 hv4714 => ?_)
  refine WQ_iaddu dX7_tell_6 (fun v4715 => ?_)
  refine WQ_puti dX7_tell_7 fX7_61 rfl rfl (lyx_is hy 27 7 rfl) (fun I4716 eI4716 => ?_)
  have hI4716 : XI g n L I4716 := by rw [eI4716]; exact (xi_f0 hy hI (c := 27) (by decide) (Or.inl (by decide)) (by decide))
  have e4717 : I4716 (ad g 1) 1 = L := by rw [eI4716, pp_ne _ _ (Or.inl (lyx_ne hy (by decide) (by decide) (by decide)))]; exact e4708
  have e4718 : I4716 (ad g 4) 0 = w4710 := by rw [eI4716, pp_ne _ _ (Or.inl (lyx_ne hy (by decide) (by decide) (by decide)))]; exact ew4710
  have e4719 : I4716 (ad g 4) 1 = w4711 := by rw [eI4716, pp_ne _ _ (Or.inl (lyx_ne hy (by decide) (by decide) (by decide)))]; exact ew4711
  have e4720 : I4716 (ad g 4) 2 = w4712 := by rw [eI4716, pp_ne _ _ (Or.inl (lyx_ne hy (by decide) (by decide) (by decide)))]; exact ew4712
  have e4721 : I4716 (ad g 27) 0 = v4715 := by rw [eI4716, pp_self]
  clear eI4716
  refine WP_iload_n dX7_tell_10 rfl ?_
  refine WP_tab 178 dX7_tell_11 rfl rfl (fun c4721 => ?_) (fun j off c4721 hj => ?_) (by decide)
  · exact False.elim (by omega)
  · have hlt : j < 9 := by have := (Array.getElem?_eq_some_iff.mp hj).1; simpa using this
    have hcs : (j = 0 ∧ off = 49) ∨ (j = 1 ∧ off = 62) ∨ (j = 2 ∧ off = 70) ∨ (j = 3 ∧ off = 78) ∨ (j = 4 ∧ off = 91) ∨ (j = 5 ∧ off = 104) ∨ (j = 6 ∧ off = 117) ∨ (j = 7 ∧ off = 125) ∨ (j = 8 ∧ off = 149) := by
      match j, hlt, hj with
      | 0, _, hj => exact Or.inl ⟨rfl, (Option.some.inj hj).symm⟩
      | 1, _, hj => exact Or.inr (Or.inl ⟨rfl, (Option.some.inj hj).symm⟩)
      | 2, _, hj => exact Or.inr (Or.inr (Or.inl ⟨rfl, (Option.some.inj hj).symm⟩))
      | 3, _, hj => exact Or.inr (Or.inr (Or.inr (Or.inl ⟨rfl, (Option.some.inj hj).symm⟩)))
      | 4, _, hj => exact Or.inr (Or.inr (Or.inr (Or.inr (Or.inl ⟨rfl, (Option.some.inj hj).symm⟩))))
      | 5, _, hj => exact Or.inr (Or.inr (Or.inr (Or.inr (Or.inr (Or.inl ⟨rfl, (Option.some.inj hj).symm⟩)))))
      | 6, _, hj => exact Or.inr (Or.inr (Or.inr (Or.inr (Or.inr (Or.inr (Or.inl ⟨rfl, (Option.some.inj hj).symm⟩))))))
      | 7, _, hj => exact Or.inr (Or.inr (Or.inr (Or.inr (Or.inr (Or.inr (Or.inr (Or.inl ⟨rfl, (Option.some.inj hj).symm⟩)))))))
      | 8, _, hj => exact Or.inr (Or.inr (Or.inr (Or.inr (Or.inr (Or.inr (Or.inr (Or.inr (⟨rfl, (Option.some.inj hj).symm⟩))))))))
    clear hj hlt
    rcases hcs with ⟨rfl, rfl⟩ | ⟨rfl, rfl⟩ | ⟨rfl, rfl⟩ | ⟨rfl, rfl⟩ | ⟨rfl, rfl⟩ | ⟨rfl, rfl⟩ | ⟨rfl, rfl⟩ | ⟨rfl, rfl⟩ | ⟨rfl, rfl⟩
    · exact False.elim (by omega)
    · exact False.elim (by omega)
    · exact False.elim (by omega)
    · exact False.elim (by omega)
    · show WP _ _ 102 _ _ _ _ _ _
      refine WP_aload_n dX7_tell_102 rfl ?_
      refine WP_aload_n dX7_tell_103 rfl ?_
      refine WP_getr dX7_tell_104 fX7_45 rfl (lyx_is hy 27 7 rfl) (rfx hr 27 16 39 (by decide)) ?_
      refine WP_iload_n dX7_tell_107 rfl ?_
      refine WP_aload_n dX7_tell_108 rfl ?_
      refine WP_callV3 (k := 7) dX7_tell_109 ⟨⟨⟨by decide, by decide⟩, zX7_tellOn⟩, lX7_102, by decide, rfl, vX7_tellOn.1, vX7_tellOn.2⟩ (lyx_is hy 27 7 rfl) (sx_tellOn_27_4 hy hr hI4716 cl (by omega) (by omega) (by rw [e4718, e4719, e4720]; omega)) (Nat.le_of_ble_eq_true rfl) ?_
      intro r I4723 J4724 Ra hq
      obtain ⟨⟨hI4723, ec, pI4723⟩, rfl⟩ := hq
      rw [ec]
      clear ec Ra
      have e4725 : I4723 (ad g 1) 1 = L := hI4723.2
      have b4726 := BT_get hI4723.1 1 1 2 (0) (0) (900) (by decide) 1 (by decide) (by decide)
      rw [e4725] at b4726
      refine WP_goto 193 dX7_tell_112 rfl ?_
      exact WP_vret dX7_tell_193 rfl ⟨⟨hI4723, rfl, trivial⟩, rfl⟩
    · exact False.elim (by omega)
    · exact False.elim (by omega)
    · exact False.elim (by omega)
    · exact False.elim (by omega)
set_option maxHeartbeats 4000000 in
set_option maxRecDepth 100000 in
theorem sx_tell_27_5 {g : GG} {n : Int} {L : Int32} (hy : LyX g)  {I : pI} {J : pJ} {R : pR} (hr : RfX g R) (hI : XI g n L I) (cl : Int32) (cl_lo : 5 ≤ cl.toInt) (cl_hi : cl.toInt ≤ 5) (hb : (I (ad g 4) 0).toInt ≤ 2 ∧ (I (ad g 4) 1).toInt ≤ 6 ∧ (I (ad g 4) 2).toInt ≤ 999) : SP g mX7_tell [.ref (ad g 27), .int cl, .ref (ad g 4)] I J R (fun r I' J' R' => (XI g n L I' ∧ R' = R ∧ True) ∧ r = none) := by
  refine SP_of ⟨by decide, rfl⟩ (Nat.le_of_ble_eq_true rfl) ?_
  have e4727 : I (ad g 1) 1 = L := hI.2
  have b4728 := BT_get hI.1 1 1 2 (0) (0) (900) (by decide) 1 (by decide) (by decide)
  rw [e4727] at b4728
  obtain ⟨w4729, ew4729⟩ : ∃ w : Int32, I (ad g 4) 0 = w := ⟨_, rfl⟩
  have bw4729 := BT_get hI.1 4 0 5 (0) (0) (1000) (by decide) 0 (by decide) (by decide)
  rw [ew4729] at bw4729
  obtain ⟨w4730, ew4730⟩ : ∃ w : Int32, I (ad g 4) 1 = w := ⟨_, rfl⟩
  have bw4730 := BT_get hI.1 4 0 5 (0) (0) (1000) (by decide) 1 (by decide) (by decide)
  rw [ew4730] at bw4730
  obtain ⟨w4731, ew4731⟩ : ∃ w : Int32, I (ad g 4) 2 = w := ⟨_, rfl⟩
  have bw4731 := BT_get hI.1 4 0 5 (0) (0) (1000) (by decide) 2 (by decide) (by decide)
  rw [ew4731] at bw4731
  rw [ew4729, ew4730, ew4731] at hb
  refine WP_aload_n dX7_tell_0 rfl ?_
  refine WP_dup dX7_tell_1 rfl ?_
  refine WQ_getiu dX7_tell_2 fX7_61 rfl (lyx_is hy 27 7 rfl) (fun v4732 ev4732 => ?_)
  refine WQ_iconst (1) (1) dX7_tell_5 rfl rfl (fun v4733 hv4733 => ?_)
  refine WQ_iaddu dX7_tell_6 (fun v4734 => ?_)
  refine WQ_puti dX7_tell_7 fX7_61 rfl rfl (lyx_is hy 27 7 rfl) (fun I4735 eI4735 => ?_)
  have hI4735 : XI g n L I4735 := by rw [eI4735]; exact (xi_f0 hy hI (c := 27) (by decide) (Or.inl (by decide)) (by decide))
  have e4736 : I4735 (ad g 1) 1 = L := by rw [eI4735, pp_ne _ _ (Or.inl (lyx_ne hy (by decide) (by decide) (by decide)))]; exact e4727
  have e4737 : I4735 (ad g 4) 0 = w4729 := by rw [eI4735, pp_ne _ _ (Or.inl (lyx_ne hy (by decide) (by decide) (by decide)))]; exact ew4729
  have e4738 : I4735 (ad g 4) 1 = w4730 := by rw [eI4735, pp_ne _ _ (Or.inl (lyx_ne hy (by decide) (by decide) (by decide)))]; exact ew4730
  have e4739 : I4735 (ad g 4) 2 = w4731 := by rw [eI4735, pp_ne _ _ (Or.inl (lyx_ne hy (by decide) (by decide) (by decide)))]; exact ew4731
  have e4740 : I4735 (ad g 27) 0 = v4734 := by rw [eI4735, pp_self]
  clear eI4735
  refine WP_iload_n dX7_tell_10 rfl ?_
  refine WP_tab 178 dX7_tell_11 rfl rfl (fun c4740 => ?_) (fun j off c4740 hj => ?_) (by decide)
  · exact False.elim (by omega)
  · have hlt : j < 9 := by have := (Array.getElem?_eq_some_iff.mp hj).1; simpa using this
    have hcs : (j = 0 ∧ off = 49) ∨ (j = 1 ∧ off = 62) ∨ (j = 2 ∧ off = 70) ∨ (j = 3 ∧ off = 78) ∨ (j = 4 ∧ off = 91) ∨ (j = 5 ∧ off = 104) ∨ (j = 6 ∧ off = 117) ∨ (j = 7 ∧ off = 125) ∨ (j = 8 ∧ off = 149) := by
      match j, hlt, hj with
      | 0, _, hj => exact Or.inl ⟨rfl, (Option.some.inj hj).symm⟩
      | 1, _, hj => exact Or.inr (Or.inl ⟨rfl, (Option.some.inj hj).symm⟩)
      | 2, _, hj => exact Or.inr (Or.inr (Or.inl ⟨rfl, (Option.some.inj hj).symm⟩))
      | 3, _, hj => exact Or.inr (Or.inr (Or.inr (Or.inl ⟨rfl, (Option.some.inj hj).symm⟩)))
      | 4, _, hj => exact Or.inr (Or.inr (Or.inr (Or.inr (Or.inl ⟨rfl, (Option.some.inj hj).symm⟩))))
      | 5, _, hj => exact Or.inr (Or.inr (Or.inr (Or.inr (Or.inr (Or.inl ⟨rfl, (Option.some.inj hj).symm⟩)))))
      | 6, _, hj => exact Or.inr (Or.inr (Or.inr (Or.inr (Or.inr (Or.inr (Or.inl ⟨rfl, (Option.some.inj hj).symm⟩))))))
      | 7, _, hj => exact Or.inr (Or.inr (Or.inr (Or.inr (Or.inr (Or.inr (Or.inr (Or.inl ⟨rfl, (Option.some.inj hj).symm⟩)))))))
      | 8, _, hj => exact Or.inr (Or.inr (Or.inr (Or.inr (Or.inr (Or.inr (Or.inr (Or.inr (⟨rfl, (Option.some.inj hj).symm⟩))))))))
    clear hj hlt
    rcases hcs with ⟨rfl, rfl⟩ | ⟨rfl, rfl⟩ | ⟨rfl, rfl⟩ | ⟨rfl, rfl⟩ | ⟨rfl, rfl⟩ | ⟨rfl, rfl⟩ | ⟨rfl, rfl⟩ | ⟨rfl, rfl⟩ | ⟨rfl, rfl⟩
    · exact False.elim (by omega)
    · exact False.elim (by omega)
    · exact False.elim (by omega)
    · exact False.elim (by omega)
    · exact False.elim (by omega)
    · show WP _ _ 115 _ _ _ _ _ _
      refine WP_aload_n dX7_tell_115 rfl ?_
      refine WP_aload_n dX7_tell_116 rfl ?_
      refine WP_getr dX7_tell_117 fX7_48 rfl (lyx_is hy 27 7 rfl) (rfx hr 27 17 40 (by decide)) ?_
      refine WP_iload_n dX7_tell_120 rfl ?_
      refine WP_aload_n dX7_tell_121 rfl ?_
      refine WP_callV3 (k := 7) dX7_tell_122 ⟨⟨⟨by decide, by decide⟩, zX7_tellOn⟩, lX7_102, by decide, rfl, vX7_tellOn.1, vX7_tellOn.2⟩ (lyx_is hy 27 7 rfl) (sx_tellOn_27_5 hy hr hI4735 cl (by omega) (by omega) (by rw [e4737, e4738, e4739]; omega)) (Nat.le_of_ble_eq_true rfl) ?_
      intro r I4742 J4743 Ra hq
      obtain ⟨⟨hI4742, ec, pI4742⟩, rfl⟩ := hq
      rw [ec]
      clear ec Ra
      have e4744 : I4742 (ad g 1) 1 = L := hI4742.2
      have b4745 := BT_get hI4742.1 1 1 2 (0) (0) (900) (by decide) 1 (by decide) (by decide)
      rw [e4744] at b4745
      refine WP_goto 193 dX7_tell_125 rfl ?_
      exact WP_vret dX7_tell_193 rfl ⟨⟨hI4742, rfl, trivial⟩, rfl⟩
    · exact False.elim (by omega)
    · exact False.elim (by omega)
    · exact False.elim (by omega)
set_option maxHeartbeats 4000000 in
set_option maxRecDepth 100000 in
theorem sx_tell_27_6 {g : GG} {n : Int} {L : Int32} (hy : LyX g)  {I : pI} {J : pJ} {R : pR} (hr : RfX g R) (hI : XI g n L I) (cl : Int32) (cl_lo : 6 ≤ cl.toInt) (cl_hi : cl.toInt ≤ 6) (hb : (I (ad g 4) 0).toInt ≤ 3 ∧ (I (ad g 4) 1).toInt ≤ 2 ∧ (I (ad g 4) 2).toInt ≤ 6 ∧ (I (ad g 4) 3).toInt ≤ 3 ∧ (I (ad g 4) 4).toInt ≤ 99) : SP g mX7_tell [.ref (ad g 27), .int cl, .ref (ad g 4)] I J R (fun r I' J' R' => (XI g n L I' ∧ R' = R ∧ True) ∧ r = none) := by
  refine SP_of ⟨by decide, rfl⟩ (Nat.le_of_ble_eq_true rfl) ?_
  have e4746 : I (ad g 1) 1 = L := hI.2
  have b4747 := BT_get hI.1 1 1 2 (0) (0) (900) (by decide) 1 (by decide) (by decide)
  rw [e4746] at b4747
  obtain ⟨w4748, ew4748⟩ : ∃ w : Int32, I (ad g 4) 0 = w := ⟨_, rfl⟩
  have bw4748 := BT_get hI.1 4 0 5 (0) (0) (1000) (by decide) 0 (by decide) (by decide)
  rw [ew4748] at bw4748
  obtain ⟨w4749, ew4749⟩ : ∃ w : Int32, I (ad g 4) 1 = w := ⟨_, rfl⟩
  have bw4749 := BT_get hI.1 4 0 5 (0) (0) (1000) (by decide) 1 (by decide) (by decide)
  rw [ew4749] at bw4749
  obtain ⟨w4750, ew4750⟩ : ∃ w : Int32, I (ad g 4) 2 = w := ⟨_, rfl⟩
  have bw4750 := BT_get hI.1 4 0 5 (0) (0) (1000) (by decide) 2 (by decide) (by decide)
  rw [ew4750] at bw4750
  obtain ⟨w4751, ew4751⟩ : ∃ w : Int32, I (ad g 4) 3 = w := ⟨_, rfl⟩
  have bw4751 := BT_get hI.1 4 0 5 (0) (0) (1000) (by decide) 3 (by decide) (by decide)
  rw [ew4751] at bw4751
  obtain ⟨w4752, ew4752⟩ : ∃ w : Int32, I (ad g 4) 4 = w := ⟨_, rfl⟩
  have bw4752 := BT_get hI.1 4 0 5 (0) (0) (1000) (by decide) 4 (by decide) (by decide)
  rw [ew4752] at bw4752
  rw [ew4748, ew4749, ew4750, ew4751, ew4752] at hb
  refine WP_aload_n dX7_tell_0 rfl ?_
  refine WP_dup dX7_tell_1 rfl ?_
  refine WQ_getiu dX7_tell_2 fX7_61 rfl (lyx_is hy 27 7 rfl) (fun v4753 ev4753 => ?_)
  refine WQ_iconst (1) (1) dX7_tell_5 rfl rfl (fun v4754 hv4754 => ?_)
  refine WQ_iaddu dX7_tell_6 (fun v4755 => ?_)
  refine WQ_puti dX7_tell_7 fX7_61 rfl rfl (lyx_is hy 27 7 rfl) (fun I4756 eI4756 => ?_)
  have hI4756 : XI g n L I4756 := by rw [eI4756]; exact (xi_f0 hy hI (c := 27) (by decide) (Or.inl (by decide)) (by decide))
  have e4757 : I4756 (ad g 1) 1 = L := by rw [eI4756, pp_ne _ _ (Or.inl (lyx_ne hy (by decide) (by decide) (by decide)))]; exact e4746
  have e4758 : I4756 (ad g 4) 0 = w4748 := by rw [eI4756, pp_ne _ _ (Or.inl (lyx_ne hy (by decide) (by decide) (by decide)))]; exact ew4748
  have e4759 : I4756 (ad g 4) 1 = w4749 := by rw [eI4756, pp_ne _ _ (Or.inl (lyx_ne hy (by decide) (by decide) (by decide)))]; exact ew4749
  have e4760 : I4756 (ad g 4) 2 = w4750 := by rw [eI4756, pp_ne _ _ (Or.inl (lyx_ne hy (by decide) (by decide) (by decide)))]; exact ew4750
  have e4761 : I4756 (ad g 4) 3 = w4751 := by rw [eI4756, pp_ne _ _ (Or.inl (lyx_ne hy (by decide) (by decide) (by decide)))]; exact ew4751
  have e4762 : I4756 (ad g 4) 4 = w4752 := by rw [eI4756, pp_ne _ _ (Or.inl (lyx_ne hy (by decide) (by decide) (by decide)))]; exact ew4752
  have e4763 : I4756 (ad g 27) 0 = v4755 := by rw [eI4756, pp_self]
  clear eI4756
  refine WP_iload_n dX7_tell_10 rfl ?_
  refine WP_tab 178 dX7_tell_11 rfl rfl (fun c4763 => ?_) (fun j off c4763 hj => ?_) (by decide)
  · exact False.elim (by omega)
  · have hlt : j < 9 := by have := (Array.getElem?_eq_some_iff.mp hj).1; simpa using this
    have hcs : (j = 0 ∧ off = 49) ∨ (j = 1 ∧ off = 62) ∨ (j = 2 ∧ off = 70) ∨ (j = 3 ∧ off = 78) ∨ (j = 4 ∧ off = 91) ∨ (j = 5 ∧ off = 104) ∨ (j = 6 ∧ off = 117) ∨ (j = 7 ∧ off = 125) ∨ (j = 8 ∧ off = 149) := by
      match j, hlt, hj with
      | 0, _, hj => exact Or.inl ⟨rfl, (Option.some.inj hj).symm⟩
      | 1, _, hj => exact Or.inr (Or.inl ⟨rfl, (Option.some.inj hj).symm⟩)
      | 2, _, hj => exact Or.inr (Or.inr (Or.inl ⟨rfl, (Option.some.inj hj).symm⟩))
      | 3, _, hj => exact Or.inr (Or.inr (Or.inr (Or.inl ⟨rfl, (Option.some.inj hj).symm⟩)))
      | 4, _, hj => exact Or.inr (Or.inr (Or.inr (Or.inr (Or.inl ⟨rfl, (Option.some.inj hj).symm⟩))))
      | 5, _, hj => exact Or.inr (Or.inr (Or.inr (Or.inr (Or.inr (Or.inl ⟨rfl, (Option.some.inj hj).symm⟩)))))
      | 6, _, hj => exact Or.inr (Or.inr (Or.inr (Or.inr (Or.inr (Or.inr (Or.inl ⟨rfl, (Option.some.inj hj).symm⟩))))))
      | 7, _, hj => exact Or.inr (Or.inr (Or.inr (Or.inr (Or.inr (Or.inr (Or.inr (Or.inl ⟨rfl, (Option.some.inj hj).symm⟩)))))))
      | 8, _, hj => exact Or.inr (Or.inr (Or.inr (Or.inr (Or.inr (Or.inr (Or.inr (Or.inr (⟨rfl, (Option.some.inj hj).symm⟩))))))))
    clear hj hlt
    rcases hcs with ⟨rfl, rfl⟩ | ⟨rfl, rfl⟩ | ⟨rfl, rfl⟩ | ⟨rfl, rfl⟩ | ⟨rfl, rfl⟩ | ⟨rfl, rfl⟩ | ⟨rfl, rfl⟩ | ⟨rfl, rfl⟩ | ⟨rfl, rfl⟩
    · exact False.elim (by omega)
    · exact False.elim (by omega)
    · exact False.elim (by omega)
    · exact False.elim (by omega)
    · exact False.elim (by omega)
    · exact False.elim (by omega)
    · show WP _ _ 128 _ _ _ _ _ _
      refine WP_aload_n dX7_tell_128 rfl ?_
      refine WP_aload_n dX7_tell_129 rfl ?_
      refine WP_callV1 (k := 7) dX7_tell_130 ⟨⟨⟨by decide, by decide⟩, zX7_tellWant⟩, lX7_106, by decide, rfl, vX7_tellWant.1, vX7_tellWant.2⟩ (lyx_is hy 27 7 rfl) (sx_tellWant_27 hy hr hI4756   (by rw [e4758, e4759, e4760, e4761, e4762]; omega)) (Nat.le_of_ble_eq_true rfl) ?_
      intro r I4765 J4766 Ra hq
      obtain ⟨⟨hI4765, ec, pI4765⟩, rfl⟩ := hq
      rw [ec]
      clear ec Ra
      have e4767 : I4765 (ad g 1) 1 = L := hI4765.2
      have b4768 := BT_get hI4765.1 1 1 2 (0) (0) (900) (by decide) 1 (by decide) (by decide)
      rw [e4767] at b4768
      refine WP_goto 193 dX7_tell_133 rfl ?_
      exact WP_vret dX7_tell_193 rfl ⟨⟨hI4765, rfl, trivial⟩, rfl⟩
    · exact False.elim (by omega)
    · exact False.elim (by omega)
set_option maxHeartbeats 4000000 in
set_option maxRecDepth 100000 in
theorem sx_tell_27_7 {g : GG} {n : Int} {L : Int32} (hy : LyX g)  {I : pI} {J : pJ} {R : pR} (hr : RfX g R) (hI : XI g n L I) (cl : Int32) (cl_lo : 7 ≤ cl.toInt) (cl_hi : cl.toInt ≤ 7) (hb : (I (ad g 4) 0).toInt ≤ 3) : SP g mX7_tell [.ref (ad g 27), .int cl, .ref (ad g 4)] I J R (fun r I' J' R' => (XI g n L I' ∧ R' = R ∧ True) ∧ r = none) := by
  refine SP_of ⟨by decide, rfl⟩ (Nat.le_of_ble_eq_true rfl) ?_
  have e4769 : I (ad g 1) 1 = L := hI.2
  have b4770 := BT_get hI.1 1 1 2 (0) (0) (900) (by decide) 1 (by decide) (by decide)
  rw [e4769] at b4770
  obtain ⟨w4771, ew4771⟩ : ∃ w : Int32, I (ad g 4) 0 = w := ⟨_, rfl⟩
  have bw4771 := BT_get hI.1 4 0 5 (0) (0) (1000) (by decide) 0 (by decide) (by decide)
  rw [ew4771] at bw4771
  rw [ew4771] at hb
  refine WP_aload_n dX7_tell_0 rfl ?_
  refine WP_dup dX7_tell_1 rfl ?_
  refine WQ_getiu dX7_tell_2 fX7_61 rfl (lyx_is hy 27 7 rfl) (fun v4772 ev4772 => ?_)
  refine WQ_iconst (1) (1) dX7_tell_5 rfl rfl (fun v4773 hv4773 => ?_)
  refine WQ_iaddu dX7_tell_6 (fun v4774 => ?_)
  refine WQ_puti dX7_tell_7 fX7_61 rfl rfl (lyx_is hy 27 7 rfl) (fun I4775 eI4775 => ?_)
  have hI4775 : XI g n L I4775 := by rw [eI4775]; exact (xi_f0 hy hI (c := 27) (by decide) (Or.inl (by decide)) (by decide))
  have e4776 : I4775 (ad g 1) 1 = L := by rw [eI4775, pp_ne _ _ (Or.inl (lyx_ne hy (by decide) (by decide) (by decide)))]; exact e4769
  have e4777 : I4775 (ad g 4) 0 = w4771 := by rw [eI4775, pp_ne _ _ (Or.inl (lyx_ne hy (by decide) (by decide) (by decide)))]; exact ew4771
  have e4778 : I4775 (ad g 27) 0 = v4774 := by rw [eI4775, pp_self]
  clear eI4775
  refine WP_iload_n dX7_tell_10 rfl ?_
  refine WP_tab 178 dX7_tell_11 rfl rfl (fun c4778 => ?_) (fun j off c4778 hj => ?_) (by decide)
  · exact False.elim (by omega)
  · have hlt : j < 9 := by have := (Array.getElem?_eq_some_iff.mp hj).1; simpa using this
    have hcs : (j = 0 ∧ off = 49) ∨ (j = 1 ∧ off = 62) ∨ (j = 2 ∧ off = 70) ∨ (j = 3 ∧ off = 78) ∨ (j = 4 ∧ off = 91) ∨ (j = 5 ∧ off = 104) ∨ (j = 6 ∧ off = 117) ∨ (j = 7 ∧ off = 125) ∨ (j = 8 ∧ off = 149) := by
      match j, hlt, hj with
      | 0, _, hj => exact Or.inl ⟨rfl, (Option.some.inj hj).symm⟩
      | 1, _, hj => exact Or.inr (Or.inl ⟨rfl, (Option.some.inj hj).symm⟩)
      | 2, _, hj => exact Or.inr (Or.inr (Or.inl ⟨rfl, (Option.some.inj hj).symm⟩))
      | 3, _, hj => exact Or.inr (Or.inr (Or.inr (Or.inl ⟨rfl, (Option.some.inj hj).symm⟩)))
      | 4, _, hj => exact Or.inr (Or.inr (Or.inr (Or.inr (Or.inl ⟨rfl, (Option.some.inj hj).symm⟩))))
      | 5, _, hj => exact Or.inr (Or.inr (Or.inr (Or.inr (Or.inr (Or.inl ⟨rfl, (Option.some.inj hj).symm⟩)))))
      | 6, _, hj => exact Or.inr (Or.inr (Or.inr (Or.inr (Or.inr (Or.inr (Or.inl ⟨rfl, (Option.some.inj hj).symm⟩))))))
      | 7, _, hj => exact Or.inr (Or.inr (Or.inr (Or.inr (Or.inr (Or.inr (Or.inr (Or.inl ⟨rfl, (Option.some.inj hj).symm⟩)))))))
      | 8, _, hj => exact Or.inr (Or.inr (Or.inr (Or.inr (Or.inr (Or.inr (Or.inr (Or.inr (⟨rfl, (Option.some.inj hj).symm⟩))))))))
    clear hj hlt
    rcases hcs with ⟨rfl, rfl⟩ | ⟨rfl, rfl⟩ | ⟨rfl, rfl⟩ | ⟨rfl, rfl⟩ | ⟨rfl, rfl⟩ | ⟨rfl, rfl⟩ | ⟨rfl, rfl⟩ | ⟨rfl, rfl⟩ | ⟨rfl, rfl⟩
    · exact False.elim (by omega)
    · exact False.elim (by omega)
    · exact False.elim (by omega)
    · exact False.elim (by omega)
    · exact False.elim (by omega)
    · exact False.elim (by omega)
    · exact False.elim (by omega)
    · show WP _ _ 136 _ _ _ _ _ _
      refine WP_aload_n dX7_tell_136 rfl ?_
      refine WP_getr dX7_tell_137 fX7_24 rfl (lyx_is hy 27 7 rfl) (rfx hr 27 9 32 (by decide)) ?_
      refine WP_aload_n dX7_tell_140 rfl ?_
      refine WQ_iconst (0) (0) dX7_tell_141 rfl rfl (fun v4780 hv4780 => ?_)
      refine WQ_ialdm (z := 0) dX7_tell_142 (lyx_is hy 4 13 rfl) (lyx_n hy 4 5 rfl) hv4780 (by decide) e4777 ?_
      refine WP_aload_n dX7_tell_143 rfl ?_
      refine WQ_iconst (1) (1) dX7_tell_144 rfl rfl (fun v4782 hv4782 => ?_)
      refine WQ_iald dX7_tell_145 (lyx_is hy 4 13 rfl) (lyx_n hy 4 5 rfl) (by omega) (by omega) (fun q hq => BT_get hI4775.1 4 0 5 (0) (0) (1000) (by decide) q (Nat.zero_le _) hq) (fun v4783 av4783 bv4783 ev4783 => ?_)
      clear ev4783
      refine WQ_iast dX7_tell_146 (lyx_is hy 32 13 rfl) (lyx_n hy 32 4 rfl) (by omega) (by omega) (fun I4784 eI4784 => ?_)
      have hI4784 : XI g n L I4784 := by rw [eI4784]; exact (xi_r0 hy hI4775 (c := 32) (by decide) (Or.inl (by decide)) (by decide))
      have e4785 : I4784 (ad g 1) 1 = L := by rw [eI4784, pp_ne _ _ (Or.inl (lyx_ne hy (by decide) (by decide) (by decide)))]; exact e4776
      have e4786 : I4784 (ad g 4) 0 = w4771 := by rw [eI4784, pp_ne _ _ (Or.inl (lyx_ne hy (by decide) (by decide) (by decide)))]; exact e4777
      have e4787 : I4784 (ad g 27) 0 = v4774 := by rw [eI4784, pp_ne _ _ (Or.inl (lyx_ne hy (by decide) (by decide) (by decide)))]; exact e4778
      clear eI4784
      refine WP_aload_n dX7_tell_147 rfl ?_
      refine WQ_bipush (7) (7) dX7_tell_148 rfl rfl (fun v4788 hv4788 => ?_)
      refine WP_aload_n dX7_tell_150 rfl ?_
      refine WQ_iconst (0) (0) dX7_tell_151 rfl rfl (fun v4789 hv4789 => ?_)
      refine WQ_ialdm (z := 0) dX7_tell_152 (lyx_is hy 4 13 rfl) (lyx_n hy 4 5 rfl) hv4789 (by decide) e4786 ?_
      refine WQ_iconst (0) (0) dX7_tell_153 rfl rfl (fun v4791 hv4791 => ?_)
      refine WP_callV3 (k := 7) dX7_tell_154 ⟨⟨⟨by decide, by decide⟩, zX7_hold⟩, lX7_109, by decide, rfl, vX7_hold.1, vX7_hold.2⟩ (lyx_is hy 27 7 rfl) (sx_hold_27 hy hr hI4784 v4788 w4771 v4791 (by omega) (by omega) (by omega) (by omega) ) (Nat.le_of_ble_eq_true rfl) ?_
      intro r I4792 J4793 Ra hq
      obtain ⟨⟨hI4792, ec⟩, rfl⟩ := hq
      rw [ec]
      clear ec Ra
      have e4794 : I4792 (ad g 1) 1 = L := hI4792.2
      have b4795 := BT_get hI4792.1 1 1 2 (0) (0) (900) (by decide) 1 (by decide) (by decide)
      rw [e4794] at b4795
      refine WP_goto 193 dX7_tell_157 rfl ?_
      exact WP_vret dX7_tell_193 rfl ⟨⟨hI4792, rfl, trivial⟩, rfl⟩
    · exact False.elim (by omega)
set_option maxHeartbeats 4000000 in
set_option maxRecDepth 100000 in
theorem sx_tell_27_8 {g : GG} {n : Int} {L : Int32} (hy : LyX g)  {I : pI} {J : pJ} {R : pR} (hr : RfX g R) (hI : XI g n L I) (cl : Int32) (cl_lo : 8 ≤ cl.toInt) (cl_hi : cl.toInt ≤ 8) (hb : (I (ad g 4) 0).toInt ≤ 3) : SP g mX7_tell [.ref (ad g 27), .int cl, .ref (ad g 4)] I J R (fun r I' J' R' => (XI g n L I' ∧ R' = R ∧ True) ∧ r = none) := by
  refine SP_of ⟨by decide, rfl⟩ (Nat.le_of_ble_eq_true rfl) ?_
  have e4796 : I (ad g 1) 1 = L := hI.2
  have b4797 := BT_get hI.1 1 1 2 (0) (0) (900) (by decide) 1 (by decide) (by decide)
  rw [e4796] at b4797
  obtain ⟨w4798, ew4798⟩ : ∃ w : Int32, I (ad g 4) 0 = w := ⟨_, rfl⟩
  have bw4798 := BT_get hI.1 4 0 5 (0) (0) (1000) (by decide) 0 (by decide) (by decide)
  rw [ew4798] at bw4798
  rw [ew4798] at hb
  refine WP_aload_n dX7_tell_0 rfl ?_
  refine WP_dup dX7_tell_1 rfl ?_
  refine WQ_getiu dX7_tell_2 fX7_61 rfl (lyx_is hy 27 7 rfl) (fun v4799 ev4799 => ?_)
  refine WQ_iconst (1) (1) dX7_tell_5 rfl rfl (fun v4800 hv4800 => ?_)
  refine WQ_iaddu dX7_tell_6 (fun v4801 => ?_)
  refine WQ_puti dX7_tell_7 fX7_61 rfl rfl (lyx_is hy 27 7 rfl) (fun I4802 eI4802 => ?_)
  have hI4802 : XI g n L I4802 := by rw [eI4802]; exact (xi_f0 hy hI (c := 27) (by decide) (Or.inl (by decide)) (by decide))
  have e4803 : I4802 (ad g 1) 1 = L := by rw [eI4802, pp_ne _ _ (Or.inl (lyx_ne hy (by decide) (by decide) (by decide)))]; exact e4796
  have e4804 : I4802 (ad g 4) 0 = w4798 := by rw [eI4802, pp_ne _ _ (Or.inl (lyx_ne hy (by decide) (by decide) (by decide)))]; exact ew4798
  have e4805 : I4802 (ad g 27) 0 = v4801 := by rw [eI4802, pp_self]
  clear eI4802
  refine WP_iload_n dX7_tell_10 rfl ?_
  refine WP_tab 178 dX7_tell_11 rfl rfl (fun c4805 => ?_) (fun j off c4805 hj => ?_) (by decide)
  · exact False.elim (by omega)
  · have hlt : j < 9 := by have := (Array.getElem?_eq_some_iff.mp hj).1; simpa using this
    have hcs : (j = 0 ∧ off = 49) ∨ (j = 1 ∧ off = 62) ∨ (j = 2 ∧ off = 70) ∨ (j = 3 ∧ off = 78) ∨ (j = 4 ∧ off = 91) ∨ (j = 5 ∧ off = 104) ∨ (j = 6 ∧ off = 117) ∨ (j = 7 ∧ off = 125) ∨ (j = 8 ∧ off = 149) := by
      match j, hlt, hj with
      | 0, _, hj => exact Or.inl ⟨rfl, (Option.some.inj hj).symm⟩
      | 1, _, hj => exact Or.inr (Or.inl ⟨rfl, (Option.some.inj hj).symm⟩)
      | 2, _, hj => exact Or.inr (Or.inr (Or.inl ⟨rfl, (Option.some.inj hj).symm⟩))
      | 3, _, hj => exact Or.inr (Or.inr (Or.inr (Or.inl ⟨rfl, (Option.some.inj hj).symm⟩)))
      | 4, _, hj => exact Or.inr (Or.inr (Or.inr (Or.inr (Or.inl ⟨rfl, (Option.some.inj hj).symm⟩))))
      | 5, _, hj => exact Or.inr (Or.inr (Or.inr (Or.inr (Or.inr (Or.inl ⟨rfl, (Option.some.inj hj).symm⟩)))))
      | 6, _, hj => exact Or.inr (Or.inr (Or.inr (Or.inr (Or.inr (Or.inr (Or.inl ⟨rfl, (Option.some.inj hj).symm⟩))))))
      | 7, _, hj => exact Or.inr (Or.inr (Or.inr (Or.inr (Or.inr (Or.inr (Or.inr (Or.inl ⟨rfl, (Option.some.inj hj).symm⟩)))))))
      | 8, _, hj => exact Or.inr (Or.inr (Or.inr (Or.inr (Or.inr (Or.inr (Or.inr (Or.inr (⟨rfl, (Option.some.inj hj).symm⟩))))))))
    clear hj hlt
    rcases hcs with ⟨rfl, rfl⟩ | ⟨rfl, rfl⟩ | ⟨rfl, rfl⟩ | ⟨rfl, rfl⟩ | ⟨rfl, rfl⟩ | ⟨rfl, rfl⟩ | ⟨rfl, rfl⟩ | ⟨rfl, rfl⟩ | ⟨rfl, rfl⟩
    · exact False.elim (by omega)
    · exact False.elim (by omega)
    · exact False.elim (by omega)
    · exact False.elim (by omega)
    · exact False.elim (by omega)
    · exact False.elim (by omega)
    · exact False.elim (by omega)
    · exact False.elim (by omega)
    · show WP _ _ 160 _ _ _ _ _ _
      refine WP_aload_n dX7_tell_160 rfl ?_
      refine WP_aload_n dX7_tell_161 rfl ?_
      refine WQ_iconst (0) (0) dX7_tell_162 rfl rfl (fun v4807 hv4807 => ?_)
      refine WQ_ialdm (z := 0) dX7_tell_163 (lyx_is hy 4 13 rfl) (lyx_n hy 4 5 rfl) hv4807 (by decide) e4804 ?_
      refine WQ_puti dX7_tell_164 fX7_71 rfl rfl (lyx_is hy 27 7 rfl) (fun I4809 eI4809 => ?_)
      have hI4809 : XI g n L I4809 := by rw [eI4809]; exact (xi_f hy hI4802 (c := 27) (-1) (0) (3) (by decide) (Or.inl (by decide)) (by decide) (by omega) (by omega))
      have e4810 : I4809 (ad g 1) 1 = L := by rw [eI4809, pp_ne _ _ (Or.inl (lyx_ne hy (by decide) (by decide) (by decide)))]; exact e4803
      have e4811 : I4809 (ad g 4) 0 = w4798 := by rw [eI4809, pp_ne _ _ (Or.inl (lyx_ne hy (by decide) (by decide) (by decide)))]; exact e4804
      have e4812 : I4809 (ad g 27) 0 = v4801 := by rw [eI4809, pp_ne _ _ (Or.inr (by decide))]; exact e4805
      have e4813 : I4809 (ad g 27) 3 = w4798 := by rw [eI4809, pp_self]
      clear eI4809
      refine WP_aload_n dX7_tell_167 rfl ?_
      refine WQ_bipush (8) (8) dX7_tell_168 rfl rfl (fun v4814 hv4814 => ?_)
      refine WQ_iconst (0) (0) dX7_tell_170 rfl rfl (fun v4815 hv4815 => ?_)
      refine WQ_iconst (0) (0) dX7_tell_171 rfl rfl (fun v4816 hv4816 => ?_)
      refine WP_callV3 (k := 7) dX7_tell_172 ⟨⟨⟨by decide, by decide⟩, zX7_hold⟩, lX7_109, by decide, rfl, vX7_hold.1, vX7_hold.2⟩ (lyx_is hy 27 7 rfl) (sx_hold_27 hy hr hI4809 v4814 v4815 v4816 (by omega) (by omega) (by omega) (by omega) ) (Nat.le_of_ble_eq_true rfl) ?_
      intro r I4817 J4818 Ra hq
      obtain ⟨⟨hI4817, ec⟩, rfl⟩ := hq
      rw [ec]
      clear ec Ra
      have e4819 : I4817 (ad g 1) 1 = L := hI4817.2
      have b4820 := BT_get hI4817.1 1 1 2 (0) (0) (900) (by decide) 1 (by decide) (by decide)
      rw [e4819] at b4820
      refine WP_goto 193 dX7_tell_175 rfl ?_
      exact WP_vret dX7_tell_193 rfl ⟨⟨hI4817, rfl, trivial⟩, rfl⟩
set_option maxHeartbeats 4000000 in
set_option maxRecDepth 100000 in
theorem sx_tell_27_9 {g : GG} {n : Int} {L : Int32} (hy : LyX g)  {I : pI} {J : pJ} {R : pR} (hr : RfX g R) (hI : XI g n L I) (cl : Int32) (cl_lo : 9 ≤ cl.toInt) (cl_hi : cl.toInt ≤ 9) (hb : (I (ad g 4) 0).toInt ≤ 2) : SP g mX7_tell [.ref (ad g 27), .int cl, .ref (ad g 4)] I J R (fun r I' J' R' => (XI g n L I' ∧ R' = R ∧ True) ∧ r = none) := by
  refine SP_of ⟨by decide, rfl⟩ (Nat.le_of_ble_eq_true rfl) ?_
  have e4821 : I (ad g 1) 1 = L := hI.2
  have b4822 := BT_get hI.1 1 1 2 (0) (0) (900) (by decide) 1 (by decide) (by decide)
  rw [e4821] at b4822
  obtain ⟨w4823, ew4823⟩ : ∃ w : Int32, I (ad g 4) 0 = w := ⟨_, rfl⟩
  have bw4823 := BT_get hI.1 4 0 5 (0) (0) (1000) (by decide) 0 (by decide) (by decide)
  rw [ew4823] at bw4823
  rw [ew4823] at hb
  refine WP_aload_n dX7_tell_0 rfl ?_
  refine WP_dup dX7_tell_1 rfl ?_
  refine WQ_getiu dX7_tell_2 fX7_61 rfl (lyx_is hy 27 7 rfl) (fun v4824 ev4824 => ?_)
  refine WQ_iconst (1) (1) dX7_tell_5 rfl rfl (fun v4825 hv4825 => ?_)
  refine WQ_iaddu dX7_tell_6 (fun v4826 => ?_)
  refine WQ_puti dX7_tell_7 fX7_61 rfl rfl (lyx_is hy 27 7 rfl) (fun I4827 eI4827 => ?_)
  have hI4827 : XI g n L I4827 := by rw [eI4827]; exact (xi_f0 hy hI (c := 27) (by decide) (Or.inl (by decide)) (by decide))
  have e4828 : I4827 (ad g 1) 1 = L := by rw [eI4827, pp_ne _ _ (Or.inl (lyx_ne hy (by decide) (by decide) (by decide)))]; exact e4821
  have e4829 : I4827 (ad g 4) 0 = w4823 := by rw [eI4827, pp_ne _ _ (Or.inl (lyx_ne hy (by decide) (by decide) (by decide)))]; exact ew4823
  have e4830 : I4827 (ad g 27) 0 = v4826 := by rw [eI4827, pp_self]
  clear eI4827
  refine WP_iload_n dX7_tell_10 rfl ?_
  refine WP_tab 178 dX7_tell_11 rfl rfl (fun c4830 => ?_) (fun j off c4830 hj => ?_) (by decide)
  · refine WP_aload_n dX7_tell_178 rfl ?_
    refine WP_aload_n dX7_tell_179 rfl ?_
    refine WQ_iconst (0) (0) dX7_tell_180 rfl rfl (fun v4832 hv4832 => ?_)
    refine WQ_ialdm (z := 0) dX7_tell_181 (lyx_is hy 4 13 rfl) (lyx_n hy 4 5 rfl) hv4832 (by decide) e4829 ?_
    refine WQ_puti dX7_tell_182 fX7_74 rfl rfl (lyx_is hy 27 7 rfl) (fun I4834 eI4834 => ?_)
    have hI4834 : XI g n L I4834 := by rw [eI4834]; exact (xi_f hy hI4827 (c := 27) (-1) (0) (2) (by decide) (Or.inl (by decide)) (by decide) (by omega) (by omega))
    have e4835 : I4834 (ad g 1) 1 = L := by rw [eI4834, pp_ne _ _ (Or.inl (lyx_ne hy (by decide) (by decide) (by decide)))]; exact e4828
    have e4836 : I4834 (ad g 4) 0 = w4823 := by rw [eI4834, pp_ne _ _ (Or.inl (lyx_ne hy (by decide) (by decide) (by decide)))]; exact e4829
    have e4837 : I4834 (ad g 27) 0 = v4826 := by rw [eI4834, pp_ne _ _ (Or.inr (by decide))]; exact e4830
    have e4838 : I4834 (ad g 27) 4 = w4823 := by rw [eI4834, pp_self]
    clear eI4834
    refine WP_aload_n dX7_tell_185 rfl ?_
    refine WQ_bipush (9) (9) dX7_tell_186 rfl rfl (fun v4839 hv4839 => ?_)
    refine WQ_iconst (0) (0) dX7_tell_188 rfl rfl (fun v4840 hv4840 => ?_)
    refine WQ_iconst (0) (0) dX7_tell_189 rfl rfl (fun v4841 hv4841 => ?_)
    refine WP_callV3 (k := 7) dX7_tell_190 ⟨⟨⟨by decide, by decide⟩, zX7_hold⟩, lX7_109, by decide, rfl, vX7_hold.1, vX7_hold.2⟩ (lyx_is hy 27 7 rfl) (sx_hold_27 hy hr hI4834 v4839 v4840 v4841 (by omega) (by omega) (by omega) (by omega) ) (Nat.le_of_ble_eq_true rfl) ?_
    intro r I4842 J4843 Ra hq
    obtain ⟨⟨hI4842, ec⟩, rfl⟩ := hq
    rw [ec]
    clear ec Ra
    have e4844 : I4842 (ad g 1) 1 = L := hI4842.2
    have b4845 := BT_get hI4842.1 1 1 2 (0) (0) (900) (by decide) 1 (by decide) (by decide)
    rw [e4844] at b4845
    exact WP_vret dX7_tell_193 rfl ⟨⟨hI4842, rfl, trivial⟩, rfl⟩
  · have hlt : j < 9 := by have := (Array.getElem?_eq_some_iff.mp hj).1; simpa using this
    have hcs : (j = 0 ∧ off = 49) ∨ (j = 1 ∧ off = 62) ∨ (j = 2 ∧ off = 70) ∨ (j = 3 ∧ off = 78) ∨ (j = 4 ∧ off = 91) ∨ (j = 5 ∧ off = 104) ∨ (j = 6 ∧ off = 117) ∨ (j = 7 ∧ off = 125) ∨ (j = 8 ∧ off = 149) := by
      match j, hlt, hj with
      | 0, _, hj => exact Or.inl ⟨rfl, (Option.some.inj hj).symm⟩
      | 1, _, hj => exact Or.inr (Or.inl ⟨rfl, (Option.some.inj hj).symm⟩)
      | 2, _, hj => exact Or.inr (Or.inr (Or.inl ⟨rfl, (Option.some.inj hj).symm⟩))
      | 3, _, hj => exact Or.inr (Or.inr (Or.inr (Or.inl ⟨rfl, (Option.some.inj hj).symm⟩)))
      | 4, _, hj => exact Or.inr (Or.inr (Or.inr (Or.inr (Or.inl ⟨rfl, (Option.some.inj hj).symm⟩))))
      | 5, _, hj => exact Or.inr (Or.inr (Or.inr (Or.inr (Or.inr (Or.inl ⟨rfl, (Option.some.inj hj).symm⟩)))))
      | 6, _, hj => exact Or.inr (Or.inr (Or.inr (Or.inr (Or.inr (Or.inr (Or.inl ⟨rfl, (Option.some.inj hj).symm⟩))))))
      | 7, _, hj => exact Or.inr (Or.inr (Or.inr (Or.inr (Or.inr (Or.inr (Or.inr (Or.inl ⟨rfl, (Option.some.inj hj).symm⟩)))))))
      | 8, _, hj => exact Or.inr (Or.inr (Or.inr (Or.inr (Or.inr (Or.inr (Or.inr (Or.inr (⟨rfl, (Option.some.inj hj).symm⟩))))))))
    clear hj hlt
    rcases hcs with ⟨rfl, rfl⟩ | ⟨rfl, rfl⟩ | ⟨rfl, rfl⟩ | ⟨rfl, rfl⟩ | ⟨rfl, rfl⟩ | ⟨rfl, rfl⟩ | ⟨rfl, rfl⟩ | ⟨rfl, rfl⟩ | ⟨rfl, rfl⟩
    · exact False.elim (by omega)
    · exact False.elim (by omega)
    · exact False.elim (by omega)
    · exact False.elim (by omega)
    · exact False.elim (by omega)
    · exact False.elim (by omega)
    · exact False.elim (by omega)
    · exact False.elim (by omega)
    · exact False.elim (by omega)
