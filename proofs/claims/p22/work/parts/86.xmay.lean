set_option maxHeartbeats 4000000 in
set_option maxRecDepth 100000 in
theorem sx_allow_50 {g : GG} {n : Int} {L : Int32} (hy : LyX g)  {I : pI} {J : pJ} {R : pR} (hr : RfX g R) (hI : XI g n L I) (co : Int32) (st : Int32) (ac : Int32) (co_lo : 0 ≤ co.toInt) (co_hi : co.toInt ≤ 60) (st_lo : 0 ≤ st.toInt) (st_hi : st.toInt ≤ 5) (ac_lo : 0 ≤ ac.toInt) (ac_hi : ac.toInt ≤ 47) : SP g mX6_allow [.ref (ad g 50), .int co, .int st, .int ac] I J R (fun r I' J' R' => (I' = I ∧ J' = J ∧ R' = R) ∧ ∃ v : Int32, r = some (.int v) ∧ 0 ≤ v.toInt ∧ v.toInt ≤ 1) := by
  refine SP_of ⟨by decide, rfl⟩ (Nat.le_of_ble_eq_true rfl) ?_
  have e3990 : I (ad g 1) 1 = L := hI.2
  have b3991 := BT_get hI.1 1 1 2 (0) (0) (900) (by decide) 1 (by decide) (by decide)
  rw [e3990] at b3991
  refine WP_iload_n dX6_allow_0 rfl ?_
  refine WQ_iconst (3) (3) dX6_allow_1 rfl rfl (fun v3992 hv3992 => ?_)
  refine WQ_iand3 dX6_allow_2 hv3992 (by omega) (by omega) (fun v3993 hv3993 => ?_)
  refine WP_istore (ls' := [(0, _), (1, _), (2, _), (3, _), (4, _)]) dX6_allow_3 (by decide) rfl ?_
  refine WP_iload_n dX6_allow_5 rfl ?_
  refine WQ_iconst (2) (2) dX6_allow_6 rfl rfl (fun v3994 hv3994 => ?_)
  refine WQ_ishr2 dX6_allow_7 hv3994 (by omega) (by omega) (fun v3995 hv3995 => ?_)
  refine WQ_iconst (3) (3) dX6_allow_8 rfl rfl (fun v3996 hv3996 => ?_)
  refine WQ_iand3 dX6_allow_9 hv3996 (by omega) (by omega) (fun v3997 hv3997 => ?_)
  refine WP_istore (ls' := [(0, _), (1, _), (2, _), (3, _), (4, _), (5, _)]) dX6_allow_10 (by decide) rfl ?_
  refine WP_iload_n dX6_allow_12 rfl ?_
  refine WQ_iconst (4) (4) dX6_allow_13 rfl rfl (fun v3998 hv3998 => ?_)
  refine WQ_ishr4 dX6_allow_14 hv3998 (by omega) (by omega) (fun v3999 hv3999 => ?_)
  refine WP_istore (ls' := [(0, _), (1, _), (2, _), (3, _), (4, _), (5, _), (6, _)]) dX6_allow_15 (by decide) rfl ?_
  refine WP_iload dX6_allow_17 rfl ?_
  refine WP_aload_n dX6_allow_19 rfl ?_
  refine WQ_geti dX6_allow_20 fX6_54 rfl (lyx_is hy 50 6 rfl) (BT_get hI.1 50 5 6 (0) (0) (3) (by decide) 5 (by decide) (by decide)) (fun v4000 ev4000 av4000 bv4000 => ?_)
  have jn85_4021 : ∀ (v4021 : Int32), 0 ≤ v4021.toInt → v4021.toInt ≤ 1 → WP g mX6_allow 85 [(0, .ref (ad g 50)), (1, .int co), (2, .int st), (3, .int ac), (4, .int v3993), (5, .int v3997), (6, .int v3999)] [.int v4021] I J R (fun r I' J' R' => (I' = I ∧ J' = J ∧ R' = R) ∧ ∃ v : Int32, r = some (.int v) ∧ 0 ≤ v.toInt ∧ v.toInt ≤ 1) := by
    intro v4021 av4021 bv4021
    exact WP_zret dX6_allow_85 rfl (nar_z (by omega)) ⟨⟨rfl, rfl, rfl⟩, _, rfl, by omega, by omega⟩
  refine WQ_icmp_gt 84 dX6_allow_23 rfl (fun c4022 => ?_) (fun c4022 => ?_)
  · refine WQ_iconst (0) (0) dX6_allow_84 rfl rfl (fun v4024 hv4024 => ?_)
    exact WP_sub (fc rfl (fc rfl (fc rfl (fc rfl (fc rfl (fc rfl (fc rfl fn))))))) (jn85_4021 v4024 (by omega) (by omega))
  · refine WP_iload dX6_allow_26 rfl ?_
    refine WP_aload_n dX6_allow_28 rfl ?_
    refine WP_iload_n dX6_allow_29 rfl ?_
    refine WP_callV1 (k := 6) dX6_allow_30 ⟨⟨⟨by decide, by decide⟩, zX6_mostFromStore⟩, lX6_70, by decide, rfl, vX6_mostFromStore.1, vX6_mostFromStore.2⟩ (lyx_is hy 50 6 rfl) (sx_mostFromStore_50 hy hr hI st (by omega) (by omega)) (Nat.le_of_ble_eq_true rfl) ?_
    intro r Ia Ja Ra hq
    obtain ⟨⟨ea, eb, ec⟩, v4025, rfl, av4025, bv4025, cv4025⟩ := hq
    show WP _ _ _ _ (.int _ :: _) _ _ _ _
    rw [ea, eb, ec]
    clear ea eb ec Ia Ja Ra
    refine WQ_icmp_gt 84 dX6_allow_33 rfl (fun c4025 => ?_) (fun c4025 => ?_)
    · refine WQ_iconst (0) (0) dX6_allow_84 rfl rfl (fun v4027 hv4027 => ?_)
      exact WP_sub (fc rfl (fc rfl (fc rfl (fc rfl (fc rfl (fc rfl (fc rfl fn))))))) (jn85_4021 v4027 (by omega) (by omega))
    · refine WP_iload dX6_allow_36 rfl ?_
      refine WP_iload dX6_allow_38 rfl ?_
      refine WQ_iadd dX6_allow_40 (by omega) (by omega) (fun v4028 hv4028 => ?_)
      refine WP_aload_n dX6_allow_41 rfl ?_
      refine WQ_geti dX6_allow_42 fX6_36 rfl (lyx_is hy 50 6 rfl) (BT_get hI.1 50 1 2 (0) (0) (3) (by decide) 1 (by decide) (by decide)) (fun v4029 ev4029 av4029 bv4029 => ?_)
      refine WQ_icmp_gt 84 dX6_allow_45 rfl (fun c4029 => ?_) (fun c4029 => ?_)
      · refine WQ_iconst (0) (0) dX6_allow_84 rfl rfl (fun v4031 hv4031 => ?_)
        exact WP_sub (fc rfl (fc rfl (fc rfl (fc rfl (fc rfl (fc rfl (fc rfl fn))))))) (jn85_4021 v4031 (by omega) (by omega))
      · refine WP_iload dX6_allow_48 rfl ?_
        refine WP_aload_n dX6_allow_50 rfl ?_
        refine WQ_geti dX6_allow_51 fX6_57 rfl (lyx_is hy 50 6 rfl) (BT_get hI.1 50 6 7 (0) (0) (2) (by decide) 6 (by decide) (by decide)) (fun v4032 ev4032 av4032 bv4032 => ?_)
        refine WQ_icmp_gt 84 dX6_allow_54 rfl (fun c4032 => ?_) (fun c4032 => ?_)
        · refine WQ_iconst (0) (0) dX6_allow_84 rfl rfl (fun v4034 hv4034 => ?_)
          exact WP_sub (fc rfl (fc rfl (fc rfl (fc rfl (fc rfl (fc rfl (fc rfl fn))))))) (jn85_4021 v4034 (by omega) (by omega))
        · refine WP_iload_n dX6_allow_57 rfl ?_
          refine WP_iload dX6_allow_58 rfl ?_
          refine WQ_isub dX6_allow_60 (by omega) (by omega) (fun v4035 hv4035 => ?_)
          refine WP_iload dX6_allow_61 rfl ?_
          refine WQ_iadd dX6_allow_63 (by omega) (by omega) (fun v4036 hv4036 => ?_)
          refine WQ_iconst (5) (5) dX6_allow_64 rfl rfl (fun v4037 hv4037 => ?_)
          refine WQ_icmp_gt 84 dX6_allow_65 rfl (fun c4037 => ?_) (fun c4037 => ?_)
          · refine WQ_iconst (0) (0) dX6_allow_84 rfl rfl (fun v4039 hv4039 => ?_)
            exact WP_sub (fc rfl (fc rfl (fc rfl (fc rfl (fc rfl (fc rfl (fc rfl fn))))))) (jn85_4021 v4039 (by omega) (by omega))
          · refine WP_aload_n dX6_allow_68 rfl ?_
            refine WP_iload dX6_allow_69 rfl ?_
            refine WP_iload dX6_allow_71 rfl ?_
            refine WP_callV2 (k := 6) dX6_allow_73 ⟨⟨⟨by decide, by decide⟩, zX6_priceOf⟩, lX6_74, by decide, rfl, vX6_priceOf.1, vX6_priceOf.2⟩ (lyx_is hy 50 6 rfl) (sx_priceOf_50 hy hr hI v3993 v3999 (by omega) (by omega) (by omega) (by omega)) (Nat.le_of_ble_eq_true rfl) ?_
            intro r Ia Ja Ra hq
            obtain ⟨⟨ea, eb, ec⟩, v4040, rfl, av4040, bv4040⟩ := hq
            show WP _ _ _ _ (.int _ :: _) _ _ _ _
            rw [ea, eb, ec]
            clear ea eb ec Ia Ja Ra
            refine WP_iload_n dX6_allow_76 rfl ?_
            refine WQ_icmp_gt 84 dX6_allow_77 rfl (fun c4040 => ?_) (fun c4040 => ?_)
            · refine WQ_iconst (0) (0) dX6_allow_84 rfl rfl (fun v4042 hv4042 => ?_)
              exact WP_sub (fc rfl (fc rfl (fc rfl (fc rfl (fc rfl (fc rfl (fc rfl fn))))))) (jn85_4021 v4042 (by omega) (by omega))
            · refine WQ_iconst (1) (1) dX6_allow_80 rfl rfl (fun v4043 hv4043 => ?_)
              refine WP_goto 85 dX6_allow_81 rfl ?_
              exact WP_sub (fc rfl (fc rfl (fc rfl (fc rfl (fc rfl (fc rfl (fc rfl fn))))))) (jn85_4021 v4043 (by omega) (by omega))
set_option maxHeartbeats 4000000 in
set_option maxRecDepth 100000 in
theorem sx_may_6 {g : GG} {n : Int} {L : Int32} (hy : LyX g)  {I : pI} {J : pJ} {R : pR} (hr : RfX g R) (hT : R (ad g 5) 0 = some (ad g 6)) (hI : XI g n L I) (a : Int32) (b : Int32) (c : Int32) (e : Int32) (f : Int32)  : SP g mX10_may [.ref (ad g 0), .int a, .int b, .int c, .int e, .int f] I J R (fun r I' J' R' => (XI g n L I' ∧ R' = R ∧ fz 74 g [50] I I' ∧ fz 74 g [] J J') ∧ ∃ v : Int32, r = some (.int v)) := by
  refine SP_of ⟨by decide, rfl⟩ (Nat.le_of_ble_eq_true rfl) ?_
  have e4044 : I (ad g 1) 1 = L := hI.2
  have b4045 := BT_get hI.1 1 1 2 (0) (0) (900) (by decide) 1 (by decide) (by decide)
  rw [e4044] at b4045
  have fr0 : fz 74 g [50] I I := fz_rf
  have frj0 : fz 74 g [] J J := fz_rf
  refine WP_aload_n dX10_may_0 rfl ?_
  refine WP_iload_n dX10_may_1 rfl ?_
  refine WP_iload_n dX10_may_2 rfl ?_
  refine WP_iload_n dX10_may_3 rfl ?_
  refine WP_iload dX10_may_4 rfl ?_
  refine WP_callV4 (k := 10) dX10_may_6 ⟨⟨⟨by decide, by decide⟩, zX10_isPerson⟩, lX10_188, by decide, rfl, vX10_isPerson.1, vX10_isPerson.2⟩ (lyx_is hy 0 10 rfl) (sx_isPerson_6 hy hr hT hI a b c e    ) (Nat.le_of_ble_eq_true rfl) ?_
  intro r Ia Ja Ra hq
  obtain ⟨⟨ea, eb, ec⟩, v4046, rfl, av4046, bv4046, cv4046⟩ := hq
  show WP _ _ _ _ (.int _ :: _) _ _ _ _
  rw [ea, eb, ec]
  clear ea eb ec Ia Ja Ra
  refine WQ_if_eq 24 dX10_may_9 rfl (fun c4046 => ?_) (fun c4046 => ?_)
  · refine WQ_bipush (-2) (-2) dX10_may_24 rfl rfl (fun v4048 hv4048 => ?_)
    exact WP_iret dX10_may_26 rfl ⟨⟨hI, rfl, fr0, frj0⟩, _, rfl⟩
  · refine WP_iload dX10_may_12 rfl ?_
    refine WQ_if_lt 24 dX10_may_14 rfl (fun c4048 => ?_) (fun c4048 => ?_)
    · refine WQ_bipush (-2) (-2) dX10_may_24 rfl rfl (fun v4050 hv4050 => ?_)
      exact WP_iret dX10_may_26 rfl ⟨⟨hI, rfl, fr0, frj0⟩, _, rfl⟩
    · refine WP_iload dX10_may_17 rfl ?_
      refine WQ_bipush (48) (48) dX10_may_19 rfl rfl (fun v4051 hv4051 => ?_)
      refine WQ_icmp_lt 27 dX10_may_21 rfl (fun c4051 => ?_) (fun c4051 => ?_)
      · refine WP_aload_n dX10_may_27 rfl ?_
        refine WP_getr dX10_may_28 fX10_55 rfl (lyx_is hy 0 10 rfl) (rfx hr 0 4 49 (by decide)) ?_
        refine WP_getr dX10_may_31 fX10_192 rfl (lyx_is hy 49 9 rfl) (rfx hr 49 0 50 (by decide)) ?_
        refine WP_astore (ls' := [(0, _), (1, _), (2, _), (3, _), (4, _), (5, _), (6, _)]) dX10_may_34 (by decide) rfl ?_
        refine WP_aload dX10_may_36 rfl ?_
        refine WP_aload_n dX10_may_38 rfl ?_
        refine WP_getr dX10_may_39 fX10_33 rfl (lyx_is hy 0 10 rfl) (rfx hr 0 2 5 (by decide)) ?_
        refine WP_iload_n dX10_may_42 rfl ?_
        refine WP_iload_n dX10_may_43 rfl ?_
        refine WP_callV3 (k := 6) dX10_may_44 ⟨⟨⟨by decide, by decide⟩, zX6_load⟩, lX10_196, by decide, rfl, vX6_load.1, vX6_load.2⟩ (lyx_is hy 50 6 rfl) (sx_load_50_6 hy hr hT hI a b (by omega) (by omega) (by omega) (by omega)) (Nat.le_of_ble_eq_true rfl) ?_
        intro r I4053 J4054 Ra hq
        obtain ⟨⟨hI4053, ec, fiI4053, fjI4053⟩, rfl⟩ := hq
        rw [ec]
        clear ec Ra
        have fr4055 : fz 74 g [50] I I4053 := fz_tr fr0 (fz_mono fiI4053 (by decide))
        have fr4056 : fz 74 g [] J J4054 := fz_tr frj0 (fz_mono fjI4053 (by decide))
        have e4057 : I4053 (ad g 1) 1 = L := hI4053.2
        have b4058 := BT_get hI4053.1 1 1 2 (0) (0) (900) (by decide) 1 (by decide) (by decide)
        rw [e4057] at b4058
        refine WP_aload dX10_may_47 rfl ?_
        refine WP_iload_n dX10_may_49 rfl ?_
        refine WP_iload dX10_may_50 rfl ?_
        refine WP_iload dX10_may_52 rfl ?_
        refine WP_callV3 (k := 6) dX10_may_54 ⟨⟨⟨by decide, by decide⟩, zX6_allow⟩, lX10_202, by decide, rfl, vX6_allow.1, vX6_allow.2⟩ (lyx_is hy 50 6 rfl) (sx_allow_50 hy hr hI4053 c e f (by omega) (by omega) (by omega) (by omega) (by omega) (by omega)) (Nat.le_of_ble_eq_true rfl) ?_
        intro r Ia Ja Ra hq
        obtain ⟨⟨ea, eb, ec⟩, v4059, rfl, av4059, bv4059⟩ := hq
        show WP _ _ _ _ (.int _ :: _) _ _ _ _
        rw [ea, eb, ec]
        clear ea eb ec Ia Ja Ra
        have jn65_4062 : ∀ (v4062 : Int32), 0 ≤ v4062.toInt → v4062.toInt ≤ 1 → WP g mX10_may 65 [(0, .ref (ad g 0)), (1, .int a), (2, .int b), (3, .int c), (4, .int e), (5, .int f), (6, .ref (ad g 50))] [.int v4062] I4053 J4054 R (fun r I' J' R' => (XI g n L I' ∧ R' = R ∧ fz 74 g [50] I I' ∧ fz 74 g [] J J') ∧ ∃ v : Int32, r = some (.int v)) := by
          intro v4062 av4062 bv4062
          exact WP_iret dX10_may_65 rfl ⟨⟨hI4053, rfl, fr4055, fr4056⟩, _, rfl⟩
        refine WQ_if_eq 64 dX10_may_57 rfl (fun c4063 => ?_) (fun c4063 => ?_)
        · refine WQ_iconst (0) (0) dX10_may_64 rfl rfl (fun v4065 hv4065 => ?_)
          exact WP_sub (fc rfl (fc rfl (fc rfl (fc rfl (fc rfl (fc rfl (fc rfl fn))))))) (jn65_4062 v4065 (by omega) (by omega))
        · refine WQ_iconst (1) (1) dX10_may_60 rfl rfl (fun v4066 hv4066 => ?_)
          refine WP_goto 65 dX10_may_61 rfl ?_
          exact WP_sub (fc rfl (fc rfl (fc rfl (fc rfl (fc rfl (fc rfl (fc rfl fn))))))) (jn65_4062 v4066 (by omega) (by omega))
      · refine WQ_bipush (-2) (-2) dX10_may_24 rfl rfl (fun v4067 hv4067 => ?_)
        exact WP_iret dX10_may_26 rfl ⟨⟨hI, rfl, fr0, frj0⟩, _, rfl⟩
set_option maxHeartbeats 4000000 in
set_option maxRecDepth 100000 in
theorem sx_may_27 {g : GG} {n : Int} {L : Int32} (hy : LyX g)  {I : pI} {J : pJ} {R : pR} (hr : RfX g R) (hT : R (ad g 5) 0 = some (ad g 27)) (hI : XI g n L I) (a : Int32) (b : Int32) (c : Int32) (e : Int32) (f : Int32)  : SP g mX10_may [.ref (ad g 0), .int a, .int b, .int c, .int e, .int f] I J R (fun r I' J' R' => (XI g n L I' ∧ R' = R ∧ fz 74 g [50] I I' ∧ fz 74 g [] J J') ∧ ∃ v : Int32, r = some (.int v)) := by
  refine SP_of ⟨by decide, rfl⟩ (Nat.le_of_ble_eq_true rfl) ?_
  have e4068 : I (ad g 1) 1 = L := hI.2
  have b4069 := BT_get hI.1 1 1 2 (0) (0) (900) (by decide) 1 (by decide) (by decide)
  rw [e4068] at b4069
  have fr0 : fz 74 g [50] I I := fz_rf
  have frj0 : fz 74 g [] J J := fz_rf
  refine WP_aload_n dX10_may_0 rfl ?_
  refine WP_iload_n dX10_may_1 rfl ?_
  refine WP_iload_n dX10_may_2 rfl ?_
  refine WP_iload_n dX10_may_3 rfl ?_
  refine WP_iload dX10_may_4 rfl ?_
  refine WP_callV4 (k := 10) dX10_may_6 ⟨⟨⟨by decide, by decide⟩, zX10_isPerson⟩, lX10_188, by decide, rfl, vX10_isPerson.1, vX10_isPerson.2⟩ (lyx_is hy 0 10 rfl) (sx_isPerson_27 hy hr hT hI a b c e    ) (Nat.le_of_ble_eq_true rfl) ?_
  intro r Ia Ja Ra hq
  obtain ⟨⟨ea, eb, ec⟩, v4070, rfl, av4070, bv4070, cv4070⟩ := hq
  show WP _ _ _ _ (.int _ :: _) _ _ _ _
  rw [ea, eb, ec]
  clear ea eb ec Ia Ja Ra
  refine WQ_if_eq 24 dX10_may_9 rfl (fun c4070 => ?_) (fun c4070 => ?_)
  · refine WQ_bipush (-2) (-2) dX10_may_24 rfl rfl (fun v4072 hv4072 => ?_)
    exact WP_iret dX10_may_26 rfl ⟨⟨hI, rfl, fr0, frj0⟩, _, rfl⟩
  · refine WP_iload dX10_may_12 rfl ?_
    refine WQ_if_lt 24 dX10_may_14 rfl (fun c4072 => ?_) (fun c4072 => ?_)
    · refine WQ_bipush (-2) (-2) dX10_may_24 rfl rfl (fun v4074 hv4074 => ?_)
      exact WP_iret dX10_may_26 rfl ⟨⟨hI, rfl, fr0, frj0⟩, _, rfl⟩
    · refine WP_iload dX10_may_17 rfl ?_
      refine WQ_bipush (48) (48) dX10_may_19 rfl rfl (fun v4075 hv4075 => ?_)
      refine WQ_icmp_lt 27 dX10_may_21 rfl (fun c4075 => ?_) (fun c4075 => ?_)
      · refine WP_aload_n dX10_may_27 rfl ?_
        refine WP_getr dX10_may_28 fX10_55 rfl (lyx_is hy 0 10 rfl) (rfx hr 0 4 49 (by decide)) ?_
        refine WP_getr dX10_may_31 fX10_192 rfl (lyx_is hy 49 9 rfl) (rfx hr 49 0 50 (by decide)) ?_
        refine WP_astore (ls' := [(0, _), (1, _), (2, _), (3, _), (4, _), (5, _), (6, _)]) dX10_may_34 (by decide) rfl ?_
        refine WP_aload dX10_may_36 rfl ?_
        refine WP_aload_n dX10_may_38 rfl ?_
        refine WP_getr dX10_may_39 fX10_33 rfl (lyx_is hy 0 10 rfl) (rfx hr 0 2 5 (by decide)) ?_
        refine WP_iload_n dX10_may_42 rfl ?_
        refine WP_iload_n dX10_may_43 rfl ?_
        refine WP_callV3 (k := 6) dX10_may_44 ⟨⟨⟨by decide, by decide⟩, zX6_load⟩, lX10_196, by decide, rfl, vX6_load.1, vX6_load.2⟩ (lyx_is hy 50 6 rfl) (sx_load_50_27 hy hr hT hI a b (by omega) (by omega) (by omega) (by omega)) (Nat.le_of_ble_eq_true rfl) ?_
        intro r I4077 J4078 Ra hq
        obtain ⟨⟨hI4077, ec, fiI4077, fjI4077⟩, rfl⟩ := hq
        rw [ec]
        clear ec Ra
        have fr4079 : fz 74 g [50] I I4077 := fz_tr fr0 (fz_mono fiI4077 (by decide))
        have fr4080 : fz 74 g [] J J4078 := fz_tr frj0 (fz_mono fjI4077 (by decide))
        have e4081 : I4077 (ad g 1) 1 = L := hI4077.2
        have b4082 := BT_get hI4077.1 1 1 2 (0) (0) (900) (by decide) 1 (by decide) (by decide)
        rw [e4081] at b4082
        refine WP_aload dX10_may_47 rfl ?_
        refine WP_iload_n dX10_may_49 rfl ?_
        refine WP_iload dX10_may_50 rfl ?_
        refine WP_iload dX10_may_52 rfl ?_
        refine WP_callV3 (k := 6) dX10_may_54 ⟨⟨⟨by decide, by decide⟩, zX6_allow⟩, lX10_202, by decide, rfl, vX6_allow.1, vX6_allow.2⟩ (lyx_is hy 50 6 rfl) (sx_allow_50 hy hr hI4077 c e f (by omega) (by omega) (by omega) (by omega) (by omega) (by omega)) (Nat.le_of_ble_eq_true rfl) ?_
        intro r Ia Ja Ra hq
        obtain ⟨⟨ea, eb, ec⟩, v4083, rfl, av4083, bv4083⟩ := hq
        show WP _ _ _ _ (.int _ :: _) _ _ _ _
        rw [ea, eb, ec]
        clear ea eb ec Ia Ja Ra
        have jn65_4086 : ∀ (v4086 : Int32), 0 ≤ v4086.toInt → v4086.toInt ≤ 1 → WP g mX10_may 65 [(0, .ref (ad g 0)), (1, .int a), (2, .int b), (3, .int c), (4, .int e), (5, .int f), (6, .ref (ad g 50))] [.int v4086] I4077 J4078 R (fun r I' J' R' => (XI g n L I' ∧ R' = R ∧ fz 74 g [50] I I' ∧ fz 74 g [] J J') ∧ ∃ v : Int32, r = some (.int v)) := by
          intro v4086 av4086 bv4086
          exact WP_iret dX10_may_65 rfl ⟨⟨hI4077, rfl, fr4079, fr4080⟩, _, rfl⟩
        refine WQ_if_eq 64 dX10_may_57 rfl (fun c4087 => ?_) (fun c4087 => ?_)
        · refine WQ_iconst (0) (0) dX10_may_64 rfl rfl (fun v4089 hv4089 => ?_)
          exact WP_sub (fc rfl (fc rfl (fc rfl (fc rfl (fc rfl (fc rfl (fc rfl fn))))))) (jn65_4086 v4089 (by omega) (by omega))
        · refine WQ_iconst (1) (1) dX10_may_60 rfl rfl (fun v4090 hv4090 => ?_)
          refine WP_goto 65 dX10_may_61 rfl ?_
          exact WP_sub (fc rfl (fc rfl (fc rfl (fc rfl (fc rfl (fc rfl (fc rfl fn))))))) (jn65_4086 v4090 (by omega) (by omega))
      · refine WQ_bipush (-2) (-2) dX10_may_24 rfl rfl (fun v4091 hv4091 => ?_)
        exact WP_iret dX10_may_26 rfl ⟨⟨hI, rfl, fr0, frj0⟩, _, rfl⟩
set_option maxHeartbeats 4000000 in
set_option maxRecDepth 100000 in
theorem sx_takenAt {g : GG} {n : Int} {L : Int32} (hy : LyX g)  {I : pI} {J : pJ} {R : pR} (hr : RfX g R) (hI : XI g n L I) (p : Int32) (q : Int32) (p_lo : 0 ≤ p.toInt) (p_hi : p.toInt ≤ 100) (q_lo : 0 ≤ q.toInt) (q_hi : q.toInt ≤ 100) : SP g mX8_takenAt [.ref (ad g 69), .int p, .int q] I J R (fun r I' J' R' => (XI g n L I' ∧ R' = R ∧ fz 74 g [69] I I' ∧ fz 74 g [] J J') ∧ r = none) := by
  refine SP_of ⟨by decide, rfl⟩ (Nat.le_of_ble_eq_true rfl) ?_
  have e4092 : I (ad g 1) 1 = L := hI.2
  have b4093 := BT_get hI.1 1 1 2 (0) (0) (900) (by decide) 1 (by decide) (by decide)
  rw [e4092] at b4093
  have fr0 : fz 74 g [69] I I := fz_rf
  have frj0 : fz 74 g [] J J := fz_rf
  refine WP_aload_n dX8_takenAt_0 rfl ?_
  refine WP_iload_n dX8_takenAt_1 rfl ?_
  refine WQ_puti dX8_takenAt_2 fX8_19 rfl rfl (lyx_is hy 69 8 rfl) (fun I4094 eI4094 => ?_)
  have hI4094 : XI g n L I4094 := by rw [eI4094]; exact (xi_f0 hy hI (c := 69) (by decide) (Or.inl (by decide)) (by decide))
  have e4095 : I4094 (ad g 1) 1 = L := by rw [eI4094, pp_ne _ _ (Or.inl (lyx_ne hy (by decide) (by decide) (by decide)))]; exact e4092
  have e4096 : I4094 (ad g 69) 0 = p := by rw [eI4094, pp_self]
  have fr4097 : fz 74 g [69] I I4094 := by rw [eI4094]; exact fzx_pp hy fr0 (by decide) (by decide)
  clear eI4094
  refine WP_aload_n dX8_takenAt_5 rfl ?_
  refine WP_iload_n dX8_takenAt_6 rfl ?_
  refine WQ_puti dX8_takenAt_7 fX8_22 rfl rfl (lyx_is hy 69 8 rfl) (fun I4098 eI4098 => ?_)
  have hI4098 : XI g n L I4098 := by rw [eI4098]; exact (xi_f0 hy hI4094 (c := 69) (by decide) (Or.inl (by decide)) (by decide))
  have e4099 : I4098 (ad g 1) 1 = L := by rw [eI4098, pp_ne _ _ (Or.inl (lyx_ne hy (by decide) (by decide) (by decide)))]; exact e4095
  have e4100 : I4098 (ad g 69) 0 = p := by rw [eI4098, pp_ne _ _ (Or.inr (by decide))]; exact e4096
  have e4101 : I4098 (ad g 69) 1 = q := by rw [eI4098, pp_self]
  have fr4102 : fz 74 g [69] I I4098 := by rw [eI4098]; exact fzx_pp hy fr4097 (by decide) (by decide)
  clear eI4098
  exact WP_vret dX8_takenAt_10 rfl ⟨⟨hI4098, rfl, fr4102, frj0⟩, rfl⟩
set_option maxHeartbeats 4000000 in
set_option maxRecDepth 100000 in
theorem sx_losesOn {g : GG} {n : Int} {L : Int32} (hy : LyX g)  {I : pI} {J : pJ} {R : pR} (hr : RfX g R) (hI : XI g n L I) (da : Int32) (r : Int32) (da_lo : 0 ≤ da.toInt) (da_hi : da.toInt ≤ 20) (r_lo : 1 ≤ r.toInt) (r_hi : r.toInt ≤ 20) : SP g mX8_losesOn [.int da, .int r] I J R (fun r I' J' R' => (I' = I ∧ J' = J ∧ R' = R) ∧ ∃ v : Int32, r = some (.int v) ∧ 0 ≤ v.toInt ∧ v.toInt ≤ 1) := by
  refine SP_of ⟨by decide, rfl⟩ (Nat.le_of_ble_eq_true rfl) ?_
  have e4103 : I (ad g 1) 1 = L := hI.2
  have b4104 := BT_get hI.1 1 1 2 (0) (0) (900) (by decide) 1 (by decide) (by decide)
  rw [e4103] at b4104
  refine WP_iload_n dX8_losesOn_0 rfl ?_
  have jn15_4108 : ∀ (v4108 : Int32), 0 ≤ v4108.toInt → v4108.toInt ≤ 1 → WP g mX8_losesOn 15 [(0, .int da), (1, .int r)] [.int v4108] I J R (fun r I' J' R' => (I' = I ∧ J' = J ∧ R' = R) ∧ ∃ v : Int32, r = some (.int v) ∧ 0 ≤ v.toInt ∧ v.toInt ≤ 1) := by
    intro v4108 av4108 bv4108
    exact WP_iret dX8_losesOn_15 rfl ⟨⟨rfl, rfl, rfl⟩, _, rfl, by omega, by omega⟩
  refine WQ_if_le 14 dX8_losesOn_1 rfl (fun c4109 => False.elim (by omega)) (fun c4109 => ?_)
  refine WP_iload_n dX8_losesOn_4 rfl ?_
  refine WP_iload_n dX8_losesOn_5 rfl ?_
  refine WQ_iremu dX8_losesOn_6 (by omega) (fun v4111 => ?_)
  refine WX_if_ne 14 dX8_losesOn_7 rfl ?_ ?_
  · refine WQ_iconst (0) (0) dX8_losesOn_14 rfl rfl (fun v4112 hv4112 => ?_)
    exact WP_sub (fc rfl (fc rfl fn)) (jn15_4108 v4112 (by omega) (by omega))
  · refine WQ_iconst (1) (1) dX8_losesOn_10 rfl rfl (fun v4113 hv4113 => ?_)
    refine WP_goto 15 dX8_losesOn_11 rfl ?_
    exact WP_sub (fc rfl (fc rfl fn)) (jn15_4108 v4113 (by omega) (by omega))
set_option maxHeartbeats 4000000 in
set_option maxRecDepth 100000 in
theorem sx_mean {g : GG} {n : Int} {L : Int32} (hy : LyX g)  {I : pI} {J : pJ} {R : pR} (hr : RfX g R) (hI : XI g n L I) (ta : Int32) (y : Int32) (z : Int32)  : SP g mX8_mean [.int ta, .int y, .int z] I J R (fun r I' J' R' => (I' = I ∧ J' = J ∧ R' = R) ∧ ∃ v : Int32, r = some (.int v)) := by
  refine SP_of ⟨by decide, rfl⟩ (Nat.le_of_ble_eq_true rfl) ?_
  have e4114 : I (ad g 1) 1 = L := hI.2
  have b4115 := BT_get hI.1 1 1 2 (0) (0) (900) (by decide) 1 (by decide) (by decide)
  rw [e4114] at b4115
  refine WP_iload_n dX8_mean_0 rfl ?_
  refine WQ_sipush (1000) (1000) dX8_mean_1 rfl rfl (fun v4116 hv4116 => ?_)
  refine WP_iload_n dX8_mean_4 rfl ?_
  refine WQ_iaddu dX8_mean_5 (fun v4117 => ?_)
  refine WQ_imulu dX8_mean_6 (fun v4118 => ?_)
  refine WQ_bipush (100) (100) dX8_mean_7 rfl rfl (fun v4119 hv4119 => ?_)
  refine WP_iload_n dX8_mean_9 rfl ?_
  refine WQ_isubu dX8_mean_10 (fun v4120 => ?_)
  refine WP_iload_n dX8_mean_11 rfl ?_
  refine WQ_imulu dX8_mean_12 (fun v4121 => ?_)
  refine WQ_iaddu dX8_mean_13 (fun v4122 => ?_)
  refine WQ_bipush (100) (100) dX8_mean_14 rfl rfl (fun v4123 hv4123 => ?_)
  refine WQ_idivu dX8_mean_16 (by omega) (fun v4124 => ?_)
  exact WP_iret dX8_mean_17 rfl ⟨⟨rfl, rfl, rfl⟩, _, rfl⟩
set_option maxHeartbeats 4000000 in
set_option maxRecDepth 100000 in
theorem sx_behind {g : GG} {n : Int} {L : Int32} (hy : LyX g)  {I : pI} {J : pJ} {R : pR} (hr : RfX g R) (hI : XI g n L I) (a : Int32) (b : Int32) (a_lo : 0 ≤ a.toInt) (a_hi : a.toInt ≤ 9) (b_lo : 0 ≤ b.toInt) (b_hi : b.toInt ≤ 9) : SP g mX8_behind [.ref (ad g 69), .int a, .int b] I J R (fun r I' J' R' => (I' = I ∧ J' = J ∧ R' = R) ∧ ∃ v : Int32, r = some (.int v)) := by
  refine SP_of ⟨by decide, rfl⟩ (Nat.le_of_ble_eq_true rfl) ?_
  have e4125 : I (ad g 1) 1 = L := hI.2
  have b4126 := BT_get hI.1 1 1 2 (0) (0) (900) (by decide) 1 (by decide) (by decide)
  rw [e4125] at b4126
  refine WP_aload_n dX8_behind_0 rfl ?_
  refine WP_getr dX8_behind_1 fX8_9 rfl (lyx_is hy 69 8 rfl) (rfx hr 69 3 70 (by decide)) ?_
  refine WQ_iconst (0) (0) dX8_behind_4 rfl rfl (fun v4127 hv4127 => ?_)
  refine WP_iload_n dX8_behind_5 rfl ?_
  refine WP_aload_n dX8_behind_6 rfl ?_
  refine WQ_geti dX8_behind_7 fX8_15 rfl (lyx_is hy 69 8 rfl) (BT_get hI.1 69 2 3 (0) (0) (1) (by decide) 2 (by decide) (by decide)) (fun v4128 ev4128 av4128 bv4128 => ?_)
  refine WQ_isub dX8_behind_10 (by omega) (by omega) (fun v4129 hv4129 => ?_)
  refine WQ_max dX8_behind_11 lX8_41 ⟨by decide, Nat.le_of_ble_eq_true rfl⟩ (fun v4130 av4130 bv4130 cv4130 => ?_)
  refine WQ_bipush (10) (10) dX8_behind_14 rfl rfl (fun v4131 hv4131 => ?_)
  refine WQ_imulk (10) dX8_behind_16 hv4131 (by omega) (by omega) (fun v4132 hv4132 => ?_)
  refine WP_iload_n dX8_behind_17 rfl ?_
  refine WQ_iadd dX8_behind_18 (by omega) (by omega) (fun v4133 hv4133 => ?_)
  refine WQ_ialdu dX8_behind_19 (lyx_is hy 70 13 rfl) (lyx_n hy 70 100 rfl) (by omega) (by omega) (fun v4134 => ?_)
  exact WP_iret dX8_behind_20 rfl ⟨⟨rfl, rfl, rfl⟩, _, rfl⟩
set_option maxHeartbeats 4000000 in
set_option maxRecDepth 100000 in
theorem sx_offeringNote {g : GG} {n : Int} {L : Int32} (hy : LyX g)  {I : pI} {J : pJ} {R : pR} (hr : RfX g R) (hI : XI g n L I) (a : Int32) (b : Int32) (a_lo : 0 ≤ a.toInt) (a_hi : a.toInt ≤ 9) (b_lo : 0 ≤ b.toInt) (b_hi : b.toInt ≤ 9) : SP g mX8_offeringNote [.ref (ad g 69), .int a, .int b] I J R (fun r I' J' R' => (I' = I ∧ J' = J ∧ R' = R) ∧ ∃ v : Int32, r = some (.int v)) := by
  refine SP_of ⟨by decide, rfl⟩ (Nat.le_of_ble_eq_true rfl) ?_
  have e4135 : I (ad g 1) 1 = L := hI.2
  have b4136 := BT_get hI.1 1 1 2 (0) (0) (900) (by decide) 1 (by decide) (by decide)
  rw [e4135] at b4136
  refine WP_iload_n dX8_offeringNote_0 rfl ?_
  refine WQ_iconst (1) (1) dX8_offeringNote_1 rfl rfl (fun v4137 hv4137 => ?_)
  have jn30_4145 : ∀ (v4145 : Int32), WP g mX8_offeringNote 30 [(0, .ref (ad g 69)), (1, .int a), (2, .int b)] [.int v4145] I J R (fun r I' J' R' => (I' = I ∧ J' = J ∧ R' = R) ∧ ∃ v : Int32, r = some (.int v)) := by
    intro v4145 
    exact WP_iret dX8_offeringNote_30 rfl ⟨⟨rfl, rfl, rfl⟩, _, rfl⟩
  refine WQ_icmp_ge 9 dX8_offeringNote_2 rfl (fun c4146 => ?_) (fun c4146 => ?_)
  · refine WP_aload_n dX8_offeringNote_9 rfl ?_
    refine WQ_getiu dX8_offeringNote_10 fX8_19 rfl (lyx_is hy 69 8 rfl) (fun v4148 ev4148 => ?_)
    refine WP_aload_n dX8_offeringNote_13 rfl ?_
    refine WP_iload_n dX8_offeringNote_14 rfl ?_
    refine WQ_iconst (1) (1) dX8_offeringNote_15 rfl rfl (fun v4149 hv4149 => ?_)
    refine WQ_isub dX8_offeringNote_16 (by omega) (by omega) (fun v4150 hv4150 => ?_)
    refine WP_iload_n dX8_offeringNote_17 rfl ?_
    refine WP_callV2 (k := 8) dX8_offeringNote_18 ⟨⟨⟨by decide, by decide⟩, zX8_behind⟩, lX8_46, by decide, rfl, vX8_behind.1, vX8_behind.2⟩ (lyx_is hy 69 8 rfl) (sx_behind hy hr hI v4150 b (by omega) (by omega) (by omega) (by omega)) (Nat.le_of_ble_eq_true rfl) ?_
    intro r Ia Ja Ra hq
    obtain ⟨⟨ea, eb, ec⟩, v4151, rfl⟩ := hq
    show WP _ _ _ _ (.int _ :: _) _ _ _ _
    rw [ea, eb, ec]
    clear ea eb ec Ia Ja Ra
    refine WP_aload_n dX8_offeringNote_21 rfl ?_
    refine WP_iload_n dX8_offeringNote_22 rfl ?_
    refine WP_iload_n dX8_offeringNote_23 rfl ?_
    refine WP_callV2 (k := 8) dX8_offeringNote_24 ⟨⟨⟨by decide, by decide⟩, zX8_behind⟩, lX8_46, by decide, rfl, vX8_behind.1, vX8_behind.2⟩ (lyx_is hy 69 8 rfl) (sx_behind hy hr hI a b (by omega) (by omega) (by omega) (by omega)) (Nat.le_of_ble_eq_true rfl) ?_
    intro r Ia Ja Ra hq
    obtain ⟨⟨ea, eb, ec⟩, v4152, rfl⟩ := hq
    show WP _ _ _ _ (.int _ :: _) _ _ _ _
    rw [ea, eb, ec]
    clear ea eb ec Ia Ja Ra
    refine WP_callS3 dX8_offeringNote_27 ⟨⟨⟨by decide, by decide⟩, zX8_mean⟩, lX8_49, tX8_mean⟩ (sx_mean hy hr hI v4148 v4151 v4152   ) (Nat.le_of_ble_eq_true rfl) ?_
    intro r Ia Ja Ra hq
    obtain ⟨⟨ea, eb, ec⟩, v4153, rfl⟩ := hq
    show WP _ _ _ _ (.int _ :: _) _ _ _ _
    rw [ea, eb, ec]
    clear ea eb ec Ia Ja Ra
    exact WP_sub (fc rfl (fc rfl (fc rfl fn))) (jn30_4145 v4153)
  · refine WQ_iconst (-1) (-1) dX8_offeringNote_5 rfl rfl (fun v4154 hv4154 => ?_)
    refine WP_goto 30 dX8_offeringNote_6 rfl ?_
    exact WP_sub (fc rfl (fc rfl (fc rfl fn))) (jn30_4145 v4154)
set_option maxHeartbeats 4000000 in
set_option maxRecDepth 100000 in
theorem sx_offeringOther {g : GG} {n : Int} {L : Int32} (hy : LyX g)  {I : pI} {J : pJ} {R : pR} (hr : RfX g R) (hI : XI g n L I) (a : Int32) (b : Int32) (a_lo : 0 ≤ a.toInt) (a_hi : a.toInt ≤ 9) (b_lo : 0 ≤ b.toInt) (b_hi : b.toInt ≤ 9) : SP g mX8_offeringOther [.ref (ad g 69), .int a, .int b] I J R (fun r I' J' R' => (I' = I ∧ J' = J ∧ R' = R) ∧ ∃ v : Int32, r = some (.int v)) := by
  refine SP_of ⟨by decide, rfl⟩ (Nat.le_of_ble_eq_true rfl) ?_
  have e4155 : I (ad g 1) 1 = L := hI.2
  have b4156 := BT_get hI.1 1 1 2 (0) (0) (900) (by decide) 1 (by decide) (by decide)
  rw [e4155] at b4156
  refine WP_iload_n dX8_offeringOther_0 rfl ?_
  refine WQ_iconst (1) (1) dX8_offeringOther_1 rfl rfl (fun v4157 hv4157 => ?_)
  have jn30_4165 : ∀ (v4165 : Int32), WP g mX8_offeringOther 30 [(0, .ref (ad g 69)), (1, .int a), (2, .int b)] [.int v4165] I J R (fun r I' J' R' => (I' = I ∧ J' = J ∧ R' = R) ∧ ∃ v : Int32, r = some (.int v)) := by
    intro v4165 
    exact WP_iret dX8_offeringOther_30 rfl ⟨⟨rfl, rfl, rfl⟩, _, rfl⟩
  refine WQ_icmp_ge 9 dX8_offeringOther_2 rfl (fun c4166 => ?_) (fun c4166 => ?_)
  · refine WP_aload_n dX8_offeringOther_9 rfl ?_
    refine WQ_getiu dX8_offeringOther_10 fX8_22 rfl (lyx_is hy 69 8 rfl) (fun v4168 ev4168 => ?_)
    refine WP_aload_n dX8_offeringOther_13 rfl ?_
    refine WP_iload_n dX8_offeringOther_14 rfl ?_
    refine WP_iload_n dX8_offeringOther_15 rfl ?_
    refine WQ_iconst (1) (1) dX8_offeringOther_16 rfl rfl (fun v4169 hv4169 => ?_)
    refine WQ_isub dX8_offeringOther_17 (by omega) (by omega) (fun v4170 hv4170 => ?_)
    refine WP_callV2 (k := 8) dX8_offeringOther_18 ⟨⟨⟨by decide, by decide⟩, zX8_behind⟩, lX8_46, by decide, rfl, vX8_behind.1, vX8_behind.2⟩ (lyx_is hy 69 8 rfl) (sx_behind hy hr hI a v4170 (by omega) (by omega) (by omega) (by omega)) (Nat.le_of_ble_eq_true rfl) ?_
    intro r Ia Ja Ra hq
    obtain ⟨⟨ea, eb, ec⟩, v4171, rfl⟩ := hq
    show WP _ _ _ _ (.int _ :: _) _ _ _ _
    rw [ea, eb, ec]
    clear ea eb ec Ia Ja Ra
    refine WP_aload_n dX8_offeringOther_21 rfl ?_
    refine WP_iload_n dX8_offeringOther_22 rfl ?_
    refine WP_iload_n dX8_offeringOther_23 rfl ?_
    refine WP_callV2 (k := 8) dX8_offeringOther_24 ⟨⟨⟨by decide, by decide⟩, zX8_behind⟩, lX8_46, by decide, rfl, vX8_behind.1, vX8_behind.2⟩ (lyx_is hy 69 8 rfl) (sx_behind hy hr hI a b (by omega) (by omega) (by omega) (by omega)) (Nat.le_of_ble_eq_true rfl) ?_
    intro r Ia Ja Ra hq
    obtain ⟨⟨ea, eb, ec⟩, v4172, rfl⟩ := hq
    show WP _ _ _ _ (.int _ :: _) _ _ _ _
    rw [ea, eb, ec]
    clear ea eb ec Ia Ja Ra
    refine WP_callS3 dX8_offeringOther_27 ⟨⟨⟨by decide, by decide⟩, zX8_mean⟩, lX8_49, tX8_mean⟩ (sx_mean hy hr hI v4168 v4171 v4172   ) (Nat.le_of_ble_eq_true rfl) ?_
    intro r Ia Ja Ra hq
    obtain ⟨⟨ea, eb, ec⟩, v4173, rfl⟩ := hq
    show WP _ _ _ _ (.int _ :: _) _ _ _ _
    rw [ea, eb, ec]
    clear ea eb ec Ia Ja Ra
    exact WP_sub (fc rfl (fc rfl (fc rfl fn))) (jn30_4165 v4173)
  · refine WQ_iconst (-1) (-1) dX8_offeringOther_5 rfl rfl (fun v4174 hv4174 => ?_)
    refine WP_goto 30 dX8_offeringOther_6 rfl ?_
    exact WP_sub (fc rfl (fc rfl (fc rfl fn))) (jn30_4165 v4174)
set_option maxHeartbeats 4000000 in
set_option maxRecDepth 100000 in
theorem sx_lookBack {g : GG} {n : Int} {L : Int32} (hy : LyX g)  {I : pI} {J : pJ} {R : pR} (hr : RfX g R) (hI : XI g n L I) (a : Int32) (b : Int32) (nn : Int32) (r : Int32) (a_lo : 0 ≤ a.toInt) (a_hi : a.toInt ≤ 9) (b_lo : 0 ≤ b.toInt) (b_hi : b.toInt ≤ 9) (nn_lo : 0 ≤ nn.toInt) (nn_hi : nn.toInt ≤ 20) (r_lo : 1 ≤ r.toInt) (r_hi : r.toInt ≤ 20) : SP g mX8_lookBack [.ref (ad g 69), .int a, .int b, .int nn, .int r] I J R (fun r I' J' R' => (XI g n L I' ∧ R' = R ∧ fz 74 g [69, 70] I I' ∧ fz 74 g [] J J') ∧ r = none) := by
  refine SP_of ⟨by decide, rfl⟩ (Nat.le_of_ble_eq_true rfl) ?_
  have e4175 : I (ad g 1) 1 = L := hI.2
  have b4176 := BT_get hI.1 1 1 2 (0) (0) (900) (by decide) 1 (by decide) (by decide)
  rw [e4175] at b4176
  have fr0 : fz 74 g [69, 70] I I := fz_rf
  have frj0 : fz 74 g [] J J := fz_rf
  refine WP_aload_n dX8_lookBack_0 rfl ?_
  refine WP_getr dX8_lookBack_1 fX8_9 rfl (lyx_is hy 69 8 rfl) (rfx hr 69 3 70 (by decide)) ?_
  refine WQ_iconst (0) (0) dX8_lookBack_4 rfl rfl (fun v4177 hv4177 => ?_)
  refine WP_callS2u dX8_lookBack_5 ⟨⟨⟨by decide, by decide⟩, zJ7_fill_53178⟩, lX8_25, tJ7_fill_53178⟩ (s_fill hy hr 70 100 rfl rfl (by decide) v4177) (Nat.le_of_ble_eq_true rfl) ?_
  obtain ⟨I4178, eI4178⟩ : ∃ I9 : pI, I9 = fi I (ad g 70) 100 v4177 := ⟨_, rfl⟩
  rw [← eI4178]
  have hI4178 : XI g n L I4178 := by rw [eI4178]; exact (xi_fill0 hy hI 70 100 v4177 (by decide) (by decide))
  have e4179 : I4178 (ad g 1) 1 = L := by rw [eI4178, fi_off (lyx_ne hy (by decide) (by decide) (by decide))]; exact e4175
  have fr4180 : fz 74 g [69, 70] I I4178 := by rw [eI4178]; exact fzx_fi hy fr0 (by decide) (by decide)
  clear eI4178
  refine WQ_iconst (1) (1) dX8_lookBack_8 rfl rfl (fun v4181 hv4181 => ?_)
  refine WP_istore (ls' := [(0, _), (1, _), (2, _), (3, _), (4, _), (5, _)]) dX8_lookBack_9 (by decide) rfl ?_
  have lp11_4184 : ∀ (mz : Nat) (i4182 : Int32) (I4183 : pI) (J4184 : pJ), XI g n L I4183 → fz 74 g [69, 70] I I4183 → fz 74 g [] J J4184 → 1 ≤ i4182.toInt → i4182.toInt ≤ 20 → (21 - i4182.toInt).toNat < mz → WP g mX8_lookBack 11 [(0, .ref (ad g 69)), (1, .int a), (2, .int b), (3, .int nn), (4, .int r), (5, .int i4182)] [] I4183 J4184 R (fun r I' J' R' => (XI g n L I' ∧ R' = R ∧ fz 74 g [69, 70] I I' ∧ fz 74 g [] J J') ∧ r = none) := by
    intro mz
    induction mz with
    | zero =>
      intro i4182 I4183 J4184 hI4183 fiI4183 fjJ4184 ai4182 bi4182 hmlp11_4184
      exact absurd hmlp11_4184 (Nat.not_lt_zero _)
    | succ mz ihlp11_4184 =>
      intro i4182 I4183 J4184 hI4183 fiI4183 fjJ4184 ai4182 bi4182 hmlp11_4184
      have e4186 : I4183 (ad g 1) 1 = L := hI4183.2
      have b4187 := BT_get hI4183.1 1 1 2 (0) (0) (900) (by decide) 1 (by decide) (by decide)
      rw [e4186] at b4187
      refine WP_iload dX8_lookBack_11 rfl ?_
      refine WP_iload_n dX8_lookBack_13 rfl ?_
      refine WQ_icmp_ge 102 dX8_lookBack_14 rfl (fun c4187 => ?_) (fun c4187 => ?_)
      · refine WP_aload_n dX8_lookBack_102 rfl ?_
        refine WP_iload_n dX8_lookBack_103 rfl ?_
        refine WP_iload dX8_lookBack_104 rfl ?_
        refine WP_callS2 dX8_lookBack_106 ⟨⟨⟨by decide, by decide⟩, zX8_losesOn⟩, lX8_31, tX8_losesOn⟩ (sx_losesOn hy hr hI4183 nn r (by omega) (by omega) (by omega) (by omega)) (Nat.le_of_ble_eq_true rfl) ?_
        intro r Ia Ja Ra hq
        obtain ⟨⟨ea, eb, ec⟩, v4189, rfl, av4189, bv4189⟩ := hq
        show WP _ _ _ _ (.int _ :: _) _ _ _ _
        rw [ea, eb, ec]
        clear ea eb ec Ia Ja Ra
        refine WQ_puti dX8_lookBack_109 fX8_15 rfl rfl (lyx_is hy 69 8 rfl) (fun I4190 eI4190 => ?_)
        have hI4190 : XI g n L I4190 := by rw [eI4190]; exact (xi_f hy hI4183 (c := 69) (0) (0) (1) (by decide) (Or.inl (by decide)) (by decide) (by omega) (by omega))
        have e4191 : I4190 (ad g 1) 1 = L := by rw [eI4190, pp_ne _ _ (Or.inl (lyx_ne hy (by decide) (by decide) (by decide)))]; exact e4186
        have e4192 : I4190 (ad g 69) 2 = v4189 := by rw [eI4190, pp_self]
        have fr4193 : fz 74 g [69, 70] I I4190 := by rw [eI4190]; exact fzx_pp hy fiI4183 (by decide) (by decide)
        clear eI4190
        exact WP_vret dX8_lookBack_112 rfl ⟨⟨hI4190, rfl, fr4193, fjJ4184⟩, rfl⟩
      · refine WP_aload_n dX8_lookBack_17 rfl ?_
        refine WP_iload dX8_lookBack_18 rfl ?_
        refine WP_iload dX8_lookBack_20 rfl ?_
        refine WP_callS2 dX8_lookBack_22 ⟨⟨⟨by decide, by decide⟩, zX8_losesOn⟩, lX8_31, tX8_losesOn⟩ (sx_losesOn hy hr hI4183 i4182 r (by omega) (by omega) (by omega) (by omega)) (Nat.le_of_ble_eq_true rfl) ?_
        intro r Ia Ja Ra hq
        obtain ⟨⟨ea, eb, ec⟩, v4194, rfl, av4194, bv4194⟩ := hq
        show WP _ _ _ _ (.int _ :: _) _ _ _ _
        rw [ea, eb, ec]
        clear ea eb ec Ia Ja Ra
        refine WQ_puti dX8_lookBack_25 fX8_15 rfl rfl (lyx_is hy 69 8 rfl) (fun I4195 eI4195 => ?_)
        have hI4195 : XI g n L I4195 := by rw [eI4195]; exact (xi_f hy hI4183 (c := 69) (0) (0) (1) (by decide) (Or.inl (by decide)) (by decide) (by omega) (by omega))
        have e4196 : I4195 (ad g 1) 1 = L := by rw [eI4195, pp_ne _ _ (Or.inl (lyx_ne hy (by decide) (by decide) (by decide)))]; exact e4186
        have e4197 : I4195 (ad g 69) 2 = v4194 := by rw [eI4195, pp_self]
        have fr4198 : fz 74 g [69, 70] I I4195 := by rw [eI4195]; exact fzx_pp hy fiI4183 (by decide) (by decide)
        clear eI4195
        refine WP_iload_n dX8_lookBack_28 rfl ?_
        refine WP_istore (ls' := [(0, _), (1, _), (2, _), (3, _), (4, _), (5, _), (6, _)]) dX8_lookBack_29 (by decide) rfl ?_
        have lp31_4201 : ∀ (mz : Nat) (i4199 : Int32) (I4200 : pI) (J4201 : pJ), XI g n L I4200 → fz 74 g [69, 70] I I4200 → fz 74 g [] J J4201 → -1 ≤ i4199.toInt → i4199.toInt ≤ 9 → (i4199.toInt + 1).toNat < mz → WP g mX8_lookBack 31 [(0, .ref (ad g 69)), (1, .int a), (2, .int b), (3, .int nn), (4, .int r), (5, .int i4182), (6, .int i4199)] [] I4200 J4201 R (fun r I' J' R' => (XI g n L I' ∧ R' = R ∧ fz 74 g [69, 70] I I' ∧ fz 74 g [] J J') ∧ r = none) := by
          intro mz
          induction mz with
          | zero =>
            intro i4199 I4200 J4201 hI4200 fiI4200 fjJ4201 ai4199 bi4199 hmlp31_4201
            exact absurd hmlp31_4201 (Nat.not_lt_zero _)
          | succ mz ihlp31_4201 =>
            intro i4199 I4200 J4201 hI4200 fiI4200 fjJ4201 ai4199 bi4199 hmlp31_4201
            have e4203 : I4200 (ad g 1) 1 = L := hI4200.2
            have b4204 := BT_get hI4200.1 1 1 2 (0) (0) (900) (by decide) 1 (by decide) (by decide)
            rw [e4203] at b4204
            refine WP_iload dX8_lookBack_31 rfl ?_
            refine WQ_if_lt 96 dX8_lookBack_33 rfl (fun c4204 => ?_) (fun c4204 => ?_)
            · refine WP_iinc (ls' := [(0, _), (1, _), (2, _), (3, _), (4, _), (5, _), (6, _)]) dX8_lookBack_96 rfl (by decide) rfl ?_
              have hv4206 : (i4182 + Int32.ofInt (1)).toInt = i4182.toInt + (1) := ia_n rfl (by omega) (by omega)
              generalize i4182 + Int32.ofInt (1) = v4206 at hv4206 ⊢
              refine WP_goto 11 dX8_lookBack_99 rfl ?_
              exact WP_sub (fc rfl (fc rfl (fc rfl (fc rfl (fc rfl (fc rfl fn)))))) (ihlp11_4184 v4206 I4200 J4201 hI4200 fiI4200 fjJ4201 (by omega) (by omega) (by omega))
            · refine WP_iload_n dX8_lookBack_36 rfl ?_
              refine WP_istore (ls' := [(0, _), (1, _), (2, _), (3, _), (4, _), (5, _), (6, _), (7, _)]) dX8_lookBack_37 (by decide) rfl ?_
              have lp39_4209 : ∀ (mz : Nat) (i4207 : Int32) (I4208 : pI) (J4209 : pJ), XI g n L I4208 → fz 74 g [69, 70] I I4208 → fz 74 g [] J J4209 → -1 ≤ i4207.toInt → i4207.toInt ≤ 9 → (i4207.toInt + 1).toNat < mz → WP g mX8_lookBack 39 [(0, .ref (ad g 69)), (1, .int a), (2, .int b), (3, .int nn), (4, .int r), (5, .int i4182), (6, .int i4199), (7, .int i4207)] [] I4208 J4209 R (fun r I' J' R' => (XI g n L I' ∧ R' = R ∧ fz 74 g [69, 70] I I' ∧ fz 74 g [] J J') ∧ r = none) := by
                intro mz
                induction mz with
                | zero =>
                  intro i4207 I4208 J4209 hI4208 fiI4208 fjJ4209 ai4207 bi4207 hmlp39_4209
                  exact absurd hmlp39_4209 (Nat.not_lt_zero _)
                | succ mz ihlp39_4209 =>
                  intro i4207 I4208 J4209 hI4208 fiI4208 fjJ4209 ai4207 bi4207 hmlp39_4209
                  have e4211 : I4208 (ad g 1) 1 = L := hI4208.2
                  have b4212 := BT_get hI4208.1 1 1 2 (0) (0) (900) (by decide) 1 (by decide) (by decide)
                  rw [e4211] at b4212
                  refine WP_iload dX8_lookBack_39 rfl ?_
                  refine WQ_if_lt 90 dX8_lookBack_41 rfl (fun c4212 => ?_) (fun c4212 => ?_)
                  · refine WP_iinc (ls' := [(0, _), (1, _), (2, _), (3, _), (4, _), (5, _), (6, _), (7, _)]) dX8_lookBack_90 rfl (by decide) rfl ?_
                    have hv4214 : (i4199 + Int32.ofInt (-1)).toInt = i4199.toInt + (-1) := ia_n rfl (by omega) (by omega)
                    generalize i4199 + Int32.ofInt (-1) = v4214 at hv4214 ⊢
                    refine WP_goto 31 dX8_lookBack_93 rfl ?_
                    exact WP_sub (fc rfl (fc rfl (fc rfl (fc rfl (fc rfl (fc rfl (fc rfl fn))))))) (ihlp31_4201 v4214 I4208 J4209 hI4208 fiI4208 fjJ4209 (by omega) (by omega) (by omega))
                  · refine WP_aload_n dX8_lookBack_44 rfl ?_
                    refine WP_iload dX8_lookBack_45 rfl ?_
                    refine WP_iload dX8_lookBack_47 rfl ?_
                    refine WP_callV2 (k := 8) dX8_lookBack_49 ⟨⟨⟨by decide, by decide⟩, zX8_offeringNote⟩, lX8_35, by decide, rfl, vX8_offeringNote.1, vX8_offeringNote.2⟩ (lyx_is hy 69 8 rfl) (sx_offeringNote hy hr hI4208 i4199 i4207 (by omega) (by omega) (by omega) (by omega)) (Nat.le_of_ble_eq_true rfl) ?_
                    intro r Ia Ja Ra hq
                    obtain ⟨⟨ea, eb, ec⟩, v4215, rfl⟩ := hq
                    show WP _ _ _ _ (.int _ :: _) _ _ _ _
                    rw [ea, eb, ec]
                    clear ea eb ec Ia Ja Ra
                    refine WP_aload_n dX8_lookBack_52 rfl ?_
                    refine WP_iload dX8_lookBack_53 rfl ?_
                    refine WP_iload dX8_lookBack_55 rfl ?_
                    refine WP_callV2 (k := 8) dX8_lookBack_57 ⟨⟨⟨by decide, by decide⟩, zX8_offeringOther⟩, lX8_38, by decide, rfl, vX8_offeringOther.1, vX8_offeringOther.2⟩ (lyx_is hy 69 8 rfl) (sx_offeringOther hy hr hI4208 i4199 i4207 (by omega) (by omega) (by omega) (by omega)) (Nat.le_of_ble_eq_true rfl) ?_
                    intro r Ia Ja Ra hq
                    obtain ⟨⟨ea, eb, ec⟩, v4216, rfl⟩ := hq
                    show WP _ _ _ _ (.int _ :: _) _ _ _ _
                    rw [ea, eb, ec]
                    clear ea eb ec Ia Ja Ra
                    refine WQ_max dX8_lookBack_60 lX8_41 ⟨by decide, Nat.le_of_ble_eq_true rfl⟩ (fun v4217 av4217 bv4217 cv4217 => ?_)
                    refine WP_istore (ls' := [(0, _), (1, _), (2, _), (3, _), (4, _), (5, _), (6, _), (7, _), (8, _)]) dX8_lookBack_63 (by decide) rfl ?_
                    refine WP_aload_n dX8_lookBack_65 rfl ?_
                    refine WP_getr dX8_lookBack_66 fX8_9 rfl (lyx_is hy 69 8 rfl) (rfx hr 69 3 70 (by decide)) ?_
                    refine WP_iload dX8_lookBack_69 rfl ?_
                    refine WQ_bipush (10) (10) dX8_lookBack_71 rfl rfl (fun v4218 hv4218 => ?_)
                    refine WQ_imulk (10) dX8_lookBack_73 hv4218 (by omega) (by omega) (fun v4219 hv4219 => ?_)
                    refine WP_iload dX8_lookBack_74 rfl ?_
                    refine WQ_iadd dX8_lookBack_76 (by omega) (by omega) (fun v4220 hv4220 => ?_)
                    refine WQ_iconst (0) (0) dX8_lookBack_77 rfl rfl (fun v4221 hv4221 => ?_)
                    refine WP_iload dX8_lookBack_78 rfl ?_
                    refine WQ_max dX8_lookBack_80 lX8_41 ⟨by decide, Nat.le_of_ble_eq_true rfl⟩ (fun v4222 av4222 bv4222 cv4222 => ?_)
                    refine WQ_iast dX8_lookBack_83 (lyx_is hy 70 13 rfl) (lyx_n hy 70 100 rfl) (by omega) (by omega) (fun I4223 eI4223 => ?_)
                    have hI4223 : XI g n L I4223 := by rw [eI4223]; exact (xi_r0 hy hI4208 (c := 70) (by decide) (Or.inl (by decide)) (by decide))
                    have e4224 : I4223 (ad g 1) 1 = L := by rw [eI4223, pp_ne _ _ (Or.inl (lyx_ne hy (by decide) (by decide) (by decide)))]; exact e4211
                    have fr4225 : fz 74 g [69, 70] I I4223 := by rw [eI4223]; exact fzx_pp hy fiI4208 (by decide) (by decide)
                    clear eI4223
                    refine WP_iinc (ls' := [(0, _), (1, _), (2, _), (3, _), (4, _), (5, _), (6, _), (7, _), (8, _)]) dX8_lookBack_84 rfl (by decide) rfl ?_
                    have hv4226 : (i4207 + Int32.ofInt (-1)).toInt = i4207.toInt + (-1) := ia_n rfl (by omega) (by omega)
                    generalize i4207 + Int32.ofInt (-1) = v4226 at hv4226 ⊢
                    refine WP_goto 39 dX8_lookBack_87 rfl ?_
                    exact WP_sub (fc rfl (fc rfl (fc rfl (fc rfl (fc rfl (fc rfl (fc rfl (fc rfl fn)))))))) (ihlp39_4209 v4226 I4223 J4209 hI4223 fr4225 fjJ4209 (by omega) (by omega) (by omega))
              exact WP_sub (fc rfl (fc rfl (fc rfl (fc rfl (fc rfl (fc rfl (fc rfl (fc rfl fn)))))))) (lp39_4209 _ b I4200 J4201 hI4200 fiI4200 fjJ4201 (by omega) (by omega) (Nat.lt_succ_self _))
        exact WP_sub (fc rfl (fc rfl (fc rfl (fc rfl (fc rfl (fc rfl (fc rfl fn))))))) (lp31_4201 _ a I4195 J4184 hI4195 fr4198 fjJ4184 (by omega) (by omega) (Nat.lt_succ_self _))
  exact WP_sub (fc rfl (fc rfl (fc rfl (fc rfl (fc rfl (fc rfl fn)))))) (lp11_4184 _ v4181 I4178 J hI4178 fr4180 frj0 (by omega) (by omega) (Nat.lt_succ_self _))
set_option maxHeartbeats 4000000 in
set_option maxRecDepth 100000 in
theorem sx_two {g : GG} {n : Int} {L : Int32} (hy : LyX g)  {I : pI} {J : pJ} {R : pR} (hr : RfX g R) (hI : XI g n L I) (a : Int32) (b : Int32) (p : Int32) (q : Int32) (nn : Int32) (r : Int32) (wh : Int32)  : SP g mX10_two [.ref (ad g 0), .int a, .int b, .int p, .int q, .int nn, .int r, .int wh] I J R (fun r I' J' R' => (XI g n L I' ∧ R' = R ∧ fz 74 g [69, 70] I I' ∧ fz 74 g [] J J') ∧ ∃ v : Int32, r = some (.int v)) := by
  refine SP_of ⟨by decide, rfl⟩ (Nat.le_of_ble_eq_true rfl) ?_
  have e4227 : I (ad g 1) 1 = L := hI.2
  have b4228 := BT_get hI.1 1 1 2 (0) (0) (900) (by decide) 1 (by decide) (by decide)
  rw [e4227] at b4228
  have fr0 : fz 74 g [69, 70] I I := fz_rf
  have frj0 : fz 74 g [] J J := fz_rf
  refine WP_iload_n dX10_two_0 rfl ?_
  refine WQ_iconst (0) (0) dX10_two_1 rfl rfl (fun v4229 hv4229 => ?_)
  refine WQ_bipush (9) (9) dX10_two_2 rfl rfl (fun v4230 hv4230 => ?_)
  refine WP_callS3 dX10_two_4 ⟨⟨⟨by decide, by decide⟩, zX10_within⟩, lX10_206, tX10_within⟩ (sx_within hy hr hI a v4229 v4230   ) (Nat.le_of_ble_eq_true rfl) ?_
  intro r Ia Ja Ra hq
  obtain ⟨⟨ea, eb, ec⟩, v4231, rfl, av4231, bv4231, cv4231⟩ := hq
  show WP _ _ _ _ (.int _ :: _) _ _ _ _
  rw [ea, eb, ec]
  clear ea eb ec Ia Ja Ra
  refine WQ_if_eq 41 dX10_two_7 rfl (fun c4231 => ?_) (fun c4231 => ?_)
  · refine WQ_bipush (-2) (-2) dX10_two_41 rfl rfl (fun v4233 hv4233 => ?_)
    exact WP_iret dX10_two_43 rfl ⟨⟨hI, rfl, fr0, frj0⟩, _, rfl⟩
  · refine WP_iload_n dX10_two_10 rfl ?_
    refine WQ_iconst (0) (0) dX10_two_11 rfl rfl (fun v4234 hv4234 => ?_)
    refine WQ_bipush (9) (9) dX10_two_12 rfl rfl (fun v4235 hv4235 => ?_)
    refine WP_callS3 dX10_two_14 ⟨⟨⟨by decide, by decide⟩, zX10_within⟩, lX10_206, tX10_within⟩ (sx_within hy hr hI b v4234 v4235   ) (Nat.le_of_ble_eq_true rfl) ?_
    intro r Ia Ja Ra hq
    obtain ⟨⟨ea, eb, ec⟩, v4236, rfl, av4236, bv4236, cv4236⟩ := hq
    show WP _ _ _ _ (.int _ :: _) _ _ _ _
    rw [ea, eb, ec]
    clear ea eb ec Ia Ja Ra
    refine WQ_if_eq 41 dX10_two_17 rfl (fun c4236 => ?_) (fun c4236 => ?_)
    · refine WQ_bipush (-2) (-2) dX10_two_41 rfl rfl (fun v4238 hv4238 => ?_)
      exact WP_iret dX10_two_43 rfl ⟨⟨hI, rfl, fr0, frj0⟩, _, rfl⟩
    · refine WP_iload_n dX10_two_20 rfl ?_
      refine WQ_iconst (0) (0) dX10_two_21 rfl rfl (fun v4239 hv4239 => ?_)
      refine WQ_bipush (100) (100) dX10_two_22 rfl rfl (fun v4240 hv4240 => ?_)
      refine WP_callS3 dX10_two_24 ⟨⟨⟨by decide, by decide⟩, zX10_within⟩, lX10_206, tX10_within⟩ (sx_within hy hr hI p v4239 v4240   ) (Nat.le_of_ble_eq_true rfl) ?_
      intro r Ia Ja Ra hq
      obtain ⟨⟨ea, eb, ec⟩, v4241, rfl, av4241, bv4241, cv4241⟩ := hq
      show WP _ _ _ _ (.int _ :: _) _ _ _ _
      rw [ea, eb, ec]
      clear ea eb ec Ia Ja Ra
      refine WQ_if_eq 41 dX10_two_27 rfl (fun c4241 => ?_) (fun c4241 => ?_)
      · refine WQ_bipush (-2) (-2) dX10_two_41 rfl rfl (fun v4243 hv4243 => ?_)
        exact WP_iret dX10_two_43 rfl ⟨⟨hI, rfl, fr0, frj0⟩, _, rfl⟩
      · refine WP_iload dX10_two_30 rfl ?_
        refine WQ_iconst (0) (0) dX10_two_32 rfl rfl (fun v4244 hv4244 => ?_)
        refine WQ_bipush (100) (100) dX10_two_33 rfl rfl (fun v4245 hv4245 => ?_)
        refine WP_callS3 dX10_two_35 ⟨⟨⟨by decide, by decide⟩, zX10_within⟩, lX10_206, tX10_within⟩ (sx_within hy hr hI q v4244 v4245   ) (Nat.le_of_ble_eq_true rfl) ?_
        intro r Ia Ja Ra hq
        obtain ⟨⟨ea, eb, ec⟩, v4246, rfl, av4246, bv4246, cv4246⟩ := hq
        show WP _ _ _ _ (.int _ :: _) _ _ _ _
        rw [ea, eb, ec]
        clear ea eb ec Ia Ja Ra
        refine WQ_if_ne 44 dX10_two_38 rfl (fun c4246 => ?_) (fun c4246 => ?_)
        · refine WP_iload dX10_two_44 rfl ?_
          refine WQ_iconst (0) (0) dX10_two_46 rfl rfl (fun v4248 hv4248 => ?_)
          refine WQ_bipush (20) (20) dX10_two_47 rfl rfl (fun v4249 hv4249 => ?_)
          refine WP_callS3 dX10_two_49 ⟨⟨⟨by decide, by decide⟩, zX10_within⟩, lX10_206, tX10_within⟩ (sx_within hy hr hI nn v4248 v4249   ) (Nat.le_of_ble_eq_true rfl) ?_
          intro r Ia Ja Ra hq
          obtain ⟨⟨ea, eb, ec⟩, v4250, rfl, av4250, bv4250, cv4250⟩ := hq
          show WP _ _ _ _ (.int _ :: _) _ _ _ _
          rw [ea, eb, ec]
          clear ea eb ec Ia Ja Ra
          refine WQ_if_eq 76 dX10_two_52 rfl (fun c4250 => ?_) (fun c4250 => ?_)
          · refine WQ_bipush (-2) (-2) dX10_two_76 rfl rfl (fun v4252 hv4252 => ?_)
            exact WP_iret dX10_two_78 rfl ⟨⟨hI, rfl, fr0, frj0⟩, _, rfl⟩
          · refine WP_iload dX10_two_55 rfl ?_
            refine WQ_iconst (1) (1) dX10_two_57 rfl rfl (fun v4253 hv4253 => ?_)
            refine WQ_bipush (20) (20) dX10_two_58 rfl rfl (fun v4254 hv4254 => ?_)
            refine WP_callS3 dX10_two_60 ⟨⟨⟨by decide, by decide⟩, zX10_within⟩, lX10_206, tX10_within⟩ (sx_within hy hr hI r v4253 v4254   ) (Nat.le_of_ble_eq_true rfl) ?_
            intro r Ia Ja Ra hq
            obtain ⟨⟨ea, eb, ec⟩, v4255, rfl, av4255, bv4255, cv4255⟩ := hq
            show WP _ _ _ _ (.int _ :: _) _ _ _ _
            rw [ea, eb, ec]
            clear ea eb ec Ia Ja Ra
            refine WQ_if_eq 76 dX10_two_63 rfl (fun c4255 => ?_) (fun c4255 => ?_)
            · refine WQ_bipush (-2) (-2) dX10_two_76 rfl rfl (fun v4257 hv4257 => ?_)
              exact WP_iret dX10_two_78 rfl ⟨⟨hI, rfl, fr0, frj0⟩, _, rfl⟩
            · refine WP_iload dX10_two_66 rfl ?_
              refine WQ_iconst (0) (0) dX10_two_68 rfl rfl (fun v4258 hv4258 => ?_)
              refine WQ_iconst (1) (1) dX10_two_69 rfl rfl (fun v4259 hv4259 => ?_)
              refine WP_callS3 dX10_two_70 ⟨⟨⟨by decide, by decide⟩, zX10_within⟩, lX10_206, tX10_within⟩ (sx_within hy hr hI wh v4258 v4259   ) (Nat.le_of_ble_eq_true rfl) ?_
              intro r Ia Ja Ra hq
              obtain ⟨⟨ea, eb, ec⟩, v4260, rfl, av4260, bv4260, cv4260⟩ := hq
              show WP _ _ _ _ (.int _ :: _) _ _ _ _
              rw [ea, eb, ec]
              clear ea eb ec Ia Ja Ra
              refine WQ_if_ne 79 dX10_two_73 rfl (fun c4260 => ?_) (fun c4260 => ?_)
              · refine WP_iload dX10_two_79 rfl ?_
                refine WQ_if_eq 90 dX10_two_81 rfl (fun c4261 => ?_) (fun c4261 => ?_)
                · refine WP_iload dX10_two_90 rfl ?_
                  have jn100_4265 : ∀ (v4265 : Int32), -1 ≤ v4265.toInt → v4265.toInt ≤ 0 → WP g mX10_two 100 [(0, .ref (ad g 0)), (1, .int a), (2, .int b), (3, .int p), (4, .int q), (5, .int nn), (6, .int r), (7, .int wh)] [.int v4265] I J R (fun r I' J' R' => (XI g n L I' ∧ R' = R ∧ fz 74 g [69, 70] I I' ∧ fz 74 g [] J J') ∧ ∃ v : Int32, r = some (.int v)) := by
                    intro v4265 av4265 bv4265
                    exact WP_iret dX10_two_100 rfl ⟨⟨hI, rfl, fr0, frj0⟩, _, rfl⟩
                  refine WQ_if_ne 99 dX10_two_92 rfl (fun c4266 => ?_) (fun c4266 => ?_)
                  · refine WQ_iconst (-1) (-1) dX10_two_99 rfl rfl (fun v4268 hv4268 => ?_)
                    exact WP_sub (fc rfl (fc rfl (fc rfl (fc rfl (fc rfl (fc rfl (fc rfl (fc rfl fn)))))))) (jn100_4265 v4268 (by omega) (by omega))
                  · refine WQ_iconst (0) (0) dX10_two_95 rfl rfl (fun v4269 hv4269 => ?_)
                    refine WP_goto 100 dX10_two_96 rfl ?_
                    exact WP_sub (fc rfl (fc rfl (fc rfl (fc rfl (fc rfl (fc rfl (fc rfl (fc rfl fn)))))))) (jn100_4265 v4269 (by omega) (by omega))
                · refine WP_iload_n dX10_two_84 rfl ?_
                  refine WP_iload_n dX10_two_85 rfl ?_
                  refine WQ_iadd dX10_two_86 (by omega) (by omega) (fun v4270 hv4270 => ?_)
                  refine WQ_if_ne 101 dX10_two_87 rfl (fun c4270 => ?_) (fun c4270 => ?_)
                  · refine WP_aload_n dX10_two_101 rfl ?_
                    refine WP_getr dX10_two_102 fX10_76 rfl (lyx_is hy 0 10 rfl) (rfx hr 0 8 69 (by decide)) ?_
                    refine WP_iload_n dX10_two_105 rfl ?_
                    refine WP_iload dX10_two_106 rfl ?_
                    refine WP_callV2 (k := 8) dX10_two_108 ⟨⟨⟨by decide, by decide⟩, zX8_takenAt⟩, lX10_270, by decide, rfl, vX8_takenAt.1, vX8_takenAt.2⟩ (lyx_is hy 69 8 rfl) (sx_takenAt hy hr hI p q (by omega) (by omega) (by omega) (by omega)) (Nat.le_of_ble_eq_true rfl) ?_
                    intro r I4272 J4273 Ra hq
                    obtain ⟨⟨hI4272, ec, fiI4272, fjI4272⟩, rfl⟩ := hq
                    rw [ec]
                    clear ec Ra
                    have fr4274 : fz 74 g [69, 70] I I4272 := fz_tr fr0 (fz_mono fiI4272 (by decide))
                    have fr4275 : fz 74 g [] J J4273 := fz_tr frj0 (fz_mono fjI4272 (by decide))
                    have e4276 : I4272 (ad g 1) 1 = L := hI4272.2
                    have b4277 := BT_get hI4272.1 1 1 2 (0) (0) (900) (by decide) 1 (by decide) (by decide)
                    rw [e4276] at b4277
                    refine WP_aload_n dX10_two_111 rfl ?_
                    refine WP_getr dX10_two_112 fX10_76 rfl (lyx_is hy 0 10 rfl) (rfx hr 0 8 69 (by decide)) ?_
                    refine WP_iload_n dX10_two_115 rfl ?_
                    refine WP_iload_n dX10_two_116 rfl ?_
                    refine WP_iload dX10_two_117 rfl ?_
                    refine WP_iload dX10_two_119 rfl ?_
                    refine WP_callV4 (k := 8) dX10_two_121 ⟨⟨⟨by decide, by decide⟩, zX8_lookBack⟩, lX10_274, by decide, rfl, vX8_lookBack.1, vX8_lookBack.2⟩ (lyx_is hy 69 8 rfl) (sx_lookBack hy hr hI4272 a b nn r (by omega) (by omega) (by omega) (by omega) (by omega) (by omega) (by omega) (by omega)) (Nat.le_of_ble_eq_true rfl) ?_
                    intro r I4278 J4279 Ra hq
                    obtain ⟨⟨hI4278, ec, fiI4278, fjI4278⟩, rfl⟩ := hq
                    rw [ec]
                    clear ec Ra
                    have fr4280 : fz 74 g [69, 70] I I4278 := fz_tr fr4274 (fz_mono fiI4278 (by decide))
                    have fr4281 : fz 74 g [] J J4279 := fz_tr fr4275 (fz_mono fjI4278 (by decide))
                    have e4282 : I4278 (ad g 1) 1 = L := hI4278.2
                    have b4283 := BT_get hI4278.1 1 1 2 (0) (0) (900) (by decide) 1 (by decide) (by decide)
                    rw [e4282] at b4283
                    refine WP_aload_n dX10_two_124 rfl ?_
                    refine WP_getr dX10_two_125 fX10_76 rfl (lyx_is hy 0 10 rfl) (rfx hr 0 8 69 (by decide)) ?_
                    refine WP_iload_n dX10_two_128 rfl ?_
                    refine WP_iload_n dX10_two_129 rfl ?_
                    refine WP_callV2 (k := 8) dX10_two_130 ⟨⟨⟨by decide, by decide⟩, zX8_offeringNote⟩, lX10_278, by decide, rfl, vX8_offeringNote.1, vX8_offeringNote.2⟩ (lyx_is hy 69 8 rfl) (sx_offeringNote hy hr hI4278 a b (by omega) (by omega) (by omega) (by omega)) (Nat.le_of_ble_eq_true rfl) ?_
                    intro r Ia Ja Ra hq
                    obtain ⟨⟨ea, eb, ec⟩, v4284, rfl⟩ := hq
                    show WP _ _ _ _ (.int _ :: _) _ _ _ _
                    rw [ea, eb, ec]
                    clear ea eb ec Ia Ja Ra
                    refine WP_istore (ls' := [(0, _), (1, _), (2, _), (3, _), (4, _), (5, _), (6, _), (7, _), (8, _)]) dX10_two_133 (by decide) rfl ?_
                    refine WP_aload_n dX10_two_135 rfl ?_
                    refine WP_getr dX10_two_136 fX10_76 rfl (lyx_is hy 0 10 rfl) (rfx hr 0 8 69 (by decide)) ?_
                    refine WP_iload_n dX10_two_139 rfl ?_
                    refine WP_iload_n dX10_two_140 rfl ?_
                    refine WP_callV2 (k := 8) dX10_two_141 ⟨⟨⟨by decide, by decide⟩, zX8_offeringOther⟩, lX10_281, by decide, rfl, vX8_offeringOther.1, vX8_offeringOther.2⟩ (lyx_is hy 69 8 rfl) (sx_offeringOther hy hr hI4278 a b (by omega) (by omega) (by omega) (by omega)) (Nat.le_of_ble_eq_true rfl) ?_
                    intro r Ia Ja Ra hq
                    obtain ⟨⟨ea, eb, ec⟩, v4285, rfl⟩ := hq
                    show WP _ _ _ _ (.int _ :: _) _ _ _ _
                    rw [ea, eb, ec]
                    clear ea eb ec Ia Ja Ra
                    refine WP_istore (ls' := [(0, _), (1, _), (2, _), (3, _), (4, _), (5, _), (6, _), (7, _), (8, _), (9, _)]) dX10_two_144 (by decide) rfl ?_
                    refine WP_iload dX10_two_146 rfl ?_
                    refine WQ_if_ne 159 dX10_two_148 rfl (fun c4285 => ?_) (fun c4285 => ?_)
                    · refine WP_iload dX10_two_159 rfl ?_
                      refine WP_iload dX10_two_161 rfl ?_
                      have jn171_4289 : ∀ (v4289 : Int32), 0 ≤ v4289.toInt → v4289.toInt ≤ 1 → WP g mX10_two 171 [(0, .ref (ad g 0)), (1, .int a), (2, .int b), (3, .int p), (4, .int q), (5, .int nn), (6, .int r), (7, .int wh), (8, .int v4284), (9, .int v4285)] [.int v4289] I4278 J4279 R (fun r I' J' R' => (XI g n L I' ∧ R' = R ∧ fz 74 g [69, 70] I I' ∧ fz 74 g [] J J') ∧ ∃ v : Int32, r = some (.int v)) := by
                        intro v4289 av4289 bv4289
                        exact WP_iret dX10_two_171 rfl ⟨⟨hI4278, rfl, fr4280, fr4281⟩, _, rfl⟩
                      refine WQ_icmp_lt 170 dX10_two_163 rfl (fun c4290 => ?_) (fun c4290 => ?_)
                      · refine WQ_iconst (1) (1) dX10_two_170 rfl rfl (fun v4292 hv4292 => ?_)
                        exact WP_sub (fc rfl (fc rfl (fc rfl (fc rfl (fc rfl (fc rfl (fc rfl (fc rfl (fc rfl (fc rfl fn)))))))))) (jn171_4289 v4292 (by omega) (by omega))
                      · refine WQ_iconst (0) (0) dX10_two_166 rfl rfl (fun v4293 hv4293 => ?_)
                        refine WP_goto 171 dX10_two_167 rfl ?_
                        exact WP_sub (fc rfl (fc rfl (fc rfl (fc rfl (fc rfl (fc rfl (fc rfl (fc rfl (fc rfl (fc rfl fn)))))))))) (jn171_4289 v4293 (by omega) (by omega))
                    · refine WP_iload dX10_two_151 rfl ?_
                      refine WP_iload dX10_two_153 rfl ?_
                      refine WQ_max dX10_two_155 lX10_284 ⟨by decide, Nat.le_of_ble_eq_true rfl⟩ (fun v4294 av4294 bv4294 cv4294 => ?_)
                      exact WP_iret dX10_two_158 rfl ⟨⟨hI4278, rfl, fr4280, fr4281⟩, _, rfl⟩
                  · refine WP_iload dX10_two_90 rfl ?_
                    have jn100_4297 : ∀ (v4297 : Int32), -1 ≤ v4297.toInt → v4297.toInt ≤ 0 → WP g mX10_two 100 [(0, .ref (ad g 0)), (1, .int a), (2, .int b), (3, .int p), (4, .int q), (5, .int nn), (6, .int r), (7, .int wh)] [.int v4297] I J R (fun r I' J' R' => (XI g n L I' ∧ R' = R ∧ fz 74 g [69, 70] I I' ∧ fz 74 g [] J J') ∧ ∃ v : Int32, r = some (.int v)) := by
                      intro v4297 av4297 bv4297
                      exact WP_iret dX10_two_100 rfl ⟨⟨hI, rfl, fr0, frj0⟩, _, rfl⟩
                    refine WQ_if_ne 99 dX10_two_92 rfl (fun c4298 => ?_) (fun c4298 => ?_)
                    · refine WQ_iconst (-1) (-1) dX10_two_99 rfl rfl (fun v4300 hv4300 => ?_)
                      exact WP_sub (fc rfl (fc rfl (fc rfl (fc rfl (fc rfl (fc rfl (fc rfl (fc rfl fn)))))))) (jn100_4297 v4300 (by omega) (by omega))
                    · refine WQ_iconst (0) (0) dX10_two_95 rfl rfl (fun v4301 hv4301 => ?_)
                      refine WP_goto 100 dX10_two_96 rfl ?_
                      exact WP_sub (fc rfl (fc rfl (fc rfl (fc rfl (fc rfl (fc rfl (fc rfl (fc rfl fn)))))))) (jn100_4297 v4301 (by omega) (by omega))
              · refine WQ_bipush (-2) (-2) dX10_two_76 rfl rfl (fun v4302 hv4302 => ?_)
                exact WP_iret dX10_two_78 rfl ⟨⟨hI, rfl, fr0, frj0⟩, _, rfl⟩
        · refine WQ_bipush (-2) (-2) dX10_two_41 rfl rfl (fun v4303 hv4303 => ?_)
          exact WP_iret dX10_two_43 rfl ⟨⟨hI, rfl, fr0, frj0⟩, _, rfl⟩
