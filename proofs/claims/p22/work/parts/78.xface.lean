set_option maxHeartbeats 4000000 in
set_option maxRecDepth 100000 in
theorem sx_feed {g : GG} {n : Int} {L : Int32} (hy : LyX g)  {I : pI} {J : pJ} {R : pR} (hr : RfX g R) (hI : XI g n L I) (a : Int32) (b : Int32) (c : Int32) (e : Int32) (f : Int32)  : SP g mX10_feed [.ref (ad g 0), .int a, .int b, .int c, .int e, .int f] I J R (fun r I' J' R' => ((∃ L2 : Int32, XI g n L2 I' ∧ (880 < L.toInt ∧ L2.toInt = L.toInt ∨ L.toInt ≤ 880 ∧ L2.toInt = L.toInt + 20)) ∧ R' = R ∧ fz 74 g [1, 2] I I' ∧ fz 74 g [] J J') ∧ ∃ v : Int32, r = some (.int v) ∧ (880 < L.toInt ∧ v.toInt = -3 ∨ L.toInt ≤ 880 ∧ v.toInt = L.toInt + 20)) := by
  refine SP_of ⟨by decide, rfl⟩ (Nat.le_of_ble_eq_true rfl) ?_
  have e2899 : I (ad g 1) 1 = L := hI.2
  have b2900 := BT_get hI.1 1 1 2 (0) (0) (900) (by decide) 1 (by decide) (by decide)
  rw [e2899] at b2900
  have fr0 : fz 74 g [1, 2] I I := fz_rf
  have frj0 : fz 74 g [] J J := fz_rf
  refine WP_aload_n dX10_feed_0 rfl ?_
  refine WP_getr dX10_feed_1 fX10_12 rfl (lyx_is hy 0 10 rfl) (rfx hr 0 0 1 (by decide)) ?_
  refine WQ_getim dX10_feed_4 fX10_90 rfl (lyx_is hy 1 5 rfl) e2899 ?_
  refine WQ_bipush (20) (20) dX10_feed_7 rfl rfl (fun v2901 hv2901 => ?_)
  refine WQ_iadd dX10_feed_9 (by omega) (by omega) (fun v2902 hv2902 => ?_)
  refine WQ_sipush (900) (900) dX10_feed_10 rfl rfl (fun v2903 hv2903 => ?_)
  refine WQ_icmp_le 19 dX10_feed_13 rfl (fun c2903 => ?_) (fun c2903 => ?_)
  · refine WP_aload_n dX10_feed_19 rfl ?_
    refine WP_getr dX10_feed_20 fX10_12 rfl (lyx_is hy 0 10 rfl) (rfx hr 0 0 1 (by decide)) ?_
    refine WP_iload_n dX10_feed_23 rfl ?_
    refine WP_callV1 (k := 5) dX10_feed_24 ⟨⟨⟨by decide, by decide⟩, zX5_put⟩, lX10_94, by decide, rfl, vX5_put.1, vX5_put.2⟩ (lyx_is hy 1 5 rfl) (sx_put hy hr hI a  (by omega)) (Nat.le_of_ble_eq_true rfl) ?_
    intro r I2905 J2906 Ra hq
    obtain ⟨⟨⟨L2907, hI2905, qL2907⟩, ec, fiI2905, fjI2905⟩, rfl⟩ := hq
    rw [ec]
    clear ec Ra
    have fr2908 : fz 74 g [1, 2] I I2905 := fz_tr fr0 (fz_mono fiI2905 (by decide))
    have fr2909 : fz 74 g [] J J2906 := fz_tr frj0 (fz_mono fjI2905 (by decide))
    have e2910 : I2905 (ad g 1) 1 = L2907 := hI2905.2
    have b2911 := BT_get hI2905.1 1 1 2 (0) (0) (900) (by decide) 1 (by decide) (by decide)
    rw [e2910] at b2911
    refine WP_aload_n dX10_feed_27 rfl ?_
    refine WP_getr dX10_feed_28 fX10_12 rfl (lyx_is hy 0 10 rfl) (rfx hr 0 0 1 (by decide)) ?_
    refine WP_iload_n dX10_feed_31 rfl ?_
    refine WP_callV1 (k := 5) dX10_feed_32 ⟨⟨⟨by decide, by decide⟩, zX5_put⟩, lX10_94, by decide, rfl, vX5_put.1, vX5_put.2⟩ (lyx_is hy 1 5 rfl) (sx_put hy hr hI2905 b  (by omega)) (Nat.le_of_ble_eq_true rfl) ?_
    intro r I2912 J2913 Ra hq
    obtain ⟨⟨⟨L2914, hI2912, qL2914⟩, ec, fiI2912, fjI2912⟩, rfl⟩ := hq
    rw [ec]
    clear ec Ra
    have fr2915 : fz 74 g [1, 2] I I2912 := fz_tr fr2908 (fz_mono fiI2912 (by decide))
    have fr2916 : fz 74 g [] J J2913 := fz_tr fr2909 (fz_mono fjI2912 (by decide))
    have e2917 : I2912 (ad g 1) 1 = L2914 := hI2912.2
    have b2918 := BT_get hI2912.1 1 1 2 (0) (0) (900) (by decide) 1 (by decide) (by decide)
    rw [e2917] at b2918
    refine WP_aload_n dX10_feed_35 rfl ?_
    refine WP_getr dX10_feed_36 fX10_12 rfl (lyx_is hy 0 10 rfl) (rfx hr 0 0 1 (by decide)) ?_
    refine WP_iload_n dX10_feed_39 rfl ?_
    refine WP_callV1 (k := 5) dX10_feed_40 ⟨⟨⟨by decide, by decide⟩, zX5_put⟩, lX10_94, by decide, rfl, vX5_put.1, vX5_put.2⟩ (lyx_is hy 1 5 rfl) (sx_put hy hr hI2912 c  (by omega)) (Nat.le_of_ble_eq_true rfl) ?_
    intro r I2919 J2920 Ra hq
    obtain ⟨⟨⟨L2921, hI2919, qL2921⟩, ec, fiI2919, fjI2919⟩, rfl⟩ := hq
    rw [ec]
    clear ec Ra
    have fr2922 : fz 74 g [1, 2] I I2919 := fz_tr fr2915 (fz_mono fiI2919 (by decide))
    have fr2923 : fz 74 g [] J J2920 := fz_tr fr2916 (fz_mono fjI2919 (by decide))
    have e2924 : I2919 (ad g 1) 1 = L2921 := hI2919.2
    have b2925 := BT_get hI2919.1 1 1 2 (0) (0) (900) (by decide) 1 (by decide) (by decide)
    rw [e2924] at b2925
    refine WP_aload_n dX10_feed_43 rfl ?_
    refine WP_getr dX10_feed_44 fX10_12 rfl (lyx_is hy 0 10 rfl) (rfx hr 0 0 1 (by decide)) ?_
    refine WP_iload dX10_feed_47 rfl ?_
    refine WP_callV1 (k := 5) dX10_feed_49 ⟨⟨⟨by decide, by decide⟩, zX5_put⟩, lX10_94, by decide, rfl, vX5_put.1, vX5_put.2⟩ (lyx_is hy 1 5 rfl) (sx_put hy hr hI2919 e  (by omega)) (Nat.le_of_ble_eq_true rfl) ?_
    intro r I2926 J2927 Ra hq
    obtain ⟨⟨⟨L2928, hI2926, qL2928⟩, ec, fiI2926, fjI2926⟩, rfl⟩ := hq
    rw [ec]
    clear ec Ra
    have fr2929 : fz 74 g [1, 2] I I2926 := fz_tr fr2922 (fz_mono fiI2926 (by decide))
    have fr2930 : fz 74 g [] J J2927 := fz_tr fr2923 (fz_mono fjI2926 (by decide))
    have e2931 : I2926 (ad g 1) 1 = L2928 := hI2926.2
    have b2932 := BT_get hI2926.1 1 1 2 (0) (0) (900) (by decide) 1 (by decide) (by decide)
    rw [e2931] at b2932
    refine WP_aload_n dX10_feed_52 rfl ?_
    refine WP_getr dX10_feed_53 fX10_12 rfl (lyx_is hy 0 10 rfl) (rfx hr 0 0 1 (by decide)) ?_
    refine WP_iload dX10_feed_56 rfl ?_
    refine WP_callV1 (k := 5) dX10_feed_58 ⟨⟨⟨by decide, by decide⟩, zX5_put⟩, lX10_94, by decide, rfl, vX5_put.1, vX5_put.2⟩ (lyx_is hy 1 5 rfl) (sx_put hy hr hI2926 f  (by omega)) (Nat.le_of_ble_eq_true rfl) ?_
    intro r I2933 J2934 Ra hq
    obtain ⟨⟨⟨L2935, hI2933, qL2935⟩, ec, fiI2933, fjI2933⟩, rfl⟩ := hq
    rw [ec]
    clear ec Ra
    have fr2936 : fz 74 g [1, 2] I I2933 := fz_tr fr2929 (fz_mono fiI2933 (by decide))
    have fr2937 : fz 74 g [] J J2934 := fz_tr fr2930 (fz_mono fjI2933 (by decide))
    have e2938 : I2933 (ad g 1) 1 = L2935 := hI2933.2
    have b2939 := BT_get hI2933.1 1 1 2 (0) (0) (900) (by decide) 1 (by decide) (by decide)
    rw [e2938] at b2939
    refine WP_aload_n dX10_feed_61 rfl ?_
    refine WP_getr dX10_feed_62 fX10_12 rfl (lyx_is hy 0 10 rfl) (rfx hr 0 0 1 (by decide)) ?_
    refine WQ_getim dX10_feed_65 fX10_90 rfl (lyx_is hy 1 5 rfl) e2938 ?_
    exact WP_iret dX10_feed_68 rfl ⟨⟨⟨_, hI2933, by omega⟩, rfl, fr2936, fr2937⟩, _, rfl, by omega⟩
  · refine WQ_bipush (-3) (-3) dX10_feed_16 rfl rfl (fun v2940 hv2940 => ?_)
    exact WP_iret dX10_feed_18 rfl ⟨⟨⟨_, hI, by omega⟩, rfl, fr0, frj0⟩, _, rfl, by omega⟩
set_option maxHeartbeats 4000000 in
set_option maxRecDepth 100000 in
theorem sx_end {g : GG} {n : Int} {L : Int32} (hy : LyX g)  {I : pI} {J : pJ} {R : pR} (hr : RfX g R) (hI : XI g n L I) (a : Int32)  : SP g mX10_end [.ref (ad g 0), .int a] I J R (fun r I' J' R' => ((∃ L2 : Int32, XI g n L2 I' ∧ ((0 ≤ a.toInt ∧ a.toInt ≤ L.toInt) ∧ L2.toInt = a.toInt ∨ ¬ (0 ≤ a.toInt ∧ a.toInt ≤ L.toInt) ∧ L2.toInt = L.toInt)) ∧ R' = R ∧ fz 74 g [1] I I' ∧ fz 74 g [] J J') ∧ ∃ v : Int32, r = some (.int v) ∧ ((0 ≤ a.toInt ∧ a.toInt ≤ L.toInt) ∧ v.toInt = a.toInt ∨ ¬ (0 ≤ a.toInt ∧ a.toInt ≤ L.toInt) ∧ v.toInt = -1)) := by
  refine SP_of ⟨by decide, rfl⟩ (Nat.le_of_ble_eq_true rfl) ?_
  have e2941 : I (ad g 1) 1 = L := hI.2
  have b2942 := BT_get hI.1 1 1 2 (0) (0) (900) (by decide) 1 (by decide) (by decide)
  rw [e2941] at b2942
  have fr0 : fz 74 g [1] I I := fz_rf
  have frj0 : fz 74 g [] J J := fz_rf
  refine WP_iload_n dX10_end_0 rfl ?_
  refine WQ_if_lt 15 dX10_end_1 rfl (fun c2942 => ?_) (fun c2942 => ?_)
  · refine WQ_iconst (-1) (-1) dX10_end_15 rfl rfl (fun v2944 hv2944 => ?_)
    exact WP_iret dX10_end_16 rfl ⟨⟨⟨_, hI, by omega⟩, rfl, fr0, frj0⟩, _, rfl, by omega⟩
  · refine WP_iload_n dX10_end_4 rfl ?_
    refine WP_aload_n dX10_end_5 rfl ?_
    refine WP_getr dX10_end_6 fX10_12 rfl (lyx_is hy 0 10 rfl) (rfx hr 0 0 1 (by decide)) ?_
    refine WQ_getim dX10_end_9 fX10_90 rfl (lyx_is hy 1 5 rfl) e2941 ?_
    refine WQ_icmp_le 17 dX10_end_12 rfl (fun c2944 => ?_) (fun c2944 => ?_)
    · refine WP_aload_n dX10_end_17 rfl ?_
      refine WP_getr dX10_end_18 fX10_12 rfl (lyx_is hy 0 10 rfl) (rfx hr 0 0 1 (by decide)) ?_
      refine WP_iload_n dX10_end_21 rfl ?_
      refine WQ_puti dX10_end_22 fX10_90 rfl rfl (lyx_is hy 1 5 rfl) (fun I2946 eI2946 => ?_)
      have hI2946 : XI g n a I2946 := by rw [eI2946]; exact (xi_len hy hI (by omega) (by omega))
      have e2947 : I2946 (ad g 1) 1 = a := by rw [eI2946, pp_self]
      have fr2948 : fz 74 g [1] I I2946 := by rw [eI2946]; exact fzx_pp hy fr0 (by decide) (by decide)
      clear eI2946
      refine WP_iload_n dX10_end_25 rfl ?_
      exact WP_iret dX10_end_26 rfl ⟨⟨⟨_, hI2946, by omega⟩, rfl, fr2948, frj0⟩, _, rfl, by omega⟩
    · refine WQ_iconst (-1) (-1) dX10_end_15 rfl rfl (fun v2949 hv2949 => ?_)
      exact WP_iret dX10_end_16 rfl ⟨⟨⟨_, hI, by omega⟩, rfl, fr0, frj0⟩, _, rfl, by omega⟩
set_option maxHeartbeats 4000000 in
set_option maxRecDepth 100000 in
theorem sx_fault {g : GG} {n : Int} {L : Int32} (hy : LyX g)  {I : pI} {J : pJ} {R : pR} (hr : RfX g R) (hI : XI g n L I) (a : Int32)  : SP g mX10_fault [.ref (ad g 0), .int a] I J R (fun r I' J' R' => (I' = I ∧ J' = J ∧ R' = R) ∧ ∃ v : Int32, r = some (.int v)) := by
  refine SP_of ⟨by decide, rfl⟩ (Nat.le_of_ble_eq_true rfl) ?_
  have e2950 : I (ad g 1) 1 = L := hI.2
  have b2951 := BT_get hI.1 1 1 2 (0) (0) (900) (by decide) 1 (by decide) (by decide)
  rw [e2950] at b2951
  refine WP_iload_n dX10_fault_0 rfl ?_
  have jn30_2956 : ∀ (v2956 : Int32), WP g mX10_fault 30 [(0, .ref (ad g 0)), (1, .int a)] [.int v2956] I J R (fun r I' J' R' => (I' = I ∧ J' = J ∧ R' = R) ∧ ∃ v : Int32, r = some (.int v)) := by
    intro v2956 
    exact WP_iret dX10_fault_30 rfl ⟨⟨rfl, rfl, rfl⟩, _, rfl⟩
  refine WX_if_ne 14 dX10_fault_1 rfl ?_ ?_
  · refine WP_iload_n dX10_fault_14 rfl ?_
    refine WQ_iconst (1) (1) dX10_fault_15 rfl rfl (fun v2958 hv2958 => ?_)
    refine WX_icmp_ne 29 dX10_fault_16 rfl ?_ ?_
    · refine WQ_iconst (-1) (-1) dX10_fault_29 rfl rfl (fun v2959 hv2959 => ?_)
      exact WP_sub (fc rfl (fc rfl fn)) (jn30_2956 v2959)
    · refine WP_aload_n dX10_fault_19 rfl ?_
      refine WP_getr dX10_fault_20 fX10_21 rfl (lyx_is hy 0 10 rfl) (rfx hr 0 1 3 (by decide)) ?_
      refine WQ_getiu dX10_fault_23 fX10_111 rfl (lyx_is hy 3 3 rfl) (fun v2960 ev2960 => ?_)
      refine WP_goto 30 dX10_fault_26 rfl ?_
      exact WP_sub (fc rfl (fc rfl fn)) (jn30_2956 v2960)
  · refine WP_aload_n dX10_fault_4 rfl ?_
    refine WP_getr dX10_fault_5 fX10_21 rfl (lyx_is hy 0 10 rfl) (rfx hr 0 1 3 (by decide)) ?_
    refine WQ_getiu dX10_fault_8 fX10_108 rfl (lyx_is hy 3 3 rfl) (fun v2961 ev2961 => ?_)
    refine WP_goto 30 dX10_fault_11 rfl ?_
    exact WP_sub (fc rfl (fc rfl fn)) (jn30_2956 v2961)
set_option maxHeartbeats 4000000 in
set_option maxRecDepth 100000 in
theorem sx_restTurns {g : GG} {n : Int} {L : Int32} (hy : LyX g)  {I : pI} {J : pJ} {R : pR} (hr : RfX g R) (hI : XI g n L I)   : SP g mX10_restTurns [.ref (ad g 0)] I J R (fun r I' J' R' => (I' = I ∧ J' = J ∧ R' = R) ∧ ∃ v : Int32, r = some (.int v)) := by
  refine SP_of ⟨by decide, rfl⟩ (Nat.le_of_ble_eq_true rfl) ?_
  have e2962 : I (ad g 1) 1 = L := hI.2
  have b2963 := BT_get hI.1 1 1 2 (0) (0) (900) (by decide) 1 (by decide) (by decide)
  rw [e2962] at b2963
  refine WP_aload_n dX10_restTurns_0 rfl ?_
  refine WQ_getiu dX10_restTurns_1 fX10_263 rfl (lyx_is hy 0 10 rfl) (fun v2964 ev2964 => ?_)
  exact WP_iret dX10_restTurns_4 rfl ⟨⟨rfl, rfl, rfl⟩, _, rfl⟩
set_option maxHeartbeats 4000000 in
set_option maxRecDepth 100000 in
theorem sx_all {g : GG} {n : Int} {L : Int32} (hy : LyX g)  {I : pI} {J : pJ} {R : pR} (hr : RfX g R) (hI : XI g n L I) (a : Int32)  : SP g mX10_all [.ref (ad g 0), .int a] I J R (fun r I' J' R' => (I' = I ∧ J' = J ∧ R' = R) ∧ ∃ v : Int32, r = some (.int v)) := by
  refine SP_of ⟨by decide, rfl⟩ (Nat.le_of_ble_eq_true rfl) ?_
  have e2965 : I (ad g 1) 1 = L := hI.2
  have b2966 := BT_get hI.1 1 1 2 (0) (0) (900) (by decide) 1 (by decide) (by decide)
  rw [e2965] at b2966
  refine WP_iload_n dX10_all_0 rfl ?_
  refine WP_tab 64 dX10_all_1 rfl rfl (fun c2966 => ?_) (fun j off c2966 hj => ?_) (by decide)
  · refine WQ_iconst (-1) (-1) dX10_all_64 rfl rfl (fun v2968 hv2968 => ?_)
    exact WP_iret dX10_all_65 rfl ⟨⟨rfl, rfl, rfl⟩, _, rfl⟩
  · have hlt : j < 4 := by have := (Array.getElem?_eq_some_iff.mp hj).1; simpa using this
    have hcs : (j = 0 ∧ off = 31) ∨ (j = 1 ∧ off = 39) ∨ (j = 2 ∧ off = 47) ∨ (j = 3 ∧ off = 55) := by
      match j, hlt, hj with
      | 0, _, hj => exact Or.inl ⟨rfl, (Option.some.inj hj).symm⟩
      | 1, _, hj => exact Or.inr (Or.inl ⟨rfl, (Option.some.inj hj).symm⟩)
      | 2, _, hj => exact Or.inr (Or.inr (Or.inl ⟨rfl, (Option.some.inj hj).symm⟩))
      | 3, _, hj => exact Or.inr (Or.inr (Or.inr (⟨rfl, (Option.some.inj hj).symm⟩)))
    clear hj hlt
    rcases hcs with ⟨rfl, rfl⟩ | ⟨rfl, rfl⟩ | ⟨rfl, rfl⟩ | ⟨rfl, rfl⟩
    · show WP _ _ 32 _ _ _ _ _ _
      refine WP_aload_n dX10_all_32 rfl ?_
      refine WP_getr dX10_all_33 fX10_62 rfl (lyx_is hy 0 10 rfl) (rfx hr 0 5 53 (by decide)) ?_
      refine WQ_geti dX10_all_36 fX10_238 rfl (lyx_is hy 53 4 rfl) (BT_get hI.1 53 1 2 (0) (23760) (0) (by decide) 1 (by decide) (by decide)) (fun v2969 ev2969 av2969 bv2969 => ?_)
      exact WP_iret dX10_all_39 rfl ⟨⟨rfl, rfl, rfl⟩, _, rfl⟩
    · show WP _ _ 40 _ _ _ _ _ _
      refine WP_aload_n dX10_all_40 rfl ?_
      refine WP_getr dX10_all_41 fX10_62 rfl (lyx_is hy 0 10 rfl) (rfx hr 0 5 53 (by decide)) ?_
      refine WQ_getiu dX10_all_44 fX10_232 rfl (lyx_is hy 53 4 rfl) (fun v2970 ev2970 => ?_)
      exact WP_iret dX10_all_47 rfl ⟨⟨rfl, rfl, rfl⟩, _, rfl⟩
    · show WP _ _ 48 _ _ _ _ _ _
      refine WP_aload_n dX10_all_48 rfl ?_
      refine WP_getr dX10_all_49 fX10_62 rfl (lyx_is hy 0 10 rfl) (rfx hr 0 5 53 (by decide)) ?_
      refine WP_callV0 (k := 4) dX10_all_52 ⟨⟨⟨by decide, by decide⟩, zX4_round⟩, lX10_239, by decide, rfl, vX4_round.1, vX4_round.2⟩ (lyx_is hy 53 4 rfl) (sx_round hy hr hI  ) (Nat.le_of_ble_eq_true rfl) ?_
      intro r Ia Ja Ra hq
      obtain ⟨⟨ea, eb, ec⟩, v2971, rfl⟩ := hq
      show WP _ _ _ _ (.int _ :: _) _ _ _ _
      rw [ea, eb, ec]
      clear ea eb ec Ia Ja Ra
      exact WP_iret dX10_all_55 rfl ⟨⟨rfl, rfl, rfl⟩, _, rfl⟩
    · show WP _ _ 56 _ _ _ _ _ _
      refine WP_aload_n dX10_all_56 rfl ?_
      refine WP_getr dX10_all_57 fX10_62 rfl (lyx_is hy 0 10 rfl) (rfx hr 0 5 53 (by decide)) ?_
      refine WQ_getiu dX10_all_60 fX10_243 rfl (lyx_is hy 53 4 rfl) (fun v2972 ev2972 => ?_)
      exact WP_iret dX10_all_63 rfl ⟨⟨rfl, rfl, rfl⟩, _, rfl⟩
set_option maxHeartbeats 4000000 in
set_option maxRecDepth 100000 in
theorem sx_lend {g : GG} {n : Int} {L : Int32} (hy : LyX g)  {I : pI} {J : pJ} {R : pR} (hr : RfX g R) (hI : XI g n L I) (c : Int32) (w : Int32) (y : Int32) (wh : Int32)  : SP g mX10_lend [.ref (ad g 0), .int c, .int w, .int y, .int wh] I J R (fun r I' J' R' => (I' = I ∧ J' = J ∧ R' = R) ∧ ∃ v : Int32, r = some (.int v)) := by
  refine SP_of ⟨by decide, rfl⟩ (Nat.le_of_ble_eq_true rfl) ?_
  have e2973 : I (ad g 1) 1 = L := hI.2
  have b2974 := BT_get hI.1 1 1 2 (0) (0) (900) (by decide) 1 (by decide) (by decide)
  rw [e2973] at b2974
  refine WP_iload_n dX10_lend_0 rfl ?_
  refine WQ_iconst (0) (0) dX10_lend_1 rfl rfl (fun v2975 hv2975 => ?_)
  refine WQ_sipush (999) (999) dX10_lend_2 rfl rfl (fun v2976 hv2976 => ?_)
  refine WP_callS3 dX10_lend_5 ⟨⟨⟨by decide, by decide⟩, zX10_within⟩, lX10_206, tX10_within⟩ (sx_within hy hr hI c v2975 v2976   ) (Nat.le_of_ble_eq_true rfl) ?_
  intro r Ia Ja Ra hq
  obtain ⟨⟨ea, eb, ec⟩, v2977, rfl, av2977, bv2977, cv2977⟩ := hq
  show WP _ _ _ _ (.int _ :: _) _ _ _ _
  rw [ea, eb, ec]
  clear ea eb ec Ia Ja Ra
  refine WQ_if_eq 32 dX10_lend_8 rfl (fun c2977 => ?_) (fun c2977 => ?_)
  · refine WQ_bipush (-2) (-2) dX10_lend_32 rfl rfl (fun v2979 hv2979 => ?_)
    exact WP_iret dX10_lend_34 rfl ⟨⟨rfl, rfl, rfl⟩, _, rfl⟩
  · refine WP_iload_n dX10_lend_11 rfl ?_
    refine WQ_iconst (0) (0) dX10_lend_12 rfl rfl (fun v2980 hv2980 => ?_)
    refine WQ_bipush (52) (52) dX10_lend_13 rfl rfl (fun v2981 hv2981 => ?_)
    refine WP_callS3 dX10_lend_15 ⟨⟨⟨by decide, by decide⟩, zX10_within⟩, lX10_206, tX10_within⟩ (sx_within hy hr hI w v2980 v2981   ) (Nat.le_of_ble_eq_true rfl) ?_
    intro r Ia Ja Ra hq
    obtain ⟨⟨ea, eb, ec⟩, v2982, rfl, av2982, bv2982, cv2982⟩ := hq
    show WP _ _ _ _ (.int _ :: _) _ _ _ _
    rw [ea, eb, ec]
    clear ea eb ec Ia Ja Ra
    refine WQ_if_eq 32 dX10_lend_18 rfl (fun c2982 => ?_) (fun c2982 => ?_)
    · refine WQ_bipush (-2) (-2) dX10_lend_32 rfl rfl (fun v2984 hv2984 => ?_)
      exact WP_iret dX10_lend_34 rfl ⟨⟨rfl, rfl, rfl⟩, _, rfl⟩
    · refine WP_iload_n dX10_lend_21 rfl ?_
      refine WQ_iconst (0) (0) dX10_lend_22 rfl rfl (fun v2985 hv2985 => ?_)
      refine WQ_sipush (1000) (1000) dX10_lend_23 rfl rfl (fun v2986 hv2986 => ?_)
      refine WP_callS3 dX10_lend_26 ⟨⟨⟨by decide, by decide⟩, zX10_within⟩, lX10_206, tX10_within⟩ (sx_within hy hr hI y v2985 v2986   ) (Nat.le_of_ble_eq_true rfl) ?_
      intro r Ia Ja Ra hq
      obtain ⟨⟨ea, eb, ec⟩, v2987, rfl, av2987, bv2987, cv2987⟩ := hq
      show WP _ _ _ _ (.int _ :: _) _ _ _ _
      rw [ea, eb, ec]
      clear ea eb ec Ia Ja Ra
      refine WQ_if_ne 35 dX10_lend_29 rfl (fun c2987 => ?_) (fun c2987 => ?_)
      · refine WP_iload dX10_lend_35 rfl ?_
        refine WQ_if_eq 49 dX10_lend_37 rfl (fun c2988 => ?_) (fun c2988 => ?_)
        · refine WP_iload_n dX10_lend_49 rfl ?_
          refine WP_istore (ls' := [(0, _), (1, _), (2, _), (3, _), (4, _), (5, _)]) dX10_lend_50 (by decide) rfl ?_
          refine WQ_iconst (0) (0) dX10_lend_52 rfl rfl (fun v2990 hv2990 => ?_)
          refine WP_istore (ls' := [(0, _), (1, _), (2, _), (3, _), (4, _), (5, _), (6, _)]) dX10_lend_53 (by decide) rfl ?_
          have lp55_2992 : ∀ (mz : Nat) (i2991 : Int32) (i2992 : Int32), 0 ≤ i2991.toInt → i2991.toInt ≤ 999 → 0 ≤ i2992.toInt → i2992.toInt ≤ 52 → (53 - i2992.toInt).toNat < mz → WP g mX10_lend 55 [(0, .ref (ad g 0)), (1, .int c), (2, .int w), (3, .int y), (4, .int wh), (5, .int i2991), (6, .int i2992)] [] I J R (fun r I' J' R' => (I' = I ∧ J' = J ∧ R' = R) ∧ ∃ v : Int32, r = some (.int v)) := by
            intro mz
            induction mz with
            | zero =>
              intro i2991 i2992 ai2991 bi2991 ai2992 bi2992 hmlp55_2992
              exact absurd hmlp55_2992 (Nat.not_lt_zero _)
            | succ mz ihlp55_2992 =>
              intro i2991 i2992 ai2991 bi2991 ai2992 bi2992 hmlp55_2992
              refine WP_iload dX10_lend_55 rfl ?_
              refine WP_iload_n dX10_lend_57 rfl ?_
              refine WQ_icmp_ge 98 dX10_lend_58 rfl (fun c2993 => ?_) (fun c2993 => ?_)
              · refine WP_iload dX10_lend_98 rfl ?_
                exact WP_iret dX10_lend_100 rfl ⟨⟨rfl, rfl, rfl⟩, _, rfl⟩
              · refine WP_iload dX10_lend_61 rfl ?_
                have jn90_3000 : ∀ (v3000 : Int32), 0 ≤ v3000.toInt → v3000.toInt ≤ 999 → WP g mX10_lend 90 [(0, .ref (ad g 0)), (1, .int c), (2, .int w), (3, .int y), (4, .int wh), (5, .int i2991), (6, .int i2992)] [.int v3000] I J R (fun r I' J' R' => (I' = I ∧ J' = J ∧ R' = R) ∧ ∃ v : Int32, r = some (.int v)) := by
                  intro v3000 av3000 bv3000
                  refine WP_istore (ls' := [(0, _), (1, _), (2, _), (3, _), (4, _), (5, _), (6, _)]) dX10_lend_90 (by decide) rfl ?_
                  refine WP_iinc (ls' := [(0, _), (1, _), (2, _), (3, _), (4, _), (5, _), (6, _)]) dX10_lend_92 rfl (by decide) rfl ?_
                  have hv3002 : (i2992 + Int32.ofInt (1)).toInt = i2992.toInt + (1) := ia_n rfl (by omega) (by omega)
                  generalize i2992 + Int32.ofInt (1) = v3002 at hv3002 ⊢
                  refine WP_goto 55 dX10_lend_95 rfl ?_
                  exact WP_sub (fc rfl (fc rfl (fc rfl (fc rfl (fc rfl (fc rfl (fc rfl fn))))))) (ihlp55_2992 v3000 v3002 (by omega) (by omega) (by omega) (by omega) (by omega))
                refine WQ_if_ne 81 dX10_lend_63 rfl (fun c3002 => False.elim (by omega)) (fun c3002 => ?_)
                refine WP_iload dX10_lend_66 rfl ?_
                refine WQ_sipush (1000) (1000) dX10_lend_68 rfl rfl (fun v3004 hv3004 => ?_)
                refine WP_iload_n dX10_lend_71 rfl ?_
                refine WQ_isub dX10_lend_72 (by omega) (by omega) (fun v3005 hv3005 => ?_)
                refine WQ_imulb (999) (1000) dX10_lend_73 ⟨by omega, by omega⟩ ⟨by omega, by omega⟩ (by decide) (fun v3006 pv3006 av3006 bv3006 cv3006 => ?_)
                refine WQ_sipush (1000) (1000) dX10_lend_74 rfl rfl (fun v3007 hv3007 => ?_)
                refine WQ_idivk (1000) dX10_lend_77 hv3007 (by decide) (by omega) (fun v3008 hv3008 => ?_)
                refine WP_goto 90 dX10_lend_78 rfl ?_
                exact WP_sub (fc rfl (fc rfl (fc rfl (fc rfl (fc rfl (fc rfl (fc rfl fn))))))) (jn90_3000 v3008 (by omega) (by omega))
          exact WP_sub (fc rfl (fc rfl (fc rfl (fc rfl (fc rfl (fc rfl (fc rfl fn))))))) (lp55_2992 _ c v2990 (by omega) (by omega) (by omega) (by omega) (Nat.lt_succ_self _))
        · refine WP_iload dX10_lend_40 rfl ?_
          refine WQ_iconst (1) (1) dX10_lend_42 rfl rfl (fun v3009 hv3009 => ?_)
          refine WQ_icmp_eq 49 dX10_lend_43 rfl (fun c3009 => ?_) (fun c3009 => ?_)
          · refine WP_iload_n dX10_lend_49 rfl ?_
            refine WP_istore (ls' := [(0, _), (1, _), (2, _), (3, _), (4, _), (5, _)]) dX10_lend_50 (by decide) rfl ?_
            refine WQ_iconst (0) (0) dX10_lend_52 rfl rfl (fun v3011 hv3011 => ?_)
            refine WP_istore (ls' := [(0, _), (1, _), (2, _), (3, _), (4, _), (5, _), (6, _)]) dX10_lend_53 (by decide) rfl ?_
            have lp55_3013 : ∀ (mz : Nat) (i3012 : Int32) (i3013 : Int32), 0 ≤ i3012.toInt → i3012.toInt ≤ 999 → 0 ≤ i3013.toInt → i3013.toInt ≤ 52 → (53 - i3013.toInt).toNat < mz → WP g mX10_lend 55 [(0, .ref (ad g 0)), (1, .int c), (2, .int w), (3, .int y), (4, .int wh), (5, .int i3012), (6, .int i3013)] [] I J R (fun r I' J' R' => (I' = I ∧ J' = J ∧ R' = R) ∧ ∃ v : Int32, r = some (.int v)) := by
              intro mz
              induction mz with
              | zero =>
                intro i3012 i3013 ai3012 bi3012 ai3013 bi3013 hmlp55_3013
                exact absurd hmlp55_3013 (Nat.not_lt_zero _)
              | succ mz ihlp55_3013 =>
                intro i3012 i3013 ai3012 bi3012 ai3013 bi3013 hmlp55_3013
                refine WP_iload dX10_lend_55 rfl ?_
                refine WP_iload_n dX10_lend_57 rfl ?_
                refine WQ_icmp_ge 98 dX10_lend_58 rfl (fun c3014 => ?_) (fun c3014 => ?_)
                · refine WP_iload dX10_lend_98 rfl ?_
                  exact WP_iret dX10_lend_100 rfl ⟨⟨rfl, rfl, rfl⟩, _, rfl⟩
                · refine WP_iload dX10_lend_61 rfl ?_
                  have jn90_3017 : ∀ (v3017 : Int32), 0 ≤ v3017.toInt → v3017.toInt ≤ 999 → WP g mX10_lend 90 [(0, .ref (ad g 0)), (1, .int c), (2, .int w), (3, .int y), (4, .int wh), (5, .int i3012), (6, .int i3013)] [.int v3017] I J R (fun r I' J' R' => (I' = I ∧ J' = J ∧ R' = R) ∧ ∃ v : Int32, r = some (.int v)) := by
                    intro v3017 av3017 bv3017
                    refine WP_istore (ls' := [(0, _), (1, _), (2, _), (3, _), (4, _), (5, _), (6, _)]) dX10_lend_90 (by decide) rfl ?_
                    refine WP_iinc (ls' := [(0, _), (1, _), (2, _), (3, _), (4, _), (5, _), (6, _)]) dX10_lend_92 rfl (by decide) rfl ?_
                    have hv3019 : (i3013 + Int32.ofInt (1)).toInt = i3013.toInt + (1) := ia_n rfl (by omega) (by omega)
                    generalize i3013 + Int32.ofInt (1) = v3019 at hv3019 ⊢
                    refine WP_goto 55 dX10_lend_95 rfl ?_
                    exact WP_sub (fc rfl (fc rfl (fc rfl (fc rfl (fc rfl (fc rfl (fc rfl fn))))))) (ihlp55_3013 v3017 v3019 (by omega) (by omega) (by omega) (by omega) (by omega))
                  refine WQ_if_ne 81 dX10_lend_63 rfl (fun c3019 => ?_) (fun c3019 => False.elim (by omega))
                  refine WP_aload_n dX10_lend_81 rfl ?_
                  refine WP_getr dX10_lend_82 fX10_33 rfl (lyx_is hy 0 10 rfl) (rfx hr 0 2 5 (by decide)) ?_
                  refine WP_iload dX10_lend_85 rfl ?_
                  refine WP_callV1 (k := 0) dX10_lend_87 ⟨⟨⟨by decide, by decide⟩, zX0_heldForWeek⟩, lX10_289, by decide, rfl, vX0_heldForWeek.1, vX0_heldForWeek.2⟩ (lyx_is hy 5 0 rfl) (sx_heldForWeek hy hr hI i3012 (by omega) (by omega)) (Nat.le_of_ble_eq_true rfl) ?_
                  intro r Ia Ja Ra hq
                  obtain ⟨⟨ea, eb, ec⟩, v3021, rfl, av3021, bv3021⟩ := hq
                  show WP _ _ _ _ (.int _ :: _) _ _ _ _
                  rw [ea, eb, ec]
                  clear ea eb ec Ia Ja Ra
                  exact WP_sub (fc rfl (fc rfl (fc rfl (fc rfl (fc rfl (fc rfl (fc rfl fn))))))) (jn90_3017 v3021 (by omega) (by omega))
            exact WP_sub (fc rfl (fc rfl (fc rfl (fc rfl (fc rfl (fc rfl (fc rfl fn))))))) (lp55_3013 _ c v3011 (by omega) (by omega) (by omega) (by omega) (Nat.lt_succ_self _))
          · refine WQ_bipush (-2) (-2) dX10_lend_46 rfl rfl (fun v3022 hv3022 => ?_)
            exact WP_iret dX10_lend_48 rfl ⟨⟨rfl, rfl, rfl⟩, _, rfl⟩
      · refine WQ_bipush (-2) (-2) dX10_lend_32 rfl rfl (fun v3023 hv3023 => ?_)
        exact WP_iret dX10_lend_34 rfl ⟨⟨rfl, rfl, rfl⟩, _, rfl⟩
set_option maxHeartbeats 4000000 in
set_option maxRecDepth 100000 in
theorem sx_early {g : GG} {n : Int} {L : Int32} (hy : LyX g)  {I : pI} {J : pJ} {R : pR} (hr : RfX g R) (hI : XI g n L I) (c : Int32) (dd : Int32) (da : Int32)  : SP g mX10_early [.ref (ad g 0), .int c, .int dd, .int da] I J R (fun r I' J' R' => (I' = I ∧ J' = J ∧ R' = R) ∧ ∃ v : Int32, r = some (.int v)) := by
  refine SP_of ⟨by decide, rfl⟩ (Nat.le_of_ble_eq_true rfl) ?_
  have e3024 : I (ad g 1) 1 = L := hI.2
  have b3025 := BT_get hI.1 1 1 2 (0) (0) (900) (by decide) 1 (by decide) (by decide)
  rw [e3024] at b3025
  refine WP_iload_n dX10_early_0 rfl ?_
  refine WQ_iconst (0) (0) dX10_early_1 rfl rfl (fun v3026 hv3026 => ?_)
  refine WQ_sipush (999) (999) dX10_early_2 rfl rfl (fun v3027 hv3027 => ?_)
  refine WP_callS3 dX10_early_5 ⟨⟨⟨by decide, by decide⟩, zX10_within⟩, lX10_206, tX10_within⟩ (sx_within hy hr hI c v3026 v3027   ) (Nat.le_of_ble_eq_true rfl) ?_
  intro r Ia Ja Ra hq
  obtain ⟨⟨ea, eb, ec⟩, v3028, rfl, av3028, bv3028, cv3028⟩ := hq
  show WP _ _ _ _ (.int _ :: _) _ _ _ _
  rw [ea, eb, ec]
  clear ea eb ec Ia Ja Ra
  refine WQ_if_eq 28 dX10_early_8 rfl (fun c3028 => ?_) (fun c3028 => ?_)
  · refine WQ_bipush (-2) (-2) dX10_early_28 rfl rfl (fun v3030 hv3030 => ?_)
    exact WP_iret dX10_early_30 rfl ⟨⟨rfl, rfl, rfl⟩, _, rfl⟩
  · refine WP_iload_n dX10_early_11 rfl ?_
    refine WQ_iconst (0) (0) dX10_early_12 rfl rfl (fun v3031 hv3031 => ?_)
    refine WQ_bipush (60) (60) dX10_early_13 rfl rfl (fun v3032 hv3032 => ?_)
    refine WP_callS3 dX10_early_15 ⟨⟨⟨by decide, by decide⟩, zX10_within⟩, lX10_206, tX10_within⟩ (sx_within hy hr hI dd v3031 v3032   ) (Nat.le_of_ble_eq_true rfl) ?_
    intro r Ia Ja Ra hq
    obtain ⟨⟨ea, eb, ec⟩, v3033, rfl, av3033, bv3033, cv3033⟩ := hq
    show WP _ _ _ _ (.int _ :: _) _ _ _ _
    rw [ea, eb, ec]
    clear ea eb ec Ia Ja Ra
    refine WQ_if_eq 28 dX10_early_18 rfl (fun c3033 => ?_) (fun c3033 => ?_)
    · refine WQ_bipush (-2) (-2) dX10_early_28 rfl rfl (fun v3035 hv3035 => ?_)
      exact WP_iret dX10_early_30 rfl ⟨⟨rfl, rfl, rfl⟩, _, rfl⟩
    · refine WP_iload_n dX10_early_21 rfl ?_
      refine WP_callS1 dX10_early_22 ⟨⟨⟨by decide, by decide⟩, zX10_isDay⟩, lX10_156, tX10_isDay⟩ (sx_isDay hy hr hI da ) (Nat.le_of_ble_eq_true rfl) ?_
      intro r Ia Ja Ra hq
      obtain ⟨⟨ea, eb, ec⟩, v3036, rfl, av3036, bv3036, cv3036⟩ := hq
      show WP _ _ _ _ (.int _ :: _) _ _ _ _
      rw [ea, eb, ec]
      clear ea eb ec Ia Ja Ra
      refine WQ_if_ne 31 dX10_early_25 rfl (fun c3036 => ?_) (fun c3036 => ?_)
      · refine WP_iload_n dX10_early_31 rfl ?_
        refine WP_istore (ls' := [(0, _), (1, _), (2, _), (3, _), (4, _)]) dX10_early_32 (by decide) rfl ?_
        refine WP_iload_n dX10_early_34 rfl ?_
        refine WQ_iconst (1) (1) dX10_early_35 rfl rfl (fun v3038 hv3038 => ?_)
        refine WQ_isub dX10_early_36 (by omega) (by omega) (fun v3039 hv3039 => ?_)
        refine WP_istore (ls' := [(0, _), (1, _), (2, _), (3, _), (4, _), (5, _)]) dX10_early_37 (by decide) rfl ?_
        have lp39_3041 : ∀ (mz : Nat) (i3040 : Int32) (i3041 : Int32), 0 ≤ i3040.toInt → i3040.toInt ≤ 999 → -1 ≤ i3041.toInt → i3041.toInt ≤ 59 → (i3041.toInt + 1).toNat < mz → WP g mX10_early 39 [(0, .ref (ad g 0)), (1, .int c), (2, .int dd), (3, .int da), (4, .int i3040), (5, .int i3041)] [] I J R (fun r I' J' R' => (I' = I ∧ J' = J ∧ R' = R) ∧ ∃ v : Int32, r = some (.int v)) := by
          intro mz
          induction mz with
          | zero =>
            intro i3040 i3041 ai3040 bi3040 ai3041 bi3041 hmlp39_3041
            exact absurd hmlp39_3041 (Nat.not_lt_zero _)
          | succ mz ihlp39_3041 =>
            intro i3040 i3041 ai3040 bi3040 ai3041 bi3041 hmlp39_3041
            refine WP_iload dX10_early_39 rfl ?_
            refine WQ_if_lt 78 dX10_early_41 rfl (fun c3042 => ?_) (fun c3042 => ?_)
            · refine WP_iload dX10_early_78 rfl ?_
              exact WP_iret dX10_early_80 rfl ⟨⟨rfl, rfl, rfl⟩, _, rfl⟩
            · refine WP_aload_n dX10_early_44 rfl ?_
              refine WP_getr dX10_early_45 fX10_33 rfl (lyx_is hy 0 10 rfl) (rfx hr 0 2 5 (by decide)) ?_
              refine WP_iload dX10_early_48 rfl ?_
              refine WP_iload_n dX10_early_50 rfl ?_
              refine WP_iload dX10_early_51 rfl ?_
              refine WQ_iadd dX10_early_53 (by omega) (by omega) (fun v3044 hv3044 => ?_)
              refine WQ_bipush (7) (7) dX10_early_54 rfl rfl (fun v3045 hv3045 => ?_)
              refine WQ_iremk (7) dX10_early_56 hv3045 (by decide) (by omega) (fun v3046 hv3046 => ?_)
              refine WP_callV2 (k := 0) dX10_early_57 ⟨⟨⟨by decide, by decide⟩, zX0_neededAhead⟩, lX10_293, by decide, rfl, vX0_neededAhead.1, vX0_neededAhead.2⟩ (lyx_is hy 5 0 rfl) (sx_neededAhead hy hr hI i3040 v3046 (by omega) (by omega) (by omega) (by omega)) (Nat.le_of_ble_eq_true rfl) ?_
              intro r Ia Ja Ra hq
              obtain ⟨⟨ea, eb, ec⟩, v3047, rfl, av3047, bv3047⟩ := hq
              show WP _ _ _ _ (.int _ :: _) _ _ _ _
              rw [ea, eb, ec]
              clear ea eb ec Ia Ja Ra
              refine WP_istore (ls' := [(0, _), (1, _), (2, _), (3, _), (4, _), (5, _)]) dX10_early_60 (by decide) rfl ?_
              refine WP_iload dX10_early_62 rfl ?_
              refine WQ_sipush (999) (999) dX10_early_64 rfl rfl (fun v3048 hv3048 => ?_)
              refine WQ_icmp_le 72 dX10_early_67 rfl (fun c3048 => ?_) (fun c3048 => ?_)
              · refine WP_iinc (ls' := [(0, _), (1, _), (2, _), (3, _), (4, _), (5, _)]) dX10_early_72 rfl (by decide) rfl ?_
                have hv3050 : (i3041 + Int32.ofInt (-1)).toInt = i3041.toInt + (-1) := ia_n rfl (by omega) (by omega)
                generalize i3041 + Int32.ofInt (-1) = v3050 at hv3050 ⊢
                refine WP_goto 39 dX10_early_75 rfl ?_
                exact WP_sub (fc rfl (fc rfl (fc rfl (fc rfl (fc rfl (fc rfl fn)))))) (ihlp39_3041 v3047 v3050 (by omega) (by omega) (by omega) (by omega) (by omega))
              · refine WQ_iconst (-1) (-1) dX10_early_70 rfl rfl (fun v3051 hv3051 => ?_)
                exact WP_iret dX10_early_71 rfl ⟨⟨rfl, rfl, rfl⟩, _, rfl⟩
        exact WP_sub (fc rfl (fc rfl (fc rfl (fc rfl (fc rfl (fc rfl fn)))))) (lp39_3041 _ c v3039 (by omega) (by omega) (by omega) (by omega) (Nat.lt_succ_self _))
      · refine WQ_bipush (-2) (-2) dX10_early_28 rfl rfl (fun v3052 hv3052 => ?_)
        exact WP_iret dX10_early_30 rfl ⟨⟨rfl, rfl, rfl⟩, _, rfl⟩
set_option maxHeartbeats 4000000 in
set_option maxRecDepth 100000 in
theorem sx_toldOfSort_6 {g : GG} {n : Int} {L : Int32} (hy : LyX g)  {I : pI} {J : pJ} {R : pR} (hr : RfX g R) (hI : XI g n L I) (ro : Int32) (so : Int32) (so_lo : 0 ≤ so.toInt) (so_hi : so.toInt ≤ 3) : SP g mX10_toldOfSort [.ref (ad g 6), .int ro, .int so] I J R (fun r I' J' R' => (I' = I ∧ J' = J ∧ R' = R) ∧ ∃ v : Int32, r = some (.int v)) := by
  refine SP_of ⟨by decide, rfl⟩ (Nat.le_of_ble_eq_true rfl) ?_
  have e3053 : I (ad g 1) 1 = L := hI.2
  have b3054 := BT_get hI.1 1 1 2 (0) (0) (900) (by decide) 1 (by decide) (by decide)
  rw [e3053] at b3054
  refine WP_iload_n dX10_toldOfSort_0 rfl ?_
  refine WP_tab 60 dX10_toldOfSort_1 rfl rfl (fun c3054 => ?_) (fun j off c3054 hj => ?_) (by decide)
  · refine WQ_iconst (-1) (-1) dX10_toldOfSort_60 rfl rfl (fun v3056 hv3056 => ?_)
    exact WP_iret dX10_toldOfSort_61 rfl ⟨⟨rfl, rfl, rfl⟩, _, rfl⟩
  · have hlt : j < 4 := by have := (Array.getElem?_eq_some_iff.mp hj).1; simpa using this
    have hcs : (j = 0 ∧ off = 31) ∨ (j = 1 ∧ off = 38) ∨ (j = 2 ∧ off = 45) ∨ (j = 3 ∧ off = 52) := by
      match j, hlt, hj with
      | 0, _, hj => exact Or.inl ⟨rfl, (Option.some.inj hj).symm⟩
      | 1, _, hj => exact Or.inr (Or.inl ⟨rfl, (Option.some.inj hj).symm⟩)
      | 2, _, hj => exact Or.inr (Or.inr (Or.inl ⟨rfl, (Option.some.inj hj).symm⟩))
      | 3, _, hj => exact Or.inr (Or.inr (Or.inr (⟨rfl, (Option.some.inj hj).symm⟩)))
    clear hj hlt
    rcases hcs with ⟨rfl, rfl⟩ | ⟨rfl, rfl⟩ | ⟨rfl, rfl⟩ | ⟨rfl, rfl⟩
    · show WP _ _ 32 _ _ _ _ _ _
      refine WP_aload_n dX10_toldOfSort_32 rfl ?_
      refine WP_getr dX10_toldOfSort_33 fX10_140 rfl (lyx_is hy 6 7 rfl) (rfx hr 6 6 8 (by decide)) ?_
      refine WP_iload_n dX10_toldOfSort_36 rfl ?_
      refine WQ_iald dX10_toldOfSort_37 (lyx_is hy 8 13 rfl) (lyx_n hy 8 4 rfl) (by omega) (by omega) (fun q hq => BT_get hI.1 8 0 4 (0) (0) (99) (by decide) q (Nat.zero_le _) hq) (fun v3057 av3057 bv3057 ev3057 => ?_)
      clear ev3057
      exact WP_iret dX10_toldOfSort_38 rfl ⟨⟨rfl, rfl, rfl⟩, _, rfl⟩
    · show WP _ _ 39 _ _ _ _ _ _
      refine WP_aload_n dX10_toldOfSort_39 rfl ?_
      refine WP_getr dX10_toldOfSort_40 fX10_143 rfl (lyx_is hy 6 7 rfl) (rfx hr 6 7 9 (by decide)) ?_
      refine WP_iload_n dX10_toldOfSort_43 rfl ?_
      refine WQ_iald dX10_toldOfSort_44 (lyx_is hy 9 13 rfl) (lyx_n hy 9 4 rfl) (by omega) (by omega) (fun q hq => BT_get hI.1 9 0 4 (0) (0) (1000) (by decide) q (Nat.zero_le _) hq) (fun v3058 av3058 bv3058 ev3058 => ?_)
      clear ev3058
      exact WP_iret dX10_toldOfSort_45 rfl ⟨⟨rfl, rfl, rfl⟩, _, rfl⟩
    · show WP _ _ 46 _ _ _ _ _ _
      refine WP_aload_n dX10_toldOfSort_46 rfl ?_
      refine WP_getr dX10_toldOfSort_47 fX10_146 rfl (lyx_is hy 6 7 rfl) (rfx hr 6 8 10 (by decide)) ?_
      refine WP_iload_n dX10_toldOfSort_50 rfl ?_
      refine WQ_iald dX10_toldOfSort_51 (lyx_is hy 10 13 rfl) (lyx_n hy 10 4 rfl) (by omega) (by omega) (fun q hq => BT_get hI.1 10 0 4 (0) (0) (60) (by decide) q (Nat.zero_le _) hq) (fun v3059 av3059 bv3059 ev3059 => ?_)
      clear ev3059
      exact WP_iret dX10_toldOfSort_52 rfl ⟨⟨rfl, rfl, rfl⟩, _, rfl⟩
    · show WP _ _ 53 _ _ _ _ _ _
      refine WP_aload_n dX10_toldOfSort_53 rfl ?_
      refine WP_getr dX10_toldOfSort_54 fX10_149 rfl (lyx_is hy 6 7 rfl) (rfx hr 6 9 11 (by decide)) ?_
      refine WP_iload_n dX10_toldOfSort_57 rfl ?_
      refine WQ_ialdu dX10_toldOfSort_58 (lyx_is hy 11 13 rfl) (lyx_n hy 11 4 rfl) (by omega) (by omega) (fun v3060 => ?_)
      exact WP_iret dX10_toldOfSort_59 rfl ⟨⟨rfl, rfl, rfl⟩, _, rfl⟩
set_option maxHeartbeats 4000000 in
set_option maxRecDepth 100000 in
theorem sx_toldOfSort_27 {g : GG} {n : Int} {L : Int32} (hy : LyX g)  {I : pI} {J : pJ} {R : pR} (hr : RfX g R) (hI : XI g n L I) (ro : Int32) (so : Int32) (so_lo : 0 ≤ so.toInt) (so_hi : so.toInt ≤ 3) : SP g mX10_toldOfSort [.ref (ad g 27), .int ro, .int so] I J R (fun r I' J' R' => (I' = I ∧ J' = J ∧ R' = R) ∧ ∃ v : Int32, r = some (.int v)) := by
  refine SP_of ⟨by decide, rfl⟩ (Nat.le_of_ble_eq_true rfl) ?_
  have e3061 : I (ad g 1) 1 = L := hI.2
  have b3062 := BT_get hI.1 1 1 2 (0) (0) (900) (by decide) 1 (by decide) (by decide)
  rw [e3061] at b3062
  refine WP_iload_n dX10_toldOfSort_0 rfl ?_
  refine WP_tab 60 dX10_toldOfSort_1 rfl rfl (fun c3062 => ?_) (fun j off c3062 hj => ?_) (by decide)
  · refine WQ_iconst (-1) (-1) dX10_toldOfSort_60 rfl rfl (fun v3064 hv3064 => ?_)
    exact WP_iret dX10_toldOfSort_61 rfl ⟨⟨rfl, rfl, rfl⟩, _, rfl⟩
  · have hlt : j < 4 := by have := (Array.getElem?_eq_some_iff.mp hj).1; simpa using this
    have hcs : (j = 0 ∧ off = 31) ∨ (j = 1 ∧ off = 38) ∨ (j = 2 ∧ off = 45) ∨ (j = 3 ∧ off = 52) := by
      match j, hlt, hj with
      | 0, _, hj => exact Or.inl ⟨rfl, (Option.some.inj hj).symm⟩
      | 1, _, hj => exact Or.inr (Or.inl ⟨rfl, (Option.some.inj hj).symm⟩)
      | 2, _, hj => exact Or.inr (Or.inr (Or.inl ⟨rfl, (Option.some.inj hj).symm⟩))
      | 3, _, hj => exact Or.inr (Or.inr (Or.inr (⟨rfl, (Option.some.inj hj).symm⟩)))
    clear hj hlt
    rcases hcs with ⟨rfl, rfl⟩ | ⟨rfl, rfl⟩ | ⟨rfl, rfl⟩ | ⟨rfl, rfl⟩
    · show WP _ _ 32 _ _ _ _ _ _
      refine WP_aload_n dX10_toldOfSort_32 rfl ?_
      refine WP_getr dX10_toldOfSort_33 fX10_140 rfl (lyx_is hy 27 7 rfl) (rfx hr 27 6 29 (by decide)) ?_
      refine WP_iload_n dX10_toldOfSort_36 rfl ?_
      refine WQ_iald dX10_toldOfSort_37 (lyx_is hy 29 13 rfl) (lyx_n hy 29 4 rfl) (by omega) (by omega) (fun q hq => BT_get hI.1 29 0 4 (0) (0) (99) (by decide) q (Nat.zero_le _) hq) (fun v3065 av3065 bv3065 ev3065 => ?_)
      clear ev3065
      exact WP_iret dX10_toldOfSort_38 rfl ⟨⟨rfl, rfl, rfl⟩, _, rfl⟩
    · show WP _ _ 39 _ _ _ _ _ _
      refine WP_aload_n dX10_toldOfSort_39 rfl ?_
      refine WP_getr dX10_toldOfSort_40 fX10_143 rfl (lyx_is hy 27 7 rfl) (rfx hr 27 7 30 (by decide)) ?_
      refine WP_iload_n dX10_toldOfSort_43 rfl ?_
      refine WQ_iald dX10_toldOfSort_44 (lyx_is hy 30 13 rfl) (lyx_n hy 30 4 rfl) (by omega) (by omega) (fun q hq => BT_get hI.1 30 0 4 (0) (0) (1000) (by decide) q (Nat.zero_le _) hq) (fun v3066 av3066 bv3066 ev3066 => ?_)
      clear ev3066
      exact WP_iret dX10_toldOfSort_45 rfl ⟨⟨rfl, rfl, rfl⟩, _, rfl⟩
    · show WP _ _ 46 _ _ _ _ _ _
      refine WP_aload_n dX10_toldOfSort_46 rfl ?_
      refine WP_getr dX10_toldOfSort_47 fX10_146 rfl (lyx_is hy 27 7 rfl) (rfx hr 27 8 31 (by decide)) ?_
      refine WP_iload_n dX10_toldOfSort_50 rfl ?_
      refine WQ_iald dX10_toldOfSort_51 (lyx_is hy 31 13 rfl) (lyx_n hy 31 4 rfl) (by omega) (by omega) (fun q hq => BT_get hI.1 31 0 4 (0) (0) (60) (by decide) q (Nat.zero_le _) hq) (fun v3067 av3067 bv3067 ev3067 => ?_)
      clear ev3067
      exact WP_iret dX10_toldOfSort_52 rfl ⟨⟨rfl, rfl, rfl⟩, _, rfl⟩
    · show WP _ _ 53 _ _ _ _ _ _
      refine WP_aload_n dX10_toldOfSort_53 rfl ?_
      refine WP_getr dX10_toldOfSort_54 fX10_149 rfl (lyx_is hy 27 7 rfl) (rfx hr 27 9 32 (by decide)) ?_
      refine WP_iload_n dX10_toldOfSort_57 rfl ?_
      refine WQ_ialdu dX10_toldOfSort_58 (lyx_is hy 32 13 rfl) (lyx_n hy 32 4 rfl) (by omega) (by omega) (fun v3068 => ?_)
      exact WP_iret dX10_toldOfSort_59 rfl ⟨⟨rfl, rfl, rfl⟩, _, rfl⟩
set_option maxHeartbeats 4000000 in
set_option maxRecDepth 100000 in
theorem sx_isSort_6 {g : GG} {n : Int} {L : Int32} (hy : LyX g)  {I : pI} {J : pJ} {R : pR} (hr : RfX g R) (hT : R (ad g 5) 0 = some (ad g 6)) (hI : XI g n L I) (a : Int32)  : SP g mX10_isSort [.ref (ad g 0), .int a] I J R (fun r I' J' R' => (I' = I ∧ J' = J ∧ R' = R) ∧ ∃ v : Int32, r = some (.int v) ∧ 0 ≤ v.toInt ∧ v.toInt ≤ 1 ∧ (v.toInt = 1 → 0 ≤ a.toInt ∧ a.toInt ≤ 3)) := by
  refine SP_of ⟨by decide, rfl⟩ (Nat.le_of_ble_eq_true rfl) ?_
  have e3069 : I (ad g 1) 1 = L := hI.2
  have b3070 := BT_get hI.1 1 1 2 (0) (0) (900) (by decide) 1 (by decide) (by decide)
  rw [e3069] at b3070
  refine WP_iload_n dX10_isSort_0 rfl ?_
  refine WQ_if_lt 22 dX10_isSort_1 rfl (fun c3070 => ?_) (fun c3070 => ?_)
  · refine WQ_iconst (0) (0) dX10_isSort_22 rfl rfl (fun v3072 hv3072 => ?_)
    exact WP_zret dX10_isSort_23 rfl (nar_z (by omega)) ⟨⟨rfl, rfl, rfl⟩, _, rfl, by omega, by omega, by omega⟩
  · refine WP_iload_n dX10_isSort_4 rfl ?_
    refine WP_aload_n dX10_isSort_5 rfl ?_
    refine WP_getr dX10_isSort_6 fX10_33 rfl (lyx_is hy 0 10 rfl) (rfx hr 0 2 5 (by decide)) ?_
    refine WP_getr dX10_isSort_9 fX10_102 rfl (lyx_is hy 5 0 rfl) hT ?_
    refine WQ_geti dX10_isSort_12 fX10_114 rfl (lyx_is hy 6 7 rfl) (BT_get hI.1 6 1 2 (0) (0) (4) (by decide) 1 (by decide) (by decide)) (fun v3073 ev3073 av3073 bv3073 => ?_)
    refine WQ_icmp_ge 22 dX10_isSort_15 rfl (fun c3073 => ?_) (fun c3073 => ?_)
    · refine WQ_iconst (0) (0) dX10_isSort_22 rfl rfl (fun v3075 hv3075 => ?_)
      exact WP_zret dX10_isSort_23 rfl (nar_z (by omega)) ⟨⟨rfl, rfl, rfl⟩, _, rfl, by omega, by omega, by omega⟩
    · refine WQ_iconst (1) (1) dX10_isSort_18 rfl rfl (fun v3076 hv3076 => ?_)
      refine WP_goto 23 dX10_isSort_19 rfl ?_
      exact WP_zret dX10_isSort_23 rfl (nar_z (by omega)) ⟨⟨rfl, rfl, rfl⟩, _, rfl, by omega, by omega, by omega⟩
set_option maxHeartbeats 4000000 in
set_option maxRecDepth 100000 in
theorem sx_isThing_6 {g : GG} {n : Int} {L : Int32} (hy : LyX g)  {I : pI} {J : pJ} {R : pR} (hr : RfX g R) (hT : R (ad g 5) 0 = some (ad g 6)) (hI : XI g n L I) (a : Int32)  : SP g mX10_isThing [.ref (ad g 0), .int a] I J R (fun r I' J' R' => (I' = I ∧ J' = J ∧ R' = R) ∧ ∃ v : Int32, r = some (.int v) ∧ 0 ≤ v.toInt ∧ v.toInt ≤ 1 ∧ (v.toInt = 1 → 0 ≤ a.toInt ∧ a.toInt ≤ 2)) := by
  refine SP_of ⟨by decide, rfl⟩ (Nat.le_of_ble_eq_true rfl) ?_
  have e3077 : I (ad g 1) 1 = L := hI.2
  have b3078 := BT_get hI.1 1 1 2 (0) (0) (900) (by decide) 1 (by decide) (by decide)
  rw [e3077] at b3078
  refine WP_iload_n dX10_isThing_0 rfl ?_
  refine WQ_if_lt 22 dX10_isThing_1 rfl (fun c3078 => ?_) (fun c3078 => ?_)
  · refine WQ_iconst (0) (0) dX10_isThing_22 rfl rfl (fun v3080 hv3080 => ?_)
    exact WP_zret dX10_isThing_23 rfl (nar_z (by omega)) ⟨⟨rfl, rfl, rfl⟩, _, rfl, by omega, by omega, by omega⟩
  · refine WP_iload_n dX10_isThing_4 rfl ?_
    refine WP_aload_n dX10_isThing_5 rfl ?_
    refine WP_getr dX10_isThing_6 fX10_33 rfl (lyx_is hy 0 10 rfl) (rfx hr 0 2 5 (by decide)) ?_
    refine WP_getr dX10_isThing_9 fX10_102 rfl (lyx_is hy 5 0 rfl) hT ?_
    refine WQ_geti dX10_isThing_12 fX10_117 rfl (lyx_is hy 6 7 rfl) (BT_get hI.1 6 2 3 (0) (0) (3) (by decide) 2 (by decide) (by decide)) (fun v3081 ev3081 av3081 bv3081 => ?_)
    refine WQ_icmp_ge 22 dX10_isThing_15 rfl (fun c3081 => ?_) (fun c3081 => ?_)
    · refine WQ_iconst (0) (0) dX10_isThing_22 rfl rfl (fun v3083 hv3083 => ?_)
      exact WP_zret dX10_isThing_23 rfl (nar_z (by omega)) ⟨⟨rfl, rfl, rfl⟩, _, rfl, by omega, by omega, by omega⟩
    · refine WQ_iconst (1) (1) dX10_isThing_18 rfl rfl (fun v3084 hv3084 => ?_)
      refine WP_goto 23 dX10_isThing_19 rfl ?_
      exact WP_zret dX10_isThing_23 rfl (nar_z (by omega)) ⟨⟨rfl, rfl, rfl⟩, _, rfl, by omega, by omega, by omega⟩
set_option maxHeartbeats 4000000 in
set_option maxRecDepth 100000 in
theorem sx_isPerson_6 {g : GG} {n : Int} {L : Int32} (hy : LyX g)  {I : pI} {J : pJ} {R : pR} (hr : RfX g R) (hT : R (ad g 5) 0 = some (ad g 6)) (hI : XI g n L I) (a : Int32) (b : Int32) (c : Int32) (e : Int32)  : SP g mX10_isPerson [.ref (ad g 0), .int a, .int b, .int c, .int e] I J R (fun r I' J' R' => (I' = I ∧ J' = J ∧ R' = R) ∧ ∃ v : Int32, r = some (.int v) ∧ 0 ≤ v.toInt ∧ v.toInt ≤ 1 ∧ (v.toInt = 1 → (0 ≤ a.toInt ∧ a.toInt ≤ 3) ∧ (0 ≤ b.toInt ∧ b.toInt ≤ 6) ∧ (0 ≤ c.toInt ∧ c.toInt ≤ 60) ∧ (0 ≤ e.toInt ∧ e.toInt ≤ 5))) := by
  refine SP_of ⟨by decide, rfl⟩ (Nat.le_of_ble_eq_true rfl) ?_
  have e3085 : I (ad g 1) 1 = L := hI.2
  have b3086 := BT_get hI.1 1 1 2 (0) (0) (900) (by decide) 1 (by decide) (by decide)
  rw [e3085] at b3086
  refine WP_aload_n dX10_isPerson_0 rfl ?_
  refine WP_iload_n dX10_isPerson_1 rfl ?_
  refine WP_callV1 (k := 10) dX10_isPerson_2 ⟨⟨⟨by decide, by decide⟩, zX10_isSort⟩, lX10_152, by decide, rfl, vX10_isSort.1, vX10_isSort.2⟩ (lyx_is hy 0 10 rfl) (sx_isSort_6 hy hr hT hI a ) (Nat.le_of_ble_eq_true rfl) ?_
  intro r Ia Ja Ra hq
  obtain ⟨⟨ea, eb, ec⟩, v3087, rfl, av3087, bv3087, cv3087⟩ := hq
  show WP _ _ _ _ (.int _ :: _) _ _ _ _
  rw [ea, eb, ec]
  clear ea eb ec Ia Ja Ra
  refine WQ_if_eq 28 dX10_isPerson_5 rfl (fun c3087 => ?_) (fun c3087 => ?_)
  · refine WQ_iconst (0) (0) dX10_isPerson_28 rfl rfl (fun v3089 hv3089 => ?_)
    exact WP_zret dX10_isPerson_29 rfl (nar_z (by omega)) ⟨⟨rfl, rfl, rfl⟩, _, rfl, by omega, by omega, by omega⟩
  · refine WP_iload_n dX10_isPerson_8 rfl ?_
    refine WP_callS1 dX10_isPerson_9 ⟨⟨⟨by decide, by decide⟩, zX10_isDay⟩, lX10_156, tX10_isDay⟩ (sx_isDay hy hr hI b ) (Nat.le_of_ble_eq_true rfl) ?_
    intro r Ia Ja Ra hq
    obtain ⟨⟨ea, eb, ec⟩, v3090, rfl, av3090, bv3090, cv3090⟩ := hq
    show WP _ _ _ _ (.int _ :: _) _ _ _ _
    rw [ea, eb, ec]
    clear ea eb ec Ia Ja Ra
    refine WQ_if_eq 28 dX10_isPerson_12 rfl (fun c3090 => ?_) (fun c3090 => ?_)
    · refine WQ_iconst (0) (0) dX10_isPerson_28 rfl rfl (fun v3092 hv3092 => ?_)
      exact WP_zret dX10_isPerson_29 rfl (nar_z (by omega)) ⟨⟨rfl, rfl, rfl⟩, _, rfl, by omega, by omega, by omega⟩
    · refine WP_iload_n dX10_isPerson_15 rfl ?_
      refine WP_iload dX10_isPerson_16 rfl ?_
      refine WP_callS2 dX10_isPerson_18 ⟨⟨⟨by decide, by decide⟩, zX10_isHeld⟩, lX10_180, tX10_isHeld⟩ (sx_isHeld hy hr hI c e  ) (Nat.le_of_ble_eq_true rfl) ?_
      intro r Ia Ja Ra hq
      obtain ⟨⟨ea, eb, ec⟩, v3093, rfl, av3093, bv3093, cv3093⟩ := hq
      show WP _ _ _ _ (.int _ :: _) _ _ _ _
      rw [ea, eb, ec]
      clear ea eb ec Ia Ja Ra
      refine WQ_if_eq 28 dX10_isPerson_21 rfl (fun c3093 => ?_) (fun c3093 => ?_)
      · refine WQ_iconst (0) (0) dX10_isPerson_28 rfl rfl (fun v3095 hv3095 => ?_)
        exact WP_zret dX10_isPerson_29 rfl (nar_z (by omega)) ⟨⟨rfl, rfl, rfl⟩, _, rfl, by omega, by omega, by omega⟩
      · refine WQ_iconst (1) (1) dX10_isPerson_24 rfl rfl (fun v3096 hv3096 => ?_)
        refine WP_goto 29 dX10_isPerson_25 rfl ?_
        exact WP_zret dX10_isPerson_29 rfl (nar_z (by omega)) ⟨⟨rfl, rfl, rfl⟩, _, rfl, by omega, by omega, by omega⟩
set_option maxHeartbeats 4000000 in
set_option maxRecDepth 100000 in
theorem sx_told_6 {g : GG} {n : Int} {L : Int32} (hy : LyX g)  {I : pI} {J : pJ} {R : pR} (hr : RfX g R) (hT : R (ad g 5) 0 = some (ad g 6)) (hI : XI g n L I) (a : Int32)  : SP g mX10_told [.ref (ad g 0), .int a] I J R (fun r I' J' R' => (I' = I ∧ J' = J ∧ R' = R) ∧ ∃ v : Int32, r = some (.int v)) := by
  refine SP_of ⟨by decide, rfl⟩ (Nat.le_of_ble_eq_true rfl) ?_
  have e3097 : I (ad g 1) 1 = L := hI.2
  have b3098 := BT_get hI.1 1 1 2 (0) (0) (900) (by decide) 1 (by decide) (by decide)
  rw [e3097] at b3098
  refine WP_aload_n dX10_told_0 rfl ?_
  refine WP_getr dX10_told_1 fX10_33 rfl (lyx_is hy 0 10 rfl) (rfx hr 0 2 5 (by decide)) ?_
  refine WP_getr dX10_told_4 fX10_102 rfl (lyx_is hy 5 0 rfl) hT ?_
  refine WP_astore_n (ls' := [(0, _), (1, _), (2, _)]) dX10_told_7 (by decide) rfl ?_
  refine WP_iload_n dX10_told_8 rfl ?_
  refine WP_tab 60 dX10_told_9 rfl rfl (fun c3098 => ?_) (fun j off c3098 hj => ?_) (by decide)
  · refine WP_iload_n dX10_told_60 rfl ?_
    refine WQ_bipush (10) (10) dX10_told_61 rfl rfl (fun v3100 hv3100 => ?_)
    refine WQ_idivu dX10_told_63 (by omega) (fun v3101 => ?_)
    refine WP_istore_n (ls' := [(0, _), (1, _), (2, _), (3, _)]) dX10_told_64 (by decide) rfl ?_
    refine WP_iload_n dX10_told_65 rfl ?_
    refine WQ_bipush (10) (10) dX10_told_66 rfl rfl (fun v3102 hv3102 => ?_)
    refine WQ_iremi (10) dX10_told_68 hv3102 (by decide) (fun v3103 hv3103 => ?_)
    refine WP_istore (ls' := [(0, _), (1, _), (2, _), (3, _), (4, _)]) dX10_told_69 (by decide) rfl ?_
    refine WP_iload dX10_told_71 rfl ?_
    refine WQ_if_ge 78 dX10_told_73 rfl (fun c3103 => ?_) (fun c3103 => ?_)
    · refine WP_iload_n dX10_told_78 rfl ?_
      refine WQ_iconst (1) (1) dX10_told_79 rfl rfl (fun v3105 hv3105 => ?_)
      refine WQ_icmp_ne 102 dX10_told_80 rfl (fun c3105 => ?_) (fun c3105 => ?_)
      · refine WP_iload_n dX10_told_102 rfl ?_
        refine WQ_bipush (6) (6) dX10_told_103 rfl rfl (fun v3107 hv3107 => ?_)
        refine WQ_icmp_eq 114 dX10_told_105 rfl (fun c3107 => ?_) (fun c3107 => ?_)
        · refine WP_iload dX10_told_114 rfl ?_
          refine WP_aload_n dX10_told_116 rfl ?_
          refine WQ_geti dX10_told_117 fX10_117 rfl (lyx_is hy 6 7 rfl) (BT_get hI.1 6 2 3 (0) (0) (3) (by decide) 2 (by decide) (by decide)) (fun v3109 ev3109 av3109 bv3109 => ?_)
          have jn150_3114 : ∀ (v3114 : Int32), -1 ≤ v3114.toInt → v3114.toInt ≤ 1000 → WP g mX10_told 150 [(0, .ref (ad g 0)), (1, .int a), (2, .ref (ad g 6)), (3, .int v3101), (4, .int v3103)] [.int v3114] I J R (fun r I' J' R' => (I' = I ∧ J' = J ∧ R' = R) ∧ ∃ v : Int32, r = some (.int v)) := by
            intro v3114 av3114 bv3114
            exact WP_iret dX10_told_150 rfl ⟨⟨rfl, rfl, rfl⟩, _, rfl⟩
          refine WQ_icmp_ge 149 dX10_told_120 rfl (fun c3115 => ?_) (fun c3115 => ?_)
          · refine WQ_iconst (-1) (-1) dX10_told_149 rfl rfl (fun v3117 hv3117 => ?_)
            exact WP_sub (fc rfl (fc rfl (fc rfl (fc rfl (fc rfl fn))))) (jn150_3114 v3117 (by omega) (by omega))
          · refine WP_iload_n dX10_told_123 rfl ?_
            refine WQ_bipush (6) (6) dX10_told_124 rfl rfl (fun v3118 hv3118 => ?_)
            refine WQ_icmp_ne 139 dX10_told_126 rfl (fun c3118 => False.elim (by omega)) (fun c3118 => ?_)
            refine WP_aload_n dX10_told_129 rfl ?_
            refine WP_getr dX10_told_130 fX10_130 rfl (lyx_is hy 6 7 rfl) (rfx hr 6 14 16 (by decide)) ?_
            refine WP_iload dX10_told_133 rfl ?_
            refine WQ_iald dX10_told_135 (lyx_is hy 16 13 rfl) (lyx_n hy 16 3 rfl) (by omega) (by omega) (fun q hq => BT_get hI.1 16 0 3 (0) (0) (1000) (by decide) q (Nat.zero_le _) hq) (fun v3120 av3120 bv3120 ev3120 => ?_)
            clear ev3120
            refine WP_goto 150 dX10_told_136 rfl ?_
            exact WP_sub (fc rfl (fc rfl (fc rfl (fc rfl (fc rfl fn))))) (jn150_3114 v3120 (by omega) (by omega))
        · refine WP_iload_n dX10_told_108 rfl ?_
          refine WQ_bipush (7) (7) dX10_told_109 rfl rfl (fun v3121 hv3121 => ?_)
          refine WQ_icmp_ne 151 dX10_told_111 rfl (fun c3121 => ?_) (fun c3121 => ?_)
          · refine WP_iload dX10_told_151 rfl ?_
            refine WP_aload_n dX10_told_153 rfl ?_
            refine WQ_geti dX10_told_154 fX10_114 rfl (lyx_is hy 6 7 rfl) (BT_get hI.1 6 1 2 (0) (0) (4) (by decide) 1 (by decide) (by decide)) (fun v3123 ev3123 av3123 bv3123 => ?_)
            refine WQ_icmp_ge 170 dX10_told_157 rfl (fun c3123 => ?_) (fun c3123 => ?_)
            · refine WQ_iconst (-1) (-1) dX10_told_170 rfl rfl (fun v3125 hv3125 => ?_)
              exact WP_iret dX10_told_171 rfl ⟨⟨rfl, rfl, rfl⟩, _, rfl⟩
            · refine WP_aload_n dX10_told_160 rfl ?_
              refine WP_iload_n dX10_told_161 rfl ?_
              refine WP_iload dX10_told_162 rfl ?_
              refine WP_callS3 dX10_told_164 ⟨⟨⟨by decide, by decide⟩, zX10_toldOfSort⟩, lX10_136, tX10_toldOfSort⟩ (sx_toldOfSort_6 hy hr hI v3101 v3103  (by omega) (by omega)) (Nat.le_of_ble_eq_true rfl) ?_
              intro r Ia Ja Ra hq
              obtain ⟨⟨ea, eb, ec⟩, v3126, rfl⟩ := hq
              show WP _ _ _ _ (.int _ :: _) _ _ _ _
              rw [ea, eb, ec]
              clear ea eb ec Ia Ja Ra
              refine WP_goto 171 dX10_told_167 rfl ?_
              exact WP_iret dX10_told_171 rfl ⟨⟨rfl, rfl, rfl⟩, _, rfl⟩
          · refine WP_iload dX10_told_114 rfl ?_
            refine WP_aload_n dX10_told_116 rfl ?_
            refine WQ_geti dX10_told_117 fX10_117 rfl (lyx_is hy 6 7 rfl) (BT_get hI.1 6 2 3 (0) (0) (3) (by decide) 2 (by decide) (by decide)) (fun v3127 ev3127 av3127 bv3127 => ?_)
            have jn150_3132 : ∀ (v3132 : Int32), -1 ≤ v3132.toInt → v3132.toInt ≤ 9 → WP g mX10_told 150 [(0, .ref (ad g 0)), (1, .int a), (2, .ref (ad g 6)), (3, .int v3101), (4, .int v3103)] [.int v3132] I J R (fun r I' J' R' => (I' = I ∧ J' = J ∧ R' = R) ∧ ∃ v : Int32, r = some (.int v)) := by
              intro v3132 av3132 bv3132
              exact WP_iret dX10_told_150 rfl ⟨⟨rfl, rfl, rfl⟩, _, rfl⟩
            refine WQ_icmp_ge 149 dX10_told_120 rfl (fun c3133 => ?_) (fun c3133 => ?_)
            · refine WQ_iconst (-1) (-1) dX10_told_149 rfl rfl (fun v3135 hv3135 => ?_)
              exact WP_sub (fc rfl (fc rfl (fc rfl (fc rfl (fc rfl fn))))) (jn150_3132 v3135 (by omega) (by omega))
            · refine WP_iload_n dX10_told_123 rfl ?_
              refine WQ_bipush (6) (6) dX10_told_124 rfl rfl (fun v3136 hv3136 => ?_)
              refine WQ_icmp_ne 139 dX10_told_126 rfl (fun c3136 => ?_) (fun c3136 => False.elim (by omega))
              refine WP_aload_n dX10_told_139 rfl ?_
              refine WP_getr dX10_told_140 fX10_133 rfl (lyx_is hy 6 7 rfl) (rfx hr 6 15 17 (by decide)) ?_
              refine WP_iload dX10_told_143 rfl ?_
              refine WQ_iald dX10_told_145 (lyx_is hy 17 13 rfl) (lyx_n hy 17 3 rfl) (by omega) (by omega) (fun q hq => BT_get hI.1 17 0 3 (0) (0) (9) (by decide) q (Nat.zero_le _) hq) (fun v3138 av3138 bv3138 ev3138 => ?_)
              clear ev3138
              refine WP_goto 150 dX10_told_146 rfl ?_
              exact WP_sub (fc rfl (fc rfl (fc rfl (fc rfl (fc rfl fn))))) (jn150_3132 v3138 (by omega) (by omega))
      · refine WP_iload dX10_told_83 rfl ?_
        refine WQ_bipush (7) (7) dX10_told_85 rfl rfl (fun v3139 hv3139 => ?_)
        have jn101_3142 : ∀ (v3142 : Int32), -1 ≤ v3142.toInt → v3142.toInt ≤ 900 → WP g mX10_told 101 [(0, .ref (ad g 0)), (1, .int a), (2, .ref (ad g 6)), (3, .int v3101), (4, .int v3103)] [.int v3142] I J R (fun r I' J' R' => (I' = I ∧ J' = J ∧ R' = R) ∧ ∃ v : Int32, r = some (.int v)) := by
          intro v3142 av3142 bv3142
          exact WP_iret dX10_told_101 rfl ⟨⟨rfl, rfl, rfl⟩, _, rfl⟩
        refine WQ_icmp_ge 100 dX10_told_87 rfl (fun c3143 => ?_) (fun c3143 => ?_)
        · refine WQ_iconst (-1) (-1) dX10_told_100 rfl rfl (fun v3145 hv3145 => ?_)
          exact WP_sub (fc rfl (fc rfl (fc rfl (fc rfl (fc rfl fn))))) (jn101_3142 v3145 (by omega) (by omega))
        · refine WP_aload_n dX10_told_90 rfl ?_
          refine WP_getr dX10_told_91 fX10_126 rfl (lyx_is hy 6 7 rfl) (rfx hr 6 5 7 (by decide)) ?_
          refine WP_iload dX10_told_94 rfl ?_
          refine WQ_iald dX10_told_96 (lyx_is hy 7 13 rfl) (lyx_n hy 7 7 rfl) (by omega) (by omega) (fun q hq => BT_get hI.1 7 0 7 (0) (0) (900) (by decide) q (Nat.zero_le _) hq) (fun v3146 av3146 bv3146 ev3146 => ?_)
          clear ev3146
          refine WP_goto 101 dX10_told_97 rfl ?_
          exact WP_sub (fc rfl (fc rfl (fc rfl (fc rfl (fc rfl fn))))) (jn101_3142 v3146 (by omega) (by omega))
    · refine WQ_iconst (-1) (-1) dX10_told_76 rfl rfl (fun v3147 hv3147 => ?_)
      exact WP_iret dX10_told_77 rfl ⟨⟨rfl, rfl, rfl⟩, _, rfl⟩
  · have hlt : j < 4 := by have := (Array.getElem?_eq_some_iff.mp hj).1; simpa using this
    have hcs : (j = 0 ∧ off = 31) ∨ (j = 1 ∧ off = 36) ∨ (j = 2 ∧ off = 41) ∨ (j = 3 ∧ off = 46) := by
      match j, hlt, hj with
      | 0, _, hj => exact Or.inl ⟨rfl, (Option.some.inj hj).symm⟩
      | 1, _, hj => exact Or.inr (Or.inl ⟨rfl, (Option.some.inj hj).symm⟩)
      | 2, _, hj => exact Or.inr (Or.inr (Or.inl ⟨rfl, (Option.some.inj hj).symm⟩))
      | 3, _, hj => exact Or.inr (Or.inr (Or.inr (⟨rfl, (Option.some.inj hj).symm⟩)))
    clear hj hlt
    rcases hcs with ⟨rfl, rfl⟩ | ⟨rfl, rfl⟩ | ⟨rfl, rfl⟩ | ⟨rfl, rfl⟩
    · show WP _ _ 40 _ _ _ _ _ _
      refine WP_aload_n dX10_told_40 rfl ?_
      refine WQ_geti dX10_told_41 fX10_114 rfl (lyx_is hy 6 7 rfl) (BT_get hI.1 6 1 2 (0) (0) (4) (by decide) 1 (by decide) (by decide)) (fun v3148 ev3148 av3148 bv3148 => ?_)
      exact WP_iret dX10_told_44 rfl ⟨⟨rfl, rfl, rfl⟩, _, rfl⟩
    · show WP _ _ 45 _ _ _ _ _ _
      refine WP_aload_n dX10_told_45 rfl ?_
      refine WQ_geti dX10_told_46 fX10_117 rfl (lyx_is hy 6 7 rfl) (BT_get hI.1 6 2 3 (0) (0) (3) (by decide) 2 (by decide) (by decide)) (fun v3149 ev3149 av3149 bv3149 => ?_)
      exact WP_iret dX10_told_49 rfl ⟨⟨rfl, rfl, rfl⟩, _, rfl⟩
    · show WP _ _ 50 _ _ _ _ _ _
      refine WP_aload_n dX10_told_50 rfl ?_
      refine WQ_geti dX10_told_51 fX10_120 rfl (lyx_is hy 6 7 rfl) (BT_get hI.1 6 3 4 (-1) (0) (3) (by decide) 3 (by decide) (by decide)) (fun v3150 ev3150 av3150 bv3150 => ?_)
      exact WP_iret dX10_told_54 rfl ⟨⟨rfl, rfl, rfl⟩, _, rfl⟩
    · show WP _ _ 55 _ _ _ _ _ _
      refine WP_aload_n dX10_told_55 rfl ?_
      refine WQ_geti dX10_told_56 fX10_123 rfl (lyx_is hy 6 7 rfl) (BT_get hI.1 6 4 5 (-1) (0) (2) (by decide) 4 (by decide) (by decide)) (fun v3151 ev3151 av3151 bv3151 => ?_)
      exact WP_iret dX10_told_59 rfl ⟨⟨rfl, rfl, rfl⟩, _, rfl⟩
set_option maxHeartbeats 4000000 in
set_option maxRecDepth 100000 in
theorem sx_earns_6 {g : GG} {n : Int} {L : Int32} (hy : LyX g)  {I : pI} {J : pJ} {R : pR} (hr : RfX g R) (hT : R (ad g 5) 0 = some (ad g 6)) (hI : XI g n L I) (a : Int32) (b : Int32)  : SP g mX10_earns [.ref (ad g 0), .int a, .int b] I J R (fun r I' J' R' => (I' = I ∧ J' = J ∧ R' = R) ∧ ∃ v : Int32, r = some (.int v)) := by
  refine SP_of ⟨by decide, rfl⟩ (Nat.le_of_ble_eq_true rfl) ?_
  have e3152 : I (ad g 1) 1 = L := hI.2
  have b3153 := BT_get hI.1 1 1 2 (0) (0) (900) (by decide) 1 (by decide) (by decide)
  rw [e3152] at b3153
  refine WP_aload_n dX10_earns_0 rfl ?_
  refine WP_iload_n dX10_earns_1 rfl ?_
  refine WP_callV1 (k := 10) dX10_earns_2 ⟨⟨⟨by decide, by decide⟩, zX10_isSort⟩, lX10_152, by decide, rfl, vX10_isSort.1, vX10_isSort.2⟩ (lyx_is hy 0 10 rfl) (sx_isSort_6 hy hr hT hI a ) (Nat.le_of_ble_eq_true rfl) ?_
  intro r Ia Ja Ra hq
  obtain ⟨⟨ea, eb, ec⟩, v3154, rfl, av3154, bv3154, cv3154⟩ := hq
  show WP _ _ _ _ (.int _ :: _) _ _ _ _
  rw [ea, eb, ec]
  clear ea eb ec Ia Ja Ra
  have jn37_3163 : ∀ (v3163 : Int32), -2 ≤ v3163.toInt → v3163.toInt ≤ 20 → WP g mX10_earns 37 [(0, .ref (ad g 0)), (1, .int a), (2, .int b)] [.int v3163] I J R (fun r I' J' R' => (I' = I ∧ J' = J ∧ R' = R) ∧ ∃ v : Int32, r = some (.int v)) := by
    intro v3163 av3163 bv3163
    exact WP_iret dX10_earns_37 rfl ⟨⟨rfl, rfl, rfl⟩, _, rfl⟩
  refine WQ_if_eq 35 dX10_earns_5 rfl (fun c3164 => ?_) (fun c3164 => ?_)
  · refine WQ_bipush (-2) (-2) dX10_earns_35 rfl rfl (fun v3166 hv3166 => ?_)
    exact WP_sub (fc rfl (fc rfl (fc rfl fn))) (jn37_3163 v3166 (by omega) (by omega))
  · refine WP_iload_n dX10_earns_8 rfl ?_
    refine WP_callS1 dX10_earns_9 ⟨⟨⟨by decide, by decide⟩, zX10_isDay⟩, lX10_156, tX10_isDay⟩ (sx_isDay hy hr hI b ) (Nat.le_of_ble_eq_true rfl) ?_
    intro r Ia Ja Ra hq
    obtain ⟨⟨ea, eb, ec⟩, v3167, rfl, av3167, bv3167, cv3167⟩ := hq
    show WP _ _ _ _ (.int _ :: _) _ _ _ _
    rw [ea, eb, ec]
    clear ea eb ec Ia Ja Ra
    refine WQ_if_eq 35 dX10_earns_12 rfl (fun c3167 => ?_) (fun c3167 => ?_)
    · refine WQ_bipush (-2) (-2) dX10_earns_35 rfl rfl (fun v3169 hv3169 => ?_)
      exact WP_sub (fc rfl (fc rfl (fc rfl fn))) (jn37_3163 v3169 (by omega) (by omega))
    · refine WP_aload_n dX10_earns_15 rfl ?_
      refine WP_getr dX10_earns_16 fX10_33 rfl (lyx_is hy 0 10 rfl) (rfx hr 0 2 5 (by decide)) ?_
      refine WP_getr dX10_earns_19 fX10_102 rfl (lyx_is hy 5 0 rfl) hT ?_
      refine WP_getr dX10_earns_22 fX10_159 rfl (lyx_is hy 6 7 rfl) (rfx hr 6 10 12 (by decide)) ?_
      refine WP_iload_n dX10_earns_25 rfl ?_
      refine WQ_bipush (7) (7) dX10_earns_26 rfl rfl (fun v3170 hv3170 => ?_)
      refine WQ_imulk (7) dX10_earns_28 hv3170 (by omega) (by omega) (fun v3171 hv3171 => ?_)
      refine WP_iload_n dX10_earns_29 rfl ?_
      refine WQ_iadd dX10_earns_30 (by omega) (by omega) (fun v3172 hv3172 => ?_)
      refine WQ_iald dX10_earns_31 (lyx_is hy 12 13 rfl) (lyx_n hy 12 28 rfl) (by omega) (by omega) (fun q hq => BT_get hI.1 12 0 28 (0) (0) (20) (by decide) q (Nat.zero_le _) hq) (fun v3173 av3173 bv3173 ev3173 => ?_)
      clear ev3173
      refine WP_goto 37 dX10_earns_32 rfl ?_
      exact WP_sub (fc rfl (fc rfl (fc rfl fn))) (jn37_3163 v3173 (by omega) (by omega))
set_option maxHeartbeats 4000000 in
set_option maxRecDepth 100000 in
theorem sx_price_6 {g : GG} {n : Int} {L : Int32} (hy : LyX g)  {I : pI} {J : pJ} {R : pR} (hr : RfX g R) (hT : R (ad g 5) 0 = some (ad g 6)) (hI : XI g n L I) (a : Int32) (b : Int32)  : SP g mX10_price [.ref (ad g 0), .int a, .int b] I J R (fun r I' J' R' => (I' = I ∧ J' = J ∧ R' = R) ∧ ∃ v : Int32, r = some (.int v)) := by
  refine SP_of ⟨by decide, rfl⟩ (Nat.le_of_ble_eq_true rfl) ?_
  have e3174 : I (ad g 1) 1 = L := hI.2
  have b3175 := BT_get hI.1 1 1 2 (0) (0) (900) (by decide) 1 (by decide) (by decide)
  rw [e3174] at b3175
  refine WP_aload_n dX10_price_0 rfl ?_
  refine WP_iload_n dX10_price_1 rfl ?_
  refine WP_callV1 (k := 10) dX10_price_2 ⟨⟨⟨by decide, by decide⟩, zX10_isThing⟩, lX10_162, by decide, rfl, vX10_isThing.1, vX10_isThing.2⟩ (lyx_is hy 0 10 rfl) (sx_isThing_6 hy hr hT hI a ) (Nat.le_of_ble_eq_true rfl) ?_
  intro r Ia Ja Ra hq
  obtain ⟨⟨ea, eb, ec⟩, v3176, rfl, av3176, bv3176, cv3176⟩ := hq
  show WP _ _ _ _ (.int _ :: _) _ _ _ _
  rw [ea, eb, ec]
  clear ea eb ec Ia Ja Ra
  have jn34_3185 : ∀ (v3185 : Int32), -2 ≤ v3185.toInt → v3185.toInt ≤ 20 → WP g mX10_price 34 [(0, .ref (ad g 0)), (1, .int a), (2, .int b)] [.int v3185] I J R (fun r I' J' R' => (I' = I ∧ J' = J ∧ R' = R) ∧ ∃ v : Int32, r = some (.int v)) := by
    intro v3185 av3185 bv3185
    exact WP_iret dX10_price_34 rfl ⟨⟨rfl, rfl, rfl⟩, _, rfl⟩
  refine WQ_if_eq 32 dX10_price_5 rfl (fun c3186 => ?_) (fun c3186 => ?_)
  · refine WQ_bipush (-2) (-2) dX10_price_32 rfl rfl (fun v3188 hv3188 => ?_)
    exact WP_sub (fc rfl (fc rfl (fc rfl fn))) (jn34_3185 v3188 (by omega) (by omega))
  · refine WP_iload_n dX10_price_8 rfl ?_
    refine WP_callS1 dX10_price_9 ⟨⟨⟨by decide, by decide⟩, zX10_isDay⟩, lX10_156, tX10_isDay⟩ (sx_isDay hy hr hI b ) (Nat.le_of_ble_eq_true rfl) ?_
    intro r Ia Ja Ra hq
    obtain ⟨⟨ea, eb, ec⟩, v3189, rfl, av3189, bv3189, cv3189⟩ := hq
    show WP _ _ _ _ (.int _ :: _) _ _ _ _
    rw [ea, eb, ec]
    clear ea eb ec Ia Ja Ra
    refine WQ_if_eq 32 dX10_price_12 rfl (fun c3189 => ?_) (fun c3189 => ?_)
    · refine WQ_bipush (-2) (-2) dX10_price_32 rfl rfl (fun v3191 hv3191 => ?_)
      exact WP_sub (fc rfl (fc rfl (fc rfl fn))) (jn34_3185 v3191 (by omega) (by omega))
    · refine WP_aload_n dX10_price_15 rfl ?_
      refine WP_getr dX10_price_16 fX10_33 rfl (lyx_is hy 0 10 rfl) (rfx hr 0 2 5 (by decide)) ?_
      refine WP_getr dX10_price_19 fX10_165 rfl (lyx_is hy 5 0 rfl) (rfx hr 5 1 22 (by decide)) ?_
      refine WP_iload_n dX10_price_22 rfl ?_
      refine WQ_bipush (7) (7) dX10_price_23 rfl rfl (fun v3192 hv3192 => ?_)
      refine WQ_imulk (7) dX10_price_25 hv3192 (by omega) (by omega) (fun v3193 hv3193 => ?_)
      refine WP_iload_n dX10_price_26 rfl ?_
      refine WQ_iadd dX10_price_27 (by omega) (by omega) (fun v3194 hv3194 => ?_)
      refine WQ_iald dX10_price_28 (lyx_is hy 22 13 rfl) (lyx_n hy 22 21 rfl) (by omega) (by omega) (fun q hq => BT_get hI.1 22 0 21 (0) (0) (20) (by decide) q (Nat.zero_le _) hq) (fun v3195 av3195 bv3195 ev3195 => ?_)
      clear ev3195
      refine WP_goto 34 dX10_price_29 rfl ?_
      exact WP_sub (fc rfl (fc rfl (fc rfl fn))) (jn34_3185 v3195 (by omega) (by omega))
set_option maxHeartbeats 4000000 in
set_option maxRecDepth 100000 in
theorem sx_made_6 {g : GG} {n : Int} {L : Int32} (hy : LyX g)  {I : pI} {J : pJ} {R : pR} (hr : RfX g R) (hT : R (ad g 5) 0 = some (ad g 6)) (hI : XI g n L I) (a : Int32) (b : Int32)  : SP g mX10_made [.ref (ad g 0), .int a, .int b] I J R (fun r I' J' R' => (I' = I ∧ J' = J ∧ R' = R) ∧ ∃ v : Int32, r = some (.int v)) := by
  refine SP_of ⟨by decide, rfl⟩ (Nat.le_of_ble_eq_true rfl) ?_
  have e3196 : I (ad g 1) 1 = L := hI.2
  have b3197 := BT_get hI.1 1 1 2 (0) (0) (900) (by decide) 1 (by decide) (by decide)
  rw [e3196] at b3197
  refine WP_aload_n dX10_made_0 rfl ?_
  refine WP_iload_n dX10_made_1 rfl ?_
  refine WP_callV1 (k := 10) dX10_made_2 ⟨⟨⟨by decide, by decide⟩, zX10_isThing⟩, lX10_162, by decide, rfl, vX10_isThing.1, vX10_isThing.2⟩ (lyx_is hy 0 10 rfl) (sx_isThing_6 hy hr hT hI a ) (Nat.le_of_ble_eq_true rfl) ?_
  intro r Ia Ja Ra hq
  obtain ⟨⟨ea, eb, ec⟩, v3198, rfl, av3198, bv3198, cv3198⟩ := hq
  show WP _ _ _ _ (.int _ :: _) _ _ _ _
  rw [ea, eb, ec]
  clear ea eb ec Ia Ja Ra
  have jn37_3207 : ∀ (v3207 : Int32), -2 ≤ v3207.toInt → v3207.toInt ≤ 999 → WP g mX10_made 37 [(0, .ref (ad g 0)), (1, .int a), (2, .int b)] [.int v3207] I J R (fun r I' J' R' => (I' = I ∧ J' = J ∧ R' = R) ∧ ∃ v : Int32, r = some (.int v)) := by
    intro v3207 av3207 bv3207
    exact WP_iret dX10_made_37 rfl ⟨⟨rfl, rfl, rfl⟩, _, rfl⟩
  refine WQ_if_eq 35 dX10_made_5 rfl (fun c3208 => ?_) (fun c3208 => ?_)
  · refine WQ_bipush (-2) (-2) dX10_made_35 rfl rfl (fun v3210 hv3210 => ?_)
    exact WP_sub (fc rfl (fc rfl (fc rfl fn))) (jn37_3207 v3210 (by omega) (by omega))
  · refine WP_iload_n dX10_made_8 rfl ?_
    refine WP_callS1 dX10_made_9 ⟨⟨⟨by decide, by decide⟩, zX10_isDay⟩, lX10_156, tX10_isDay⟩ (sx_isDay hy hr hI b ) (Nat.le_of_ble_eq_true rfl) ?_
    intro r Ia Ja Ra hq
    obtain ⟨⟨ea, eb, ec⟩, v3211, rfl, av3211, bv3211, cv3211⟩ := hq
    show WP _ _ _ _ (.int _ :: _) _ _ _ _
    rw [ea, eb, ec]
    clear ea eb ec Ia Ja Ra
    refine WQ_if_eq 35 dX10_made_12 rfl (fun c3211 => ?_) (fun c3211 => ?_)
    · refine WQ_bipush (-2) (-2) dX10_made_35 rfl rfl (fun v3213 hv3213 => ?_)
      exact WP_sub (fc rfl (fc rfl (fc rfl fn))) (jn37_3207 v3213 (by omega) (by omega))
    · refine WP_aload_n dX10_made_15 rfl ?_
      refine WP_getr dX10_made_16 fX10_33 rfl (lyx_is hy 0 10 rfl) (rfx hr 0 2 5 (by decide)) ?_
      refine WP_getr dX10_made_19 fX10_102 rfl (lyx_is hy 5 0 rfl) hT ?_
      refine WP_getr dX10_made_22 fX10_168 rfl (lyx_is hy 6 7 rfl) (rfx hr 6 17 19 (by decide)) ?_
      refine WP_iload_n dX10_made_25 rfl ?_
      refine WQ_bipush (7) (7) dX10_made_26 rfl rfl (fun v3214 hv3214 => ?_)
      refine WQ_imulk (7) dX10_made_28 hv3214 (by omega) (by omega) (fun v3215 hv3215 => ?_)
      refine WP_iload_n dX10_made_29 rfl ?_
      refine WQ_iadd dX10_made_30 (by omega) (by omega) (fun v3216 hv3216 => ?_)
      refine WQ_iald dX10_made_31 (lyx_is hy 19 13 rfl) (lyx_n hy 19 21 rfl) (by omega) (by omega) (fun q hq => BT_get hI.1 19 0 21 (-1) (0) (999) (by decide) q (Nat.zero_le _) hq) (fun v3217 av3217 bv3217 ev3217 => ?_)
      clear ev3217
      refine WP_goto 37 dX10_made_32 rfl ?_
      exact WP_sub (fc rfl (fc rfl (fc rfl fn))) (jn37_3207 v3217 (by omega) (by omega))
set_option maxHeartbeats 4000000 in
set_option maxRecDepth 100000 in
theorem sx_wants_6 {g : GG} {n : Int} {L : Int32} (hy : LyX g)  {I : pI} {J : pJ} {R : pR} (hr : RfX g R) (hT : R (ad g 5) 0 = some (ad g 6)) (hI : XI g n L I) (a : Int32) (b : Int32) (c : Int32)  : SP g mX10_wants [.ref (ad g 0), .int a, .int b, .int c] I J R (fun r I' J' R' => (I' = I ∧ J' = J ∧ R' = R) ∧ ∃ v : Int32, r = some (.int v)) := by
  refine SP_of ⟨by decide, rfl⟩ (Nat.le_of_ble_eq_true rfl) ?_
  have e3218 : I (ad g 1) 1 = L := hI.2
  have b3219 := BT_get hI.1 1 1 2 (0) (0) (900) (by decide) 1 (by decide) (by decide)
  rw [e3218] at b3219
  refine WP_aload_n dX10_wants_0 rfl ?_
  refine WP_iload_n dX10_wants_1 rfl ?_
  refine WP_callV1 (k := 10) dX10_wants_2 ⟨⟨⟨by decide, by decide⟩, zX10_isSort⟩, lX10_152, by decide, rfl, vX10_isSort.1, vX10_isSort.2⟩ (lyx_is hy 0 10 rfl) (sx_isSort_6 hy hr hT hI a ) (Nat.le_of_ble_eq_true rfl) ?_
  intro r Ia Ja Ra hq
  obtain ⟨⟨ea, eb, ec⟩, v3220, rfl, av3220, bv3220, cv3220⟩ := hq
  show WP _ _ _ _ (.int _ :: _) _ _ _ _
  rw [ea, eb, ec]
  clear ea eb ec Ia Ja Ra
  refine WQ_if_eq 15 dX10_wants_5 rfl (fun c3220 => ?_) (fun c3220 => ?_)
  · refine WQ_bipush (-2) (-2) dX10_wants_15 rfl rfl (fun v3222 hv3222 => ?_)
    exact WP_iret dX10_wants_17 rfl ⟨⟨rfl, rfl, rfl⟩, _, rfl⟩
  · refine WP_iload_n dX10_wants_8 rfl ?_
    refine WP_callS1 dX10_wants_9 ⟨⟨⟨by decide, by decide⟩, zX10_isDay⟩, lX10_156, tX10_isDay⟩ (sx_isDay hy hr hI b ) (Nat.le_of_ble_eq_true rfl) ?_
    intro r Ia Ja Ra hq
    obtain ⟨⟨ea, eb, ec⟩, v3223, rfl, av3223, bv3223, cv3223⟩ := hq
    show WP _ _ _ _ (.int _ :: _) _ _ _ _
    rw [ea, eb, ec]
    clear ea eb ec Ia Ja Ra
    refine WQ_if_ne 18 dX10_wants_12 rfl (fun c3223 => ?_) (fun c3223 => ?_)
    · refine WP_iload_n dX10_wants_18 rfl ?_
      refine WQ_bipush (7) (7) dX10_wants_19 rfl rfl (fun v3225 hv3225 => ?_)
      refine WQ_imulk (7) dX10_wants_21 hv3225 (by omega) (by omega) (fun v3226 hv3226 => ?_)
      refine WP_iload_n dX10_wants_22 rfl ?_
      refine WQ_iadd dX10_wants_23 (by omega) (by omega) (fun v3227 hv3227 => ?_)
      refine WP_istore (ls' := [(0, _), (1, _), (2, _), (3, _), (4, _)]) dX10_wants_24 (by decide) rfl ?_
      refine WP_iload_n dX10_wants_26 rfl ?_
      refine WP_tab 94 dX10_wants_27 rfl rfl (fun c3227 => ?_) (fun j off c3227 hj => ?_) (by decide)
      · refine WQ_bipush (-2) (-2) dX10_wants_94 rfl rfl (fun v3229 hv3229 => ?_)
        exact WP_iret dX10_wants_96 rfl ⟨⟨rfl, rfl, rfl⟩, _, rfl⟩
      · have hlt : j < 3 := by have := (Array.getElem?_eq_some_iff.mp hj).1; simpa using this
        have hcs : (j = 0 ∧ off = 25) ∨ (j = 1 ∧ off = 39) ∨ (j = 2 ∧ off = 53) := by
          match j, hlt, hj with
          | 0, _, hj => exact Or.inl ⟨rfl, (Option.some.inj hj).symm⟩
          | 1, _, hj => exact Or.inr (Or.inl ⟨rfl, (Option.some.inj hj).symm⟩)
          | 2, _, hj => exact Or.inr (Or.inr (⟨rfl, (Option.some.inj hj).symm⟩))
        clear hj hlt
        rcases hcs with ⟨rfl, rfl⟩ | ⟨rfl, rfl⟩ | ⟨rfl, rfl⟩
        · show WP _ _ 52 _ _ _ _ _ _
          refine WP_aload_n dX10_wants_52 rfl ?_
          refine WP_getr dX10_wants_53 fX10_33 rfl (lyx_is hy 0 10 rfl) (rfx hr 0 2 5 (by decide)) ?_
          refine WP_getr dX10_wants_56 fX10_102 rfl (lyx_is hy 5 0 rfl) hT ?_
          refine WP_getr dX10_wants_59 fX10_171 rfl (lyx_is hy 6 7 rfl) (rfx hr 6 11 13 (by decide)) ?_
          refine WP_iload dX10_wants_62 rfl ?_
          refine WQ_iald dX10_wants_64 (lyx_is hy 13 13 rfl) (lyx_n hy 13 28 rfl) (by omega) (by omega) (fun q hq => BT_get hI.1 13 0 28 (-1) (0) (2) (by decide) q (Nat.zero_le _) hq) (fun v3230 av3230 bv3230 ev3230 => ?_)
          clear ev3230
          exact WP_iret dX10_wants_65 rfl ⟨⟨rfl, rfl, rfl⟩, _, rfl⟩
        · show WP _ _ 66 _ _ _ _ _ _
          refine WP_aload_n dX10_wants_66 rfl ?_
          refine WP_getr dX10_wants_67 fX10_33 rfl (lyx_is hy 0 10 rfl) (rfx hr 0 2 5 (by decide)) ?_
          refine WP_getr dX10_wants_70 fX10_102 rfl (lyx_is hy 5 0 rfl) hT ?_
          refine WP_getr dX10_wants_73 fX10_174 rfl (lyx_is hy 6 7 rfl) (rfx hr 6 12 14 (by decide)) ?_
          refine WP_iload dX10_wants_76 rfl ?_
          refine WQ_iald dX10_wants_78 (lyx_is hy 14 13 rfl) (lyx_n hy 14 28 rfl) (by omega) (by omega) (fun q hq => BT_get hI.1 14 0 28 (0) (0) (3) (by decide) q (Nat.zero_le _) hq) (fun v3231 av3231 bv3231 ev3231 => ?_)
          clear ev3231
          exact WP_iret dX10_wants_79 rfl ⟨⟨rfl, rfl, rfl⟩, _, rfl⟩
        · show WP _ _ 80 _ _ _ _ _ _
          refine WP_aload_n dX10_wants_80 rfl ?_
          refine WP_getr dX10_wants_81 fX10_33 rfl (lyx_is hy 0 10 rfl) (rfx hr 0 2 5 (by decide)) ?_
          refine WP_getr dX10_wants_84 fX10_102 rfl (lyx_is hy 5 0 rfl) hT ?_
          refine WP_getr dX10_wants_87 fX10_177 rfl (lyx_is hy 6 7 rfl) (rfx hr 6 13 15 (by decide)) ?_
          refine WP_iload dX10_wants_90 rfl ?_
          refine WQ_iald dX10_wants_92 (lyx_is hy 15 13 rfl) (lyx_n hy 15 28 rfl) (by omega) (by omega) (fun q hq => BT_get hI.1 15 0 28 (0) (0) (99) (by decide) q (Nat.zero_le _) hq) (fun v3232 av3232 bv3232 ev3232 => ?_)
          clear ev3232
          exact WP_iret dX10_wants_93 rfl ⟨⟨rfl, rfl, rfl⟩, _, rfl⟩
    · refine WQ_bipush (-2) (-2) dX10_wants_15 rfl rfl (fun v3233 hv3233 => ?_)
      exact WP_iret dX10_wants_17 rfl ⟨⟨rfl, rfl, rfl⟩, _, rfl⟩
set_option maxHeartbeats 4000000 in
set_option maxRecDepth 100000 in
theorem sx_night_6 {g : GG} {n : Int} {L : Int32} (hy : LyX g)  {I : pI} {J : pJ} {R : pR} (hr : RfX g R) (hT : R (ad g 5) 0 = some (ad g 6)) (hI : XI g n L I) (a : Int32) (b : Int32) (c : Int32)  : SP g mX10_night [.ref (ad g 0), .int a, .int b, .int c] I J R (fun r I' J' R' => (I' = I ∧ J' = J ∧ R' = R) ∧ ∃ v : Int32, r = some (.int v)) := by
  refine SP_of ⟨by decide, rfl⟩ (Nat.le_of_ble_eq_true rfl) ?_
  have e3234 : I (ad g 1) 1 = L := hI.2
  have b3235 := BT_get hI.1 1 1 2 (0) (0) (900) (by decide) 1 (by decide) (by decide)
  rw [e3234] at b3235
  refine WP_iload_n dX10_night_0 rfl ?_
  refine WP_iload_n dX10_night_1 rfl ?_
  refine WP_callS2 dX10_night_2 ⟨⟨⟨by decide, by decide⟩, zX10_isHeld⟩, lX10_180, tX10_isHeld⟩ (sx_isHeld hy hr hI a b  ) (Nat.le_of_ble_eq_true rfl) ?_
  intro r Ia Ja Ra hq
  obtain ⟨⟨ea, eb, ec⟩, v3236, rfl, av3236, bv3236, cv3236⟩ := hq
  show WP _ _ _ _ (.int _ :: _) _ _ _ _
  rw [ea, eb, ec]
  clear ea eb ec Ia Ja Ra
  refine WQ_if_eq 32 dX10_night_5 rfl (fun c3236 => ?_) (fun c3236 => ?_)
  · refine WQ_bipush (-2) (-2) dX10_night_32 rfl rfl (fun v3238 hv3238 => ?_)
    exact WP_iret dX10_night_34 rfl ⟨⟨rfl, rfl, rfl⟩, _, rfl⟩
  · refine WP_iload_n dX10_night_8 rfl ?_
    refine WP_callS1 dX10_night_9 ⟨⟨⟨by decide, by decide⟩, zX10_isDay⟩, lX10_156, tX10_isDay⟩ (sx_isDay hy hr hI c ) (Nat.le_of_ble_eq_true rfl) ?_
    intro r Ia Ja Ra hq
    obtain ⟨⟨ea, eb, ec⟩, v3239, rfl, av3239, bv3239, cv3239⟩ := hq
    show WP _ _ _ _ (.int _ :: _) _ _ _ _
    rw [ea, eb, ec]
    clear ea eb ec Ia Ja Ra
    refine WQ_if_eq 32 dX10_night_12 rfl (fun c3239 => ?_) (fun c3239 => ?_)
    · refine WQ_bipush (-2) (-2) dX10_night_32 rfl rfl (fun v3241 hv3241 => ?_)
      exact WP_iret dX10_night_34 rfl ⟨⟨rfl, rfl, rfl⟩, _, rfl⟩
    · refine WP_aload_n dX10_night_15 rfl ?_
      refine WP_getr dX10_night_16 fX10_33 rfl (lyx_is hy 0 10 rfl) (rfx hr 0 2 5 (by decide)) ?_
      refine WP_getr dX10_night_19 fX10_102 rfl (lyx_is hy 5 0 rfl) hT ?_
      refine WQ_geti dX10_night_22 fX10_117 rfl (lyx_is hy 6 7 rfl) (BT_get hI.1 6 2 3 (0) (0) (3) (by decide) 2 (by decide) (by decide)) (fun v3242 ev3242 av3242 bv3242 => ?_)
      refine WQ_if_ne 35 dX10_night_25 rfl (fun c3242 => ?_) (fun c3242 => ?_)
      · refine WP_aload_n dX10_night_35 rfl ?_
        refine WP_getr dX10_night_36 fX10_33 rfl (lyx_is hy 0 10 rfl) (rfx hr 0 2 5 (by decide)) ?_
        refine WP_iload_n dX10_night_39 rfl ?_
        refine WP_iload_n dX10_night_40 rfl ?_
        refine WP_iload_n dX10_night_41 rfl ?_
        refine WP_callV3 (k := 0) dX10_night_42 ⟨⟨⟨by decide, by decide⟩, zX0_coinsBehind⟩, lX10_184, by decide, rfl, vX0_coinsBehind.1, vX0_coinsBehind.2⟩ (lyx_is hy 5 0 rfl) (sx_coinsBehind hy hr hI a b c (by omega) (by omega) (by omega) (by omega) (by omega) (by omega)) (Nat.le_of_ble_eq_true rfl) ?_
        intro r Ia Ja Ra hq
        obtain ⟨⟨ea, eb, ec⟩, v3244, rfl, av3244, bv3244⟩ := hq
        show WP _ _ _ _ (.int _ :: _) _ _ _ _
        rw [ea, eb, ec]
        clear ea eb ec Ia Ja Ra
        exact WP_iret dX10_night_45 rfl ⟨⟨rfl, rfl, rfl⟩, _, rfl⟩
      · refine WP_iload_n dX10_night_28 rfl ?_
        refine WQ_if_le 35 dX10_night_29 rfl (fun c3244 => ?_) (fun c3244 => ?_)
        · refine WP_aload_n dX10_night_35 rfl ?_
          refine WP_getr dX10_night_36 fX10_33 rfl (lyx_is hy 0 10 rfl) (rfx hr 0 2 5 (by decide)) ?_
          refine WP_iload_n dX10_night_39 rfl ?_
          refine WP_iload_n dX10_night_40 rfl ?_
          refine WP_iload_n dX10_night_41 rfl ?_
          refine WP_callV3 (k := 0) dX10_night_42 ⟨⟨⟨by decide, by decide⟩, zX0_coinsBehind⟩, lX10_184, by decide, rfl, vX0_coinsBehind.1, vX0_coinsBehind.2⟩ (lyx_is hy 5 0 rfl) (sx_coinsBehind hy hr hI a b c (by omega) (by omega) (by omega) (by omega) (by omega) (by omega)) (Nat.le_of_ble_eq_true rfl) ?_
          intro r Ia Ja Ra hq
          obtain ⟨⟨ea, eb, ec⟩, v3246, rfl, av3246, bv3246⟩ := hq
          show WP _ _ _ _ (.int _ :: _) _ _ _ _
          rw [ea, eb, ec]
          clear ea eb ec Ia Ja Ra
          exact WP_iret dX10_night_45 rfl ⟨⟨rfl, rfl, rfl⟩, _, rfl⟩
        · refine WQ_bipush (-2) (-2) dX10_night_32 rfl rfl (fun v3247 hv3247 => ?_)
          exact WP_iret dX10_night_34 rfl ⟨⟨rfl, rfl, rfl⟩, _, rfl⟩
set_option maxHeartbeats 4000000 in
set_option maxRecDepth 100000 in
theorem sx_count_6 {g : GG} {n : Int} {L : Int32} (hy : LyX g)  {I : pI} {J : pJ} {R : pR} (hr : RfX g R) (hT : R (ad g 5) 0 = some (ad g 6)) (hI : XI g n L I) (a : Int32)  : SP g mX10_count [.ref (ad g 0), .int a] I J R (fun r I' J' R' => (I' = I ∧ J' = J ∧ R' = R) ∧ ∃ v : Int32, r = some (.int v)) := by
  refine SP_of ⟨by decide, rfl⟩ (Nat.le_of_ble_eq_true rfl) ?_
  have e3248 : I (ad g 1) 1 = L := hI.2
  have b3249 := BT_get hI.1 1 1 2 (0) (0) (900) (by decide) 1 (by decide) (by decide)
  rw [e3248] at b3249
  refine WP_iload_n dX10_count_0 rfl ?_
  have jn33_3253 : ∀ (v3253 : Int32), WP g mX10_count 33 [(0, .ref (ad g 0)), (1, .int a)] [.int v3253] I J R (fun r I' J' R' => (I' = I ∧ J' = J ∧ R' = R) ∧ ∃ v : Int32, r = some (.int v)) := by
    intro v3253 
    exact WP_iret dX10_count_33 rfl ⟨⟨rfl, rfl, rfl⟩, _, rfl⟩
  refine WX_if_ne 17 dX10_count_1 rfl ?_ ?_
  · refine WP_iload_n dX10_count_17 rfl ?_
    refine WQ_iconst (1) (1) dX10_count_18 rfl rfl (fun v3255 hv3255 => ?_)
    refine WX_icmp_ne 32 dX10_count_19 rfl ?_ ?_
    · refine WQ_iconst (-1) (-1) dX10_count_32 rfl rfl (fun v3256 hv3256 => ?_)
      exact WP_sub (fc rfl (fc rfl fn)) (jn33_3253 v3256)
    · refine WP_aload_n dX10_count_22 rfl ?_
      refine WP_getr dX10_count_23 fX10_12 rfl (lyx_is hy 0 10 rfl) (rfx hr 0 0 1 (by decide)) ?_
      refine WQ_getim dX10_count_26 fX10_90 rfl (lyx_is hy 1 5 rfl) e3248 ?_
      refine WP_goto 33 dX10_count_29 rfl ?_
      exact WP_sub (fc rfl (fc rfl fn)) (jn33_3253 L)
  · refine WP_aload_n dX10_count_4 rfl ?_
    refine WP_getr dX10_count_5 fX10_33 rfl (lyx_is hy 0 10 rfl) (rfx hr 0 2 5 (by decide)) ?_
    refine WP_getr dX10_count_8 fX10_102 rfl (lyx_is hy 5 0 rfl) hT ?_
    refine WQ_getiu dX10_count_11 fX10_105 rfl (lyx_is hy 6 7 rfl) (fun v3257 ev3257 => ?_)
    refine WP_goto 33 dX10_count_14 rfl ?_
    exact WP_sub (fc rfl (fc rfl fn)) (jn33_3253 v3257)
set_option maxHeartbeats 4000000 in
set_option maxRecDepth 100000 in
theorem sx_way_6 {g : GG} {n : Int} {L : Int32} (hy : LyX g)  {I : pI} {J : pJ} {R : pR} (hr : RfX g R) (hT : R (ad g 5) 0 = some (ad g 6)) (hI : XI g n L I) (a : Int32) (b : Int32)  : SP g mX10_way [.ref (ad g 0), .int a, .int b] I J R (fun r I' J' R' => (XI g n L I' ∧ R' = R ∧ fz 74 g [54] I I' ∧ fz 74 g [] J J') ∧ ∃ v : Int32, r = some (.int v)) := by
  refine SP_of ⟨by decide, rfl⟩ (Nat.le_of_ble_eq_true rfl) ?_
  have e3258 : I (ad g 1) 1 = L := hI.2
  have b3259 := BT_get hI.1 1 1 2 (0) (0) (900) (by decide) 1 (by decide) (by decide)
  rw [e3258] at b3259
  have fr0 : fz 74 g [54] I I := fz_rf
  have frj0 : fz 74 g [] J J := fz_rf
  refine WP_aload_n dX10_way_0 rfl ?_
  refine WP_iload_n dX10_way_1 rfl ?_
  refine WP_callV1 (k := 10) dX10_way_2 ⟨⟨⟨by decide, by decide⟩, zX10_isSort⟩, lX10_152, by decide, rfl, vX10_isSort.1, vX10_isSort.2⟩ (lyx_is hy 0 10 rfl) (sx_isSort_6 hy hr hT hI a ) (Nat.le_of_ble_eq_true rfl) ?_
  intro r Ia Ja Ra hq
  obtain ⟨⟨ea, eb, ec⟩, v3260, rfl, av3260, bv3260, cv3260⟩ := hq
  show WP _ _ _ _ (.int _ :: _) _ _ _ _
  rw [ea, eb, ec]
  clear ea eb ec Ia Ja Ra
  refine WQ_if_eq 15 dX10_way_5 rfl (fun c3260 => ?_) (fun c3260 => ?_)
  · refine WQ_bipush (-2) (-2) dX10_way_15 rfl rfl (fun v3262 hv3262 => ?_)
    exact WP_iret dX10_way_17 rfl ⟨⟨hI, rfl, fr0, frj0⟩, _, rfl⟩
  · refine WP_iload_n dX10_way_8 rfl ?_
    refine WP_callS1 dX10_way_9 ⟨⟨⟨by decide, by decide⟩, zX10_isWay⟩, lX10_219, tX10_isWay⟩ (sx_isWay hy hr hI b ) (Nat.le_of_ble_eq_true rfl) ?_
    intro r Ia Ja Ra hq
    obtain ⟨⟨ea, eb, ec⟩, v3263, rfl, av3263, bv3263, cv3263⟩ := hq
    show WP _ _ _ _ (.int _ :: _) _ _ _ _
    rw [ea, eb, ec]
    clear ea eb ec Ia Ja Ra
    refine WQ_if_ne 18 dX10_way_12 rfl (fun c3263 => ?_) (fun c3263 => ?_)
    · refine WP_aload_n dX10_way_18 rfl ?_
      refine WP_getr dX10_way_19 fX10_62 rfl (lyx_is hy 0 10 rfl) (rfx hr 0 5 53 (by decide)) ?_
      refine WP_getr dX10_way_22 fX10_225 rfl (lyx_is hy 53 4 rfl) (rfx hr 53 4 54 (by decide)) ?_
      refine WP_iload_n dX10_way_25 rfl ?_
      refine WQ_ialdu dX10_way_26 (lyx_is hy 54 13 rfl) (lyx_n hy 54 4 rfl) (by omega) (by omega) (fun v3265 => ?_)
      refine WP_istore_n (ls' := [(0, _), (1, _), (2, _), (3, _)]) dX10_way_27 (by decide) rfl ?_
      refine WP_aload_n dX10_way_28 rfl ?_
      refine WP_getr dX10_way_29 fX10_62 rfl (lyx_is hy 0 10 rfl) (rfx hr 0 5 53 (by decide)) ?_
      refine WP_getr dX10_way_32 fX10_225 rfl (lyx_is hy 53 4 rfl) (rfx hr 53 4 54 (by decide)) ?_
      refine WP_iload_n dX10_way_35 rfl ?_
      refine WP_iload_n dX10_way_36 rfl ?_
      refine WQ_iast dX10_way_37 (lyx_is hy 54 13 rfl) (lyx_n hy 54 4 rfl) (by omega) (by omega) (fun I3266 eI3266 => ?_)
      have hI3266 : XI g n L I3266 := by rw [eI3266]; exact (xi_r0 hy hI (c := 54) (by decide) (Or.inl (by decide)) (by decide))
      have e3267 : I3266 (ad g 1) 1 = L := by rw [eI3266, pp_ne _ _ (Or.inl (lyx_ne hy (by decide) (by decide) (by decide)))]; exact e3258
      have fr3268 : fz 74 g [54] I I3266 := by rw [eI3266]; exact fzx_pp hy fr0 (by decide) (by decide)
      clear eI3266
      refine WP_iload_n dX10_way_38 rfl ?_
      exact WP_iret dX10_way_39 rfl ⟨⟨hI3266, rfl, fr3268, frj0⟩, _, rfl⟩
    · refine WQ_bipush (-2) (-2) dX10_way_15 rfl rfl (fun v3269 hv3269 => ?_)
      exact WP_iret dX10_way_17 rfl ⟨⟨hI, rfl, fr0, frj0⟩, _, rfl⟩
set_option maxHeartbeats 4000000 in
set_option maxRecDepth 100000 in
theorem sx_run_6 {g : GG} {n : Int} {L : Int32} (hy : LyX g)  {I : pI} {J : pJ} {R : pR} (hr : RfX g R) (hT : R (ad g 5) 0 = some (ad g 6)) (hI : XI g n L I) (a : Int32) (b : Int32)  : SP g mX10_run [.ref (ad g 0), .int a, .int b] I J R (fun r I' J' R' => (I' = I ∧ J' = J ∧ R' = R) ∧ ∃ v : Int32, r = some (.int v)) := by
  refine SP_of ⟨by decide, rfl⟩ (Nat.le_of_ble_eq_true rfl) ?_
  have e3270 : I (ad g 1) 1 = L := hI.2
  have b3271 := BT_get hI.1 1 1 2 (0) (0) (900) (by decide) 1 (by decide) (by decide)
  rw [e3270] at b3271
  refine WP_aload_n dX10_run_0 rfl ?_
  refine WP_iload_n dX10_run_1 rfl ?_
  refine WP_callV1 (k := 10) dX10_run_2 ⟨⟨⟨by decide, by decide⟩, zX10_isSort⟩, lX10_152, by decide, rfl, vX10_isSort.1, vX10_isSort.2⟩ (lyx_is hy 0 10 rfl) (sx_isSort_6 hy hr hT hI a ) (Nat.le_of_ble_eq_true rfl) ?_
  intro r Ia Ja Ra hq
  obtain ⟨⟨ea, eb, ec⟩, v3272, rfl, av3272, bv3272, cv3272⟩ := hq
  show WP _ _ _ _ (.int _ :: _) _ _ _ _
  rw [ea, eb, ec]
  clear ea eb ec Ia Ja Ra
  refine WQ_if_eq 18 dX10_run_5 rfl (fun c3272 => ?_) (fun c3272 => ?_)
  · refine WQ_bipush (-2) (-2) dX10_run_18 rfl rfl (fun v3274 hv3274 => ?_)
    exact WP_iret dX10_run_20 rfl ⟨⟨rfl, rfl, rfl⟩, _, rfl⟩
  · refine WP_iload_n dX10_run_8 rfl ?_
    refine WQ_if_lt 18 dX10_run_9 rfl (fun c3274 => ?_) (fun c3274 => ?_)
    · refine WQ_bipush (-2) (-2) dX10_run_18 rfl rfl (fun v3276 hv3276 => ?_)
      exact WP_iret dX10_run_20 rfl ⟨⟨rfl, rfl, rfl⟩, _, rfl⟩
    · refine WP_iload_n dX10_run_12 rfl ?_
      refine WQ_bipush (7) (7) dX10_run_13 rfl rfl (fun v3277 hv3277 => ?_)
      refine WQ_icmp_lt 21 dX10_run_15 rfl (fun c3277 => ?_) (fun c3277 => ?_)
      · refine WP_aload_n dX10_run_21 rfl ?_
        refine WP_getr dX10_run_22 fX10_62 rfl (lyx_is hy 0 10 rfl) (rfx hr 0 5 53 (by decide)) ?_
        refine WP_getr dX10_run_25 fX10_235 rfl (lyx_is hy 53 4 rfl) (rfx hr 53 5 55 (by decide)) ?_
        refine WP_iload_n dX10_run_28 rfl ?_
        refine WQ_bipush (7) (7) dX10_run_29 rfl rfl (fun v3279 hv3279 => ?_)
        refine WQ_imulk (7) dX10_run_31 hv3279 (by omega) (by omega) (fun v3280 hv3280 => ?_)
        refine WP_iload_n dX10_run_32 rfl ?_
        refine WQ_iadd dX10_run_33 (by omega) (by omega) (fun v3281 hv3281 => ?_)
        refine WQ_ialdu dX10_run_34 (lyx_is hy 55 13 rfl) (lyx_n hy 55 28 rfl) (by omega) (by omega) (fun v3282 => ?_)
        exact WP_iret dX10_run_35 rfl ⟨⟨rfl, rfl, rfl⟩, _, rfl⟩
      · refine WQ_bipush (-2) (-2) dX10_run_18 rfl rfl (fun v3283 hv3283 => ?_)
        exact WP_iret dX10_run_20 rfl ⟨⟨rfl, rfl, rfl⟩, _, rfl⟩
set_option maxHeartbeats 4000000 in
set_option maxRecDepth 100000 in
theorem sx_anew_6 {g : GG} {n : Int} {L : Int32} (hy : LyX g)  {I : pI} {J : pJ} {R : pR} (hr : RfX g R) (hT : R (ad g 5) 0 = some (ad g 6)) (hI : XI g n L I)   (hn : 0 ≤ n) : SP g mX10_anew [.ref (ad g 0)] I J R (fun r I' J' R' => (XI g n L I' ∧ R' = R ∧ fz 74 g [53, 55] I I' ∧ fz 74 g [53] J J') ∧ ∃ v : Int32, r = some (.int v)) := by
  refine SP_of ⟨by decide, rfl⟩ (Nat.le_of_ble_eq_true rfl) ?_
  have e3284 : I (ad g 1) 1 = L := hI.2
  have b3285 := BT_get hI.1 1 1 2 (0) (0) (900) (by decide) 1 (by decide) (by decide)
  rw [e3284] at b3285
  have fr0 : fz 74 g [53, 55] I I := fz_rf
  have frj0 : fz 74 g [53] J J := fz_rf
  refine WP_aload_n dX10_anew_0 rfl ?_
  refine WP_getr dX10_anew_1 fX10_62 rfl (lyx_is hy 0 10 rfl) (rfx hr 0 5 53 (by decide)) ?_
  refine WQ_getiu dX10_anew_4 fX10_232 rfl (lyx_is hy 53 4 rfl) (fun v3286 ev3286 => ?_)
  refine WP_istore_n (ls' := [(0, _), (1, _)]) dX10_anew_7 (by decide) rfl ?_
  refine WP_aload_n dX10_anew_8 rfl ?_
  refine WP_getr dX10_anew_9 fX10_62 rfl (lyx_is hy 0 10 rfl) (rfx hr 0 5 53 (by decide)) ?_
  refine WP_aload_n dX10_anew_12 rfl ?_
  refine WP_getr dX10_anew_13 fX10_33 rfl (lyx_is hy 0 10 rfl) (rfx hr 0 2 5 (by decide)) ?_
  refine WP_getr dX10_anew_16 fX10_102 rfl (lyx_is hy 5 0 rfl) hT ?_
  refine WP_callV1 (k := 4) dX10_anew_19 ⟨⟨⟨by decide, by decide⟩, zX4_begin⟩, lX10_246, by decide, rfl, vX4_begin.1, vX4_begin.2⟩ (lyx_is hy 53 4 rfl) (sx_begin_53_6 hy hr hI   (by omega)) (Nat.le_of_ble_eq_true rfl) ?_
  intro r I3287 J3288 Ra hq
  obtain ⟨⟨hI3287, ec, fiI3287, fjI3287⟩, rfl⟩ := hq
  rw [ec]
  clear ec Ra
  have fr3289 : fz 74 g [53, 55] I I3287 := fz_tr fr0 (fz_mono fiI3287 (by decide))
  have fr3290 : fz 74 g [53] J J3288 := fz_tr frj0 (fz_mono fjI3287 (by decide))
  have e3291 : I3287 (ad g 1) 1 = L := hI3287.2
  have b3292 := BT_get hI3287.1 1 1 2 (0) (0) (900) (by decide) 1 (by decide) (by decide)
  rw [e3291] at b3292
  refine WP_iload_n dX10_anew_22 rfl ?_
  exact WP_iret dX10_anew_23 rfl ⟨⟨hI3287, rfl, fr3289, fr3290⟩, _, rfl⟩
set_option maxHeartbeats 4000000 in
set_option maxRecDepth 100000 in
theorem sx_settle_6 {g : GG} {n : Int} {L : Int32} (hy : LyX g)  {I : pI} {J : pJ} {R : pR} (hr : RfX g R) (hT : R (ad g 5) 0 = some (ad g 6)) (hI : XI g n L I)   (hn : 0 ≤ n) : SP g mX10_settle [.ref (ad g 0)] I J R (fun r I' J' R' => (XI g n L I' ∧ R' = R ∧ fz 74 g [0, 22, 23, 24, 25, 26, 53, 54, 55, 60, 63, 66, 73] I I' ∧ fz 74 g [53] J J') ∧ r = none) := by
  refine SP_of ⟨by decide, rfl⟩ (Nat.le_of_ble_eq_true rfl) ?_
  have e3293 : I (ad g 1) 1 = L := hI.2
  have b3294 := BT_get hI.1 1 1 2 (0) (0) (900) (by decide) 1 (by decide) (by decide)
  rw [e3293] at b3294
  have fr0 : fz 74 g [0, 22, 23, 24, 25, 26, 53, 54, 55, 60, 63, 66, 73] I I := fz_rf
  have frj0 : fz 74 g [53] J J := fz_rf
  refine WP_aload_n dX10_settle_0 rfl ?_
  refine WP_getr dX10_settle_1 fX10_33 rfl (lyx_is hy 0 10 rfl) (rfx hr 0 2 5 (by decide)) ?_
  refine WP_callV0 (k := 0) dX10_settle_4 ⟨⟨⟨by decide, by decide⟩, zX0_open⟩, lX10_332, by decide, rfl, vX0_open.1, vX0_open.2⟩ (lyx_is hy 5 0 rfl) (sx_open_6 hy hr hT hI  ) (Nat.le_of_ble_eq_true rfl) ?_
  intro r I3295 J3296 Ra hq
  obtain ⟨⟨hI3295, ec, fiI3295, fjI3295⟩, rfl⟩ := hq
  rw [ec]
  clear ec Ra
  have fr3297 : fz 74 g [0, 22, 23, 24, 25, 26, 53, 54, 55, 60, 63, 66, 73] I I3295 := fz_tr fr0 (fz_mono fiI3295 (by decide))
  have fr3298 : fz 74 g [53] J J3296 := fz_tr frj0 (fz_mono fjI3295 (by decide))
  have e3299 : I3295 (ad g 1) 1 = L := hI3295.2
  have b3300 := BT_get hI3295.1 1 1 2 (0) (0) (900) (by decide) 1 (by decide) (by decide)
  rw [e3299] at b3300
  refine WP_aload_n dX10_settle_7 rfl ?_
  refine WP_getr dX10_settle_8 fX10_62 rfl (lyx_is hy 0 10 rfl) (rfx hr 0 5 53 (by decide)) ?_
  refine WP_aload_n dX10_settle_11 rfl ?_
  refine WP_getr dX10_settle_12 fX10_33 rfl (lyx_is hy 0 10 rfl) (rfx hr 0 2 5 (by decide)) ?_
  refine WP_getr dX10_settle_15 fX10_102 rfl (lyx_is hy 5 0 rfl) hT ?_
  refine WP_callV1 (k := 4) dX10_settle_18 ⟨⟨⟨by decide, by decide⟩, zX4_begin⟩, lX10_246, by decide, rfl, vX4_begin.1, vX4_begin.2⟩ (lyx_is hy 53 4 rfl) (sx_begin_53_6 hy hr hI3295   (by omega)) (Nat.le_of_ble_eq_true rfl) ?_
  intro r I3301 J3302 Ra hq
  obtain ⟨⟨hI3301, ec, fiI3301, fjI3301⟩, rfl⟩ := hq
  rw [ec]
  clear ec Ra
  have fr3303 : fz 74 g [0, 22, 23, 24, 25, 26, 53, 54, 55, 60, 63, 66, 73] I I3301 := fz_tr fr3297 (fz_mono fiI3301 (by decide))
  have fr3304 : fz 74 g [53] J J3302 := fz_tr fr3298 (fz_mono fjI3301 (by decide))
  have e3305 : I3301 (ad g 1) 1 = L := hI3301.2
  have b3306 := BT_get hI3301.1 1 1 2 (0) (0) (900) (by decide) 1 (by decide) (by decide)
  rw [e3305] at b3306
  refine WP_aload_n dX10_settle_21 rfl ?_
  refine WP_getr dX10_settle_22 fX10_62 rfl (lyx_is hy 0 10 rfl) (rfx hr 0 5 53 (by decide)) ?_
  refine WP_getr dX10_settle_25 fX10_225 rfl (lyx_is hy 53 4 rfl) (rfx hr 53 4 54 (by decide)) ?_
  refine WQ_iconst (1) (1) dX10_settle_28 rfl rfl (fun v3307 hv3307 => ?_)
  refine WP_callS2u dX10_settle_29 ⟨⟨⟨by decide, by decide⟩, zJ7_fill_53178⟩, lX10_335, tJ7_fill_53178⟩ (s_fill hy hr 54 4 rfl rfl (by decide) v3307) (Nat.le_of_ble_eq_true rfl) ?_
  obtain ⟨I3308, eI3308⟩ : ∃ I9 : pI, I9 = fi I3301 (ad g 54) 4 v3307 := ⟨_, rfl⟩
  rw [← eI3308]
  have hI3308 : XI g n L I3308 := by rw [eI3308]; exact (xi_fill0 hy hI3301 54 4 v3307 (by decide) (by decide))
  have e3309 : I3308 (ad g 1) 1 = L := by rw [eI3308, fi_off (lyx_ne hy (by decide) (by decide) (by decide))]; exact e3305
  have fr3310 : fz 74 g [0, 22, 23, 24, 25, 26, 53, 54, 55, 60, 63, 66, 73] I I3308 := by rw [eI3308]; exact fzx_fi hy fr3303 (by decide) (by decide)
  clear eI3308
  refine WQ_iconst (0) (0) dX10_settle_32 rfl rfl (fun v3311 hv3311 => ?_)
  refine WP_istore_n (ls' := [(0, _), (1, _)]) dX10_settle_33 (by decide) rfl ?_
  have lp34_3314 : ∀ (mz : Nat) (i3312 : Int32) (I3313 : pI) (J3314 : pJ), XI g n L I3313 → fz 74 g [0, 22, 23, 24, 25, 26, 53, 54, 55, 60, 63, 66, 73] I I3313 → fz 74 g [53] J J3314 → 0 ≤ i3312.toInt → i3312.toInt ≤ 3 → (4 - i3312.toInt).toNat < mz → WP g mX10_settle 34 [(0, .ref (ad g 0)), (1, .int i3312)] [] I3313 J3314 R (fun r I' J' R' => (XI g n L I' ∧ R' = R ∧ fz 74 g [0, 22, 23, 24, 25, 26, 53, 54, 55, 60, 63, 66, 73] I I' ∧ fz 74 g [53] J J') ∧ r = none) := by
    intro mz
    induction mz with
    | zero =>
      intro i3312 I3313 J3314 hI3313 fiI3313 fjJ3314 ai3312 bi3312 hmlp34_3314
      exact absurd hmlp34_3314 (Nat.not_lt_zero _)
    | succ mz ihlp34_3314 =>
      intro i3312 I3313 J3314 hI3313 fiI3313 fjJ3314 ai3312 bi3312 hmlp34_3314
      have e3316 : I3313 (ad g 1) 1 = L := hI3313.2
      have b3317 := BT_get hI3313.1 1 1 2 (0) (0) (900) (by decide) 1 (by decide) (by decide)
      rw [e3316] at b3317
      refine WP_iload_n dX10_settle_34 rfl ?_
      refine WQ_iconst (3) (3) dX10_settle_35 rfl rfl (fun v3318 hv3318 => ?_)
      refine WQ_icmp_ge 55 dX10_settle_36 rfl (fun c3318 => ?_) (fun c3318 => ?_)
      · refine WP_aload_n dX10_settle_55 rfl ?_
        refine WP_getr dX10_settle_56 fX10_83 rfl (lyx_is hy 0 10 rfl) (rfx hr 0 9 71 (by decide)) ?_
        refine WP_callV0 (k := 1) dX10_settle_59 ⟨⟨⟨by decide, by decide⟩, zX1_forget⟩, lX10_341, by decide, rfl, vX1_forget.1, vX1_forget.2⟩ (lyx_is hy 71 1 rfl) (sx_mforget hy hr hI3313  ) (Nat.le_of_ble_eq_true rfl) ?_
        intro r I3320 J3321 Ra hq
        obtain ⟨⟨hI3320, ec, fiI3320, fjI3320⟩, rfl⟩ := hq
        rw [ec]
        clear ec Ra
        have fr3322 : fz 74 g [0, 22, 23, 24, 25, 26, 53, 54, 55, 60, 63, 66, 73] I I3320 := fz_tr fiI3313 (fz_mono fiI3320 (by decide))
        have fr3323 : fz 74 g [53] J J3321 := fz_tr fjJ3314 (fz_mono fjI3320 (by decide))
        have e3324 : I3320 (ad g 1) 1 = L := hI3320.2
        have b3325 := BT_get hI3320.1 1 1 2 (0) (0) (900) (by decide) 1 (by decide) (by decide)
        rw [e3324] at b3325
        refine WP_aload_n dX10_settle_62 rfl ?_
        refine WQ_iconst (-1) (-1) dX10_settle_63 rfl rfl (fun v3326 hv3326 => ?_)
        refine WQ_puti dX10_settle_64 fX10_263 rfl rfl (lyx_is hy 0 10 rfl) (fun I3327 eI3327 => ?_)
        have hI3327 : XI g n L I3327 := by rw [eI3327]; exact (xi_f0 hy hI3320 (c := 0) (by decide) (Or.inl (by decide)) (by decide))
        have e3328 : I3327 (ad g 1) 1 = L := by rw [eI3327, pp_ne _ _ (Or.inl (lyx_ne hy (by decide) (by decide) (by decide)))]; exact e3324
        have e3329 : I3327 (ad g 0) 11 = v3326 := by rw [eI3327, pp_self]
        have fr3330 : fz 74 g [0, 22, 23, 24, 25, 26, 53, 54, 55, 60, 63, 66, 73] I I3327 := by rw [eI3327]; exact fzx_pp hy fr3322 (by decide) (by decide)
        clear eI3327
        exact WP_vret dX10_settle_67 rfl ⟨⟨hI3327, rfl, fr3330, fr3323⟩, rfl⟩
      · refine WP_aload_n dX10_settle_39 rfl ?_
        refine WP_getr dX10_settle_40 fX10_69 rfl (lyx_is hy 0 10 rfl) (rfx hr 0 7 59 (by decide)) ?_
        refine WP_iload_n dX10_settle_43 rfl ?_
        rcases (show i3312.toInt = 0 ∨ i3312.toInt = 1 ∨ i3312.toInt = 2 by omega) with k3331 | k3332 | k3333
        · refine WQ_aald (q := 0) dX10_settle_44 (lyx_is hy 59 16 rfl) (lyx_n hy 59 3 rfl) k3331 (by decide) (rfx hr 59 0 60 (by decide)) ?_
          refine WQ_iconst (-1) (-1) dX10_settle_45 rfl rfl (fun v3334 hv3334 => ?_)
          refine WQ_puti dX10_settle_46 fX10_232 rfl rfl (lyx_is hy 60 4 rfl) (fun I3335 eI3335 => ?_)
          have hI3335 : XI g n L I3335 := by rw [eI3335]; exact (xi_f0 hy hI3313 (c := 60) (by decide) (Or.inl (by decide)) (by decide))
          have e3336 : I3335 (ad g 1) 1 = L := by rw [eI3335, pp_ne _ _ (Or.inl (lyx_ne hy (by decide) (by decide) (by decide)))]; exact e3316
          have e3337 : I3335 (ad g 60) 0 = v3334 := by rw [eI3335, pp_self]
          have fr3338 : fz 74 g [0, 22, 23, 24, 25, 26, 53, 54, 55, 60, 63, 66, 73] I I3335 := by rw [eI3335]; exact fzx_pp hy fiI3313 (by decide) (by decide)
          clear eI3335
          refine WP_iinc (ls' := [(0, _), (1, _)]) dX10_settle_49 rfl (by decide) rfl ?_
          have hv3339 : (i3312 + Int32.ofInt (1)).toInt = i3312.toInt + (1) := ia_n rfl (by omega) (by omega)
          generalize i3312 + Int32.ofInt (1) = v3339 at hv3339 ⊢
          refine WP_goto 34 dX10_settle_52 rfl ?_
          exact WP_sub (fc rfl (fc rfl fn)) (ihlp34_3314 v3339 I3335 J3314 hI3335 fr3338 fjJ3314 (by omega) (by omega) (by omega))
        · refine WQ_aald (q := 1) dX10_settle_44 (lyx_is hy 59 16 rfl) (lyx_n hy 59 3 rfl) k3332 (by decide) (rfx hr 59 1 63 (by decide)) ?_
          refine WQ_iconst (-1) (-1) dX10_settle_45 rfl rfl (fun v3340 hv3340 => ?_)
          refine WQ_puti dX10_settle_46 fX10_232 rfl rfl (lyx_is hy 63 4 rfl) (fun I3341 eI3341 => ?_)
          have hI3341 : XI g n L I3341 := by rw [eI3341]; exact (xi_f0 hy hI3313 (c := 63) (by decide) (Or.inl (by decide)) (by decide))
          have e3342 : I3341 (ad g 1) 1 = L := by rw [eI3341, pp_ne _ _ (Or.inl (lyx_ne hy (by decide) (by decide) (by decide)))]; exact e3316
          have e3343 : I3341 (ad g 63) 0 = v3340 := by rw [eI3341, pp_self]
          have fr3344 : fz 74 g [0, 22, 23, 24, 25, 26, 53, 54, 55, 60, 63, 66, 73] I I3341 := by rw [eI3341]; exact fzx_pp hy fiI3313 (by decide) (by decide)
          clear eI3341
          refine WP_iinc (ls' := [(0, _), (1, _)]) dX10_settle_49 rfl (by decide) rfl ?_
          have hv3345 : (i3312 + Int32.ofInt (1)).toInt = i3312.toInt + (1) := ia_n rfl (by omega) (by omega)
          generalize i3312 + Int32.ofInt (1) = v3345 at hv3345 ⊢
          refine WP_goto 34 dX10_settle_52 rfl ?_
          exact WP_sub (fc rfl (fc rfl fn)) (ihlp34_3314 v3345 I3341 J3314 hI3341 fr3344 fjJ3314 (by omega) (by omega) (by omega))
        · refine WQ_aald (q := 2) dX10_settle_44 (lyx_is hy 59 16 rfl) (lyx_n hy 59 3 rfl) k3333 (by decide) (rfx hr 59 2 66 (by decide)) ?_
          refine WQ_iconst (-1) (-1) dX10_settle_45 rfl rfl (fun v3346 hv3346 => ?_)
          refine WQ_puti dX10_settle_46 fX10_232 rfl rfl (lyx_is hy 66 4 rfl) (fun I3347 eI3347 => ?_)
          have hI3347 : XI g n L I3347 := by rw [eI3347]; exact (xi_f0 hy hI3313 (c := 66) (by decide) (Or.inl (by decide)) (by decide))
          have e3348 : I3347 (ad g 1) 1 = L := by rw [eI3347, pp_ne _ _ (Or.inl (lyx_ne hy (by decide) (by decide) (by decide)))]; exact e3316
          have e3349 : I3347 (ad g 66) 0 = v3346 := by rw [eI3347, pp_self]
          have fr3350 : fz 74 g [0, 22, 23, 24, 25, 26, 53, 54, 55, 60, 63, 66, 73] I I3347 := by rw [eI3347]; exact fzx_pp hy fiI3313 (by decide) (by decide)
          clear eI3347
          refine WP_iinc (ls' := [(0, _), (1, _)]) dX10_settle_49 rfl (by decide) rfl ?_
          have hv3351 : (i3312 + Int32.ofInt (1)).toInt = i3312.toInt + (1) := ia_n rfl (by omega) (by omega)
          generalize i3312 + Int32.ofInt (1) = v3351 at hv3351 ⊢
          refine WP_goto 34 dX10_settle_52 rfl ?_
          exact WP_sub (fc rfl (fc rfl fn)) (ihlp34_3314 v3351 I3347 J3314 hI3347 fr3350 fjJ3314 (by omega) (by omega) (by omega))
  exact WP_sub (fc rfl (fc rfl fn)) (lp34_3314 _ v3311 I3308 J3302 hI3308 fr3310 fr3304 (by omega) (by omega) (Nat.lt_succ_self _))
set_option maxHeartbeats 4000000 in
set_option maxRecDepth 100000 in
theorem sx_meet_6 {g : GG} {n : Int} {L : Int32} (hy : LyX g)  {I : pI} {J : pJ} {R : pR} (hr : RfX g R) (hT : R (ad g 5) 0 = some (ad g 6)) (hI : XI g n L I) (a : Int32) (b : Int32) (c : Int32) (e : Int32) (f : Int32) (h : Int32)  : SP g mX10_meet [.ref (ad g 0), .int a, .int b, .int c, .int e, .int f, .int h] I J R (fun r I' J' R' => (XI g n L I' ∧ R' = R ∧ fz 74 g [71] I I' ∧ fz 74 g [71] J J') ∧ ∃ v : Int32, r = some (.int v)) := by
  refine SP_of ⟨by decide, rfl⟩ (Nat.le_of_ble_eq_true rfl) ?_
  have e3352 : I (ad g 1) 1 = L := hI.2
  have b3353 := BT_get hI.1 1 1 2 (0) (0) (900) (by decide) 1 (by decide) (by decide)
  rw [e3352] at b3353
  have fr0 : fz 74 g [71] I I := fz_rf
  have frj0 : fz 74 g [71] J J := fz_rf
  refine WP_aload_n dX10_meet_0 rfl ?_
  refine WP_iload_n dX10_meet_1 rfl ?_
  refine WP_callV1 (k := 10) dX10_meet_2 ⟨⟨⟨by decide, by decide⟩, zX10_isSort⟩, lX10_152, by decide, rfl, vX10_isSort.1, vX10_isSort.2⟩ (lyx_is hy 0 10 rfl) (sx_isSort_6 hy hr hT hI a ) (Nat.le_of_ble_eq_true rfl) ?_
  intro r Ia Ja Ra hq
  obtain ⟨⟨ea, eb, ec⟩, v3354, rfl, av3354, bv3354, cv3354⟩ := hq
  show WP _ _ _ _ (.int _ :: _) _ _ _ _
  rw [ea, eb, ec]
  clear ea eb ec Ia Ja Ra
  refine WQ_if_eq 39 dX10_meet_5 rfl (fun c3354 => ?_) (fun c3354 => ?_)
  · refine WP_ldcw (-1000000) dX10_meet_39 kX10_309 ?_
    obtain ⟨v3356, hv3356, ev3356⟩ : ∃ v : Int32, v.toInt = -1000000 ∧ ((-1000000) : Int32) = v := ⟨(-1000000), rfl, rfl⟩
    rw [ev3356]; clear ev3356
    exact WP_iret dX10_meet_42 rfl ⟨⟨hI, rfl, fr0, frj0⟩, _, rfl⟩
  · refine WP_iload_n dX10_meet_8 rfl ?_
    refine WQ_if_lt 39 dX10_meet_9 rfl (fun c3356 => ?_) (fun c3356 => ?_)
    · refine WP_ldcw (-1000000) dX10_meet_39 kX10_309 ?_
      obtain ⟨v3358, hv3358, ev3358⟩ : ∃ v : Int32, v.toInt = -1000000 ∧ ((-1000000) : Int32) = v := ⟨(-1000000), rfl, rfl⟩
      rw [ev3358]; clear ev3358
      exact WP_iret dX10_meet_42 rfl ⟨⟨hI, rfl, fr0, frj0⟩, _, rfl⟩
    · refine WP_iload_n dX10_meet_12 rfl ?_
      refine WQ_iconst (1) (1) dX10_meet_13 rfl rfl (fun v3359 hv3359 => ?_)
      refine WP_aload_n dX10_meet_14 rfl ?_
      refine WP_getr dX10_meet_15 fX10_33 rfl (lyx_is hy 0 10 rfl) (rfx hr 0 2 5 (by decide)) ?_
      refine WP_getr dX10_meet_18 fX10_102 rfl (lyx_is hy 5 0 rfl) hT ?_
      refine WQ_geti dX10_meet_21 fX10_114 rfl (lyx_is hy 6 7 rfl) (BT_get hI.1 6 1 2 (0) (0) (4) (by decide) 1 (by decide) (by decide)) (fun v3360 ev3360 av3360 bv3360 => ?_)
      refine WQ_ishl1 dX10_meet_24 hv3359 (by omega) (by omega) (fun v3361 av3361 bv3361 => ?_)
      refine WQ_icmp_ge 39 dX10_meet_25 rfl (fun c3361 => ?_) (fun c3361 => ?_)
      · refine WP_ldcw (-1000000) dX10_meet_39 kX10_309 ?_
        obtain ⟨v3363, hv3363, ev3363⟩ : ∃ v : Int32, v.toInt = -1000000 ∧ ((-1000000) : Int32) = v := ⟨(-1000000), rfl, rfl⟩
        rw [ev3363]; clear ev3363
        exact WP_iret dX10_meet_42 rfl ⟨⟨hI, rfl, fr0, frj0⟩, _, rfl⟩
      · refine WP_iload_n dX10_meet_28 rfl ?_
        refine WP_iload dX10_meet_29 rfl ?_
        refine WP_iload dX10_meet_31 rfl ?_
        refine WP_callS3 dX10_meet_33 ⟨⟨⟨by decide, by decide⟩, zX10_isMeeting⟩, lX10_306, tX10_isMeeting⟩ (sx_isMeeting hy hr hI c e f   ) (Nat.le_of_ble_eq_true rfl) ?_
        intro r Ia Ja Ra hq
        obtain ⟨⟨ea, eb, ec⟩, v3364, rfl, av3364, bv3364, cv3364⟩ := hq
        show WP _ _ _ _ (.int _ :: _) _ _ _ _
        rw [ea, eb, ec]
        clear ea eb ec Ia Ja Ra
        refine WQ_if_ne 43 dX10_meet_36 rfl (fun c3364 => ?_) (fun c3364 => ?_)
        · refine WP_iload dX10_meet_43 rfl ?_
          refine WQ_if_eq 58 dX10_meet_45 rfl (fun c3365 => ?_) (fun c3365 => ?_)
          · refine WP_aload_n dX10_meet_58 rfl ?_
            refine WP_getr dX10_meet_59 fX10_83 rfl (lyx_is hy 0 10 rfl) (rfx hr 0 9 71 (by decide)) ?_
            refine WP_aload_n dX10_meet_62 rfl ?_
            refine WP_getr dX10_meet_63 fX10_33 rfl (lyx_is hy 0 10 rfl) (rfx hr 0 2 5 (by decide)) ?_
            refine WP_getr dX10_meet_66 fX10_102 rfl (lyx_is hy 5 0 rfl) hT ?_
            refine WP_iload_n dX10_meet_69 rfl ?_
            refine WP_iload_n dX10_meet_70 rfl ?_
            refine WP_callV3 (k := 1) dX10_meet_71 ⟨⟨⟨by decide, by decide⟩, zX1_start⟩, lX10_310, by decide, rfl, vX1_start.1, vX1_start.2⟩ (lyx_is hy 71 1 rfl) (sx_start_6 hy hr hI b c  (by omega) (by omega)) (Nat.le_of_ble_eq_true rfl) ?_
            intro r I3367 J3368 Ra hq
            obtain ⟨⟨hI3367, ec, fiI3367, fjI3367⟩, rfl⟩ := hq
            rw [ec]
            clear ec Ra
            have fr3369 : fz 74 g [71] I I3367 := fz_tr fr0 (fz_mono fiI3367 (by decide))
            have fr3370 : fz 74 g [71] J J3368 := fz_tr frj0 (fz_mono fjI3367 (by decide))
            have e3371 : I3367 (ad g 1) 1 = L := hI3367.2
            have b3372 := BT_get hI3367.1 1 1 2 (0) (0) (900) (by decide) 1 (by decide) (by decide)
            rw [e3371] at b3372
            refine WP_aload_n dX10_meet_74 rfl ?_
            refine WP_getr dX10_meet_75 fX10_83 rfl (lyx_is hy 0 10 rfl) (rfx hr 0 9 71 (by decide)) ?_
            refine WP_iload_n dX10_meet_78 rfl ?_
            refine WP_iload dX10_meet_79 rfl ?_
            refine WP_iload dX10_meet_81 rfl ?_
            refine WP_callV3 (k := 1) dX10_meet_83 ⟨⟨⟨by decide, by decide⟩, zX1_goOn⟩, lX10_314, by decide, rfl, vX1_goOn.1, vX1_goOn.2⟩ (lyx_is hy 71 1 rfl) (sx_goOn hy hr hI3367 a e f (by omega) (by omega)  (by omega) (by omega)) (Nat.le_of_ble_eq_true rfl) ?_
            intro r I3373 J3374 Ra hq
            obtain ⟨⟨hI3373, ec, fiI3373, fjI3373⟩, rfl⟩ := hq
            rw [ec]
            clear ec Ra
            have fr3375 : fz 74 g [71] I I3373 := fz_tr fr3369 (fz_mono fiI3373 (by decide))
            have fr3376 : fz 74 g [71] J J3374 := fz_tr fr3370 (fz_mono fjI3373 (by decide))
            have e3377 : I3373 (ad g 1) 1 = L := hI3373.2
            have b3378 := BT_get hI3373.1 1 1 2 (0) (0) (900) (by decide) 1 (by decide) (by decide)
            rw [e3377] at b3378
            refine WP_iload dX10_meet_86 rfl ?_
            refine WQ_if_ne 101 dX10_meet_88 rfl (fun c3379 => False.elim (by omega)) (fun c3379 => ?_)
            refine WP_aload_n dX10_meet_91 rfl ?_
            refine WP_getr dX10_meet_92 fX10_83 rfl (lyx_is hy 0 10 rfl) (rfx hr 0 9 71 (by decide)) ?_
            refine WQ_getl dX10_meet_95 fX10_318 rfl (lyx_is hy 71 1 rfl) (fun l3381 el3381 => ?_)
            refine WP_goto 108 dX10_meet_98 rfl ?_
            refine WQ_l2i dX10_meet_108 (fun v3382 => ?_)
            exact WP_iret dX10_meet_109 rfl ⟨⟨hI3373, rfl, fr3375, fr3376⟩, _, rfl⟩
          · refine WP_iload dX10_meet_48 rfl ?_
            refine WQ_iconst (1) (1) dX10_meet_50 rfl rfl (fun v3383 hv3383 => ?_)
            refine WQ_icmp_eq 58 dX10_meet_51 rfl (fun c3383 => ?_) (fun c3383 => ?_)
            · refine WP_aload_n dX10_meet_58 rfl ?_
              refine WP_getr dX10_meet_59 fX10_83 rfl (lyx_is hy 0 10 rfl) (rfx hr 0 9 71 (by decide)) ?_
              refine WP_aload_n dX10_meet_62 rfl ?_
              refine WP_getr dX10_meet_63 fX10_33 rfl (lyx_is hy 0 10 rfl) (rfx hr 0 2 5 (by decide)) ?_
              refine WP_getr dX10_meet_66 fX10_102 rfl (lyx_is hy 5 0 rfl) hT ?_
              refine WP_iload_n dX10_meet_69 rfl ?_
              refine WP_iload_n dX10_meet_70 rfl ?_
              refine WP_callV3 (k := 1) dX10_meet_71 ⟨⟨⟨by decide, by decide⟩, zX1_start⟩, lX10_310, by decide, rfl, vX1_start.1, vX1_start.2⟩ (lyx_is hy 71 1 rfl) (sx_start_6 hy hr hI b c  (by omega) (by omega)) (Nat.le_of_ble_eq_true rfl) ?_
              intro r I3385 J3386 Ra hq
              obtain ⟨⟨hI3385, ec, fiI3385, fjI3385⟩, rfl⟩ := hq
              rw [ec]
              clear ec Ra
              have fr3387 : fz 74 g [71] I I3385 := fz_tr fr0 (fz_mono fiI3385 (by decide))
              have fr3388 : fz 74 g [71] J J3386 := fz_tr frj0 (fz_mono fjI3385 (by decide))
              have e3389 : I3385 (ad g 1) 1 = L := hI3385.2
              have b3390 := BT_get hI3385.1 1 1 2 (0) (0) (900) (by decide) 1 (by decide) (by decide)
              rw [e3389] at b3390
              refine WP_aload_n dX10_meet_74 rfl ?_
              refine WP_getr dX10_meet_75 fX10_83 rfl (lyx_is hy 0 10 rfl) (rfx hr 0 9 71 (by decide)) ?_
              refine WP_iload_n dX10_meet_78 rfl ?_
              refine WP_iload dX10_meet_79 rfl ?_
              refine WP_iload dX10_meet_81 rfl ?_
              refine WP_callV3 (k := 1) dX10_meet_83 ⟨⟨⟨by decide, by decide⟩, zX1_goOn⟩, lX10_314, by decide, rfl, vX1_goOn.1, vX1_goOn.2⟩ (lyx_is hy 71 1 rfl) (sx_goOn hy hr hI3385 a e f (by omega) (by omega)  (by omega) (by omega)) (Nat.le_of_ble_eq_true rfl) ?_
              intro r I3391 J3392 Ra hq
              obtain ⟨⟨hI3391, ec, fiI3391, fjI3391⟩, rfl⟩ := hq
              rw [ec]
              clear ec Ra
              have fr3393 : fz 74 g [71] I I3391 := fz_tr fr3387 (fz_mono fiI3391 (by decide))
              have fr3394 : fz 74 g [71] J J3392 := fz_tr fr3388 (fz_mono fjI3391 (by decide))
              have e3395 : I3391 (ad g 1) 1 = L := hI3391.2
              have b3396 := BT_get hI3391.1 1 1 2 (0) (0) (900) (by decide) 1 (by decide) (by decide)
              rw [e3395] at b3396
              refine WP_iload dX10_meet_86 rfl ?_
              refine WQ_if_ne 101 dX10_meet_88 rfl (fun c3397 => ?_) (fun c3397 => False.elim (by omega))
              refine WP_aload_n dX10_meet_101 rfl ?_
              refine WP_getr dX10_meet_102 fX10_83 rfl (lyx_is hy 0 10 rfl) (rfx hr 0 9 71 (by decide)) ?_
              refine WQ_getl dX10_meet_105 fX10_322 rfl (lyx_is hy 71 1 rfl) (fun l3399 el3399 => ?_)
              refine WQ_l2i dX10_meet_108 (fun v3400 => ?_)
              exact WP_iret dX10_meet_109 rfl ⟨⟨hI3391, rfl, fr3393, fr3394⟩, _, rfl⟩
            · refine WP_ldcw (-1000000) dX10_meet_54 kX10_309 ?_
              obtain ⟨v3401, hv3401, ev3401⟩ : ∃ v : Int32, v.toInt = -1000000 ∧ ((-1000000) : Int32) = v := ⟨(-1000000), rfl, rfl⟩
              rw [ev3401]; clear ev3401
              exact WP_iret dX10_meet_57 rfl ⟨⟨hI, rfl, fr0, frj0⟩, _, rfl⟩
        · refine WP_ldcw (-1000000) dX10_meet_39 kX10_309 ?_
          obtain ⟨v3402, hv3402, ev3402⟩ : ∃ v : Int32, v.toInt = -1000000 ∧ ((-1000000) : Int32) = v := ⟨(-1000000), rfl, rfl⟩
          rw [ev3402]; clear ev3402
          exact WP_iret dX10_meet_42 rfl ⟨⟨hI, rfl, fr0, frj0⟩, _, rfl⟩
set_option maxHeartbeats 4000000 in
set_option maxRecDepth 100000 in
theorem sx_rests_6 {g : GG} {n : Int} {L : Int32} (hy : LyX g)  {I : pI} {J : pJ} {R : pR} (hr : RfX g R) (hT : R (ad g 5) 0 = some (ad g 6)) (hI : XI g n L I) (a : Int32) (b : Int32) (c : Int32)  : SP g mX10_rests [.ref (ad g 0), .int a, .int b, .int c] I J R (fun r I' J' R' => (XI g n L I' ∧ R' = R ∧ fz 74 g [71] I I' ∧ fz 74 g [71] J J') ∧ ∃ v : Int32, r = some (.int v)) := by
  refine SP_of ⟨by decide, rfl⟩ (Nat.le_of_ble_eq_true rfl) ?_
  have e3403 : I (ad g 1) 1 = L := hI.2
  have b3404 := BT_get hI.1 1 1 2 (0) (0) (900) (by decide) 1 (by decide) (by decide)
  rw [e3403] at b3404
  have fr0 : fz 74 g [71] I I := fz_rf
  have frj0 : fz 74 g [71] J J := fz_rf
  refine WP_iload_n dX10_rests_0 rfl ?_
  refine WP_iload_n dX10_rests_1 rfl ?_
  refine WP_iload_n dX10_rests_2 rfl ?_
  refine WP_callS3 dX10_rests_3 ⟨⟨⟨by decide, by decide⟩, zX10_isMeeting⟩, lX10_306, tX10_isMeeting⟩ (sx_isMeeting hy hr hI a b c   ) (Nat.le_of_ble_eq_true rfl) ?_
  intro r Ia Ja Ra hq
  obtain ⟨⟨ea, eb, ec⟩, v3405, rfl, av3405, bv3405, cv3405⟩ := hq
  show WP _ _ _ _ (.int _ :: _) _ _ _ _
  rw [ea, eb, ec]
  clear ea eb ec Ia Ja Ra
  refine WQ_if_ne 12 dX10_rests_6 rfl (fun c3405 => ?_) (fun c3405 => ?_)
  · refine WQ_iconst (1) (1) dX10_rests_12 rfl rfl (fun v3407 hv3407 => ?_)
    refine WP_aload_n dX10_rests_13 rfl ?_
    refine WP_getr dX10_rests_14 fX10_33 rfl (lyx_is hy 0 10 rfl) (rfx hr 0 2 5 (by decide)) ?_
    refine WP_getr dX10_rests_17 fX10_102 rfl (lyx_is hy 5 0 rfl) hT ?_
    refine WQ_geti dX10_rests_20 fX10_114 rfl (lyx_is hy 6 7 rfl) (BT_get hI.1 6 1 2 (0) (0) (4) (by decide) 1 (by decide) (by decide)) (fun v3408 ev3408 av3408 bv3408 => ?_)
    refine WQ_ishl1 dX10_rests_23 hv3407 (by omega) (by omega) (fun v3409 av3409 bv3409 => ?_)
    refine WP_istore (ls' := [(0, _), (1, _), (2, _), (3, _), (4, _)]) dX10_rests_24 (by decide) rfl ?_
    refine WQ_iconst (0) (0) dX10_rests_26 rfl rfl (fun v3410 hv3410 => ?_)
    refine WP_istore (ls' := [(0, _), (1, _), (2, _), (3, _), (4, _), (5, _)]) dX10_rests_27 (by decide) rfl ?_
    refine WQ_iconst (0) (0) dX10_rests_29 rfl rfl (fun v3411 hv3411 => ?_)
    refine WP_istore (ls' := [(0, _), (1, _), (2, _), (3, _), (4, _), (5, _), (6, _)]) dX10_rests_30 (by decide) rfl ?_
    have lp32_3415 : ∀ (mz : Nat) (i3412 : Int32) (i3413 : Int32) (I3414 : pI) (J3415 : pJ), XI g n L I3414 → fz 74 g [71] I I3414 → fz 74 g [71] J J3415 → 0 ≤ i3413.toInt → i3413.toInt ≤ 16 → (17 - i3413.toInt).toNat < mz → WP g mX10_rests 32 [(0, .ref (ad g 0)), (1, .int a), (2, .int b), (3, .int c), (4, .int v3409), (5, .int i3412), (6, .int i3413)] [] I3414 J3415 R (fun r I' J' R' => (XI g n L I' ∧ R' = R ∧ fz 74 g [71] I I' ∧ fz 74 g [71] J J') ∧ ∃ v : Int32, r = some (.int v)) := by
      intro mz
      induction mz with
      | zero =>
        intro i3412 i3413 I3414 J3415 hI3414 fiI3414 fjJ3415 ai3413 bi3413 hmlp32_3415
        exact absurd hmlp32_3415 (Nat.not_lt_zero _)
      | succ mz ihlp32_3415 =>
        intro i3412 i3413 I3414 J3415 hI3414 fiI3414 fjJ3415 ai3413 bi3413 hmlp32_3415
        have e3417 : I3414 (ad g 1) 1 = L := hI3414.2
        have b3418 := BT_get hI3414.1 1 1 2 (0) (0) (900) (by decide) 1 (by decide) (by decide)
        rw [e3417] at b3418
        refine WP_iload dX10_rests_32 rfl ?_
        refine WP_iload dX10_rests_34 rfl ?_
        refine WQ_icmp_ge 83 dX10_rests_36 rfl (fun c3418 => ?_) (fun c3418 => ?_)
        · refine WP_iload dX10_rests_83 rfl ?_
          exact WP_iret dX10_rests_85 rfl ⟨⟨hI3414, rfl, fiI3414, fjJ3415⟩, _, rfl⟩
        · refine WP_aload_n dX10_rests_39 rfl ?_
          refine WP_getr dX10_rests_40 fX10_83 rfl (lyx_is hy 0 10 rfl) (rfx hr 0 9 71 (by decide)) ?_
          refine WP_aload_n dX10_rests_43 rfl ?_
          refine WP_getr dX10_rests_44 fX10_33 rfl (lyx_is hy 0 10 rfl) (rfx hr 0 2 5 (by decide)) ?_
          refine WP_getr dX10_rests_47 fX10_102 rfl (lyx_is hy 5 0 rfl) hT ?_
          refine WP_iload dX10_rests_50 rfl ?_
          refine WP_iload_n dX10_rests_52 rfl ?_
          refine WP_callV3 (k := 1) dX10_rests_53 ⟨⟨⟨by decide, by decide⟩, zX1_start⟩, lX10_310, by decide, rfl, vX1_start.1, vX1_start.2⟩ (lyx_is hy 71 1 rfl) (sx_start_6 hy hr hI3414 i3413 a  (by omega) (by omega)) (Nat.le_of_ble_eq_true rfl) ?_
          intro r I3420 J3421 Ra hq
          obtain ⟨⟨hI3420, ec, fiI3420, fjI3420⟩, rfl⟩ := hq
          rw [ec]
          clear ec Ra
          have fr3422 : fz 74 g [71] I I3420 := fz_tr fiI3414 (fz_mono fiI3420 (by decide))
          have fr3423 : fz 74 g [71] J J3421 := fz_tr fjJ3415 (fz_mono fjI3420 (by decide))
          have e3424 : I3420 (ad g 1) 1 = L := hI3420.2
          have b3425 := BT_get hI3420.1 1 1 2 (0) (0) (900) (by decide) 1 (by decide) (by decide)
          rw [e3424] at b3425
          refine WP_aload_n dX10_rests_56 rfl ?_
          refine WP_getr dX10_rests_57 fX10_83 rfl (lyx_is hy 0 10 rfl) (rfx hr 0 9 71 (by decide)) ?_
          refine WP_iload_n dX10_rests_60 rfl ?_
          refine WP_iload_n dX10_rests_61 rfl ?_
          refine WP_callV2 (k := 1) dX10_rests_62 ⟨⟨⟨by decide, by decide⟩, zX1_isAtRest⟩, lX10_325, by decide, rfl, vX1_isAtRest.1, vX1_isAtRest.2⟩ (lyx_is hy 71 1 rfl) (sx_isAtRest hy hr hI3420 b c  (by omega) (by omega)) (Nat.le_of_ble_eq_true rfl) ?_
          intro r I3426 J3427 Ra hq
          obtain ⟨⟨hI3426, ec, fiI3426, fjI3426⟩, v3428, rfl, av3428, bv3428⟩ := hq
          show WP _ _ _ _ (.int _ :: _) _ _ _ _
          rw [ec]
          clear ec Ra
          have fr3429 : fz 74 g [71] I I3426 := fz_tr fr3422 (fz_mono fiI3426 (by decide))
          have fr3430 : fz 74 g [71] J J3427 := fz_tr fr3423 (fz_mono fjI3426 (by decide))
          have e3431 : I3426 (ad g 1) 1 = L := hI3426.2
          have b3432 := BT_get hI3426.1 1 1 2 (0) (0) (900) (by decide) 1 (by decide) (by decide)
          rw [e3431] at b3432
          refine WQ_if_eq 77 dX10_rests_65 rfl (fun c3432 => ?_) (fun c3432 => ?_)
          · refine WP_iinc (ls' := [(0, _), (1, _), (2, _), (3, _), (4, _), (5, _), (6, _)]) dX10_rests_77 rfl (by decide) rfl ?_
            have hv3434 : (i3413 + Int32.ofInt (1)).toInt = i3413.toInt + (1) := ia_n rfl (by omega) (by omega)
            generalize i3413 + Int32.ofInt (1) = v3434 at hv3434 ⊢
            refine WP_goto 32 dX10_rests_80 rfl ?_
            exact WP_sub (fc rfl (fc rfl (fc rfl (fc rfl (fc rfl (fc rfl (fc rfl fn))))))) (ihlp32_3415 i3412 v3434 I3426 J3427 hI3426 fr3429 fr3430 (by omega) (by omega) (by omega))
          · refine WP_iload dX10_rests_68 rfl ?_
            refine WQ_iconst (1) (1) dX10_rests_70 rfl rfl (fun v3435 hv3435 => ?_)
            refine WP_iload dX10_rests_71 rfl ?_
            refine WQ_ishlu dX10_rests_73 (fun v3436 => ?_)
            refine WQ_ioru dX10_rests_74 (fun v3437 => ?_)
            refine WP_istore (ls' := [(0, _), (1, _), (2, _), (3, _), (4, _), (5, _), (6, _)]) dX10_rests_75 (by decide) rfl ?_
            refine WP_iinc (ls' := [(0, _), (1, _), (2, _), (3, _), (4, _), (5, _), (6, _)]) dX10_rests_77 rfl (by decide) rfl ?_
            have hv3438 : (i3413 + Int32.ofInt (1)).toInt = i3413.toInt + (1) := ia_n rfl (by omega) (by omega)
            generalize i3413 + Int32.ofInt (1) = v3438 at hv3438 ⊢
            refine WP_goto 32 dX10_rests_80 rfl ?_
            exact WP_sub (fc rfl (fc rfl (fc rfl (fc rfl (fc rfl (fc rfl (fc rfl fn))))))) (ihlp32_3415 v3437 v3438 I3426 J3427 hI3426 fr3429 fr3430 (by omega) (by omega) (by omega))
    exact WP_sub (fc rfl (fc rfl (fc rfl (fc rfl (fc rfl (fc rfl (fc rfl fn))))))) (lp32_3415 _ v3410 v3411 I J hI fr0 frj0 (by omega) (by omega) (Nat.lt_succ_self _))
  · refine WQ_bipush (-2) (-2) dX10_rests_9 rfl rfl (fun v3439 hv3439 => ?_)
    exact WP_iret dX10_rests_11 rfl ⟨⟨hI, rfl, fr0, frj0⟩, _, rfl⟩
set_option maxHeartbeats 4000000 in
set_option maxRecDepth 100000 in
theorem sx_isSort_27 {g : GG} {n : Int} {L : Int32} (hy : LyX g)  {I : pI} {J : pJ} {R : pR} (hr : RfX g R) (hT : R (ad g 5) 0 = some (ad g 27)) (hI : XI g n L I) (a : Int32)  : SP g mX10_isSort [.ref (ad g 0), .int a] I J R (fun r I' J' R' => (I' = I ∧ J' = J ∧ R' = R) ∧ ∃ v : Int32, r = some (.int v) ∧ 0 ≤ v.toInt ∧ v.toInt ≤ 1 ∧ (v.toInt = 1 → 0 ≤ a.toInt ∧ a.toInt ≤ 3)) := by
  refine SP_of ⟨by decide, rfl⟩ (Nat.le_of_ble_eq_true rfl) ?_
  have e3440 : I (ad g 1) 1 = L := hI.2
  have b3441 := BT_get hI.1 1 1 2 (0) (0) (900) (by decide) 1 (by decide) (by decide)
  rw [e3440] at b3441
  refine WP_iload_n dX10_isSort_0 rfl ?_
  refine WQ_if_lt 22 dX10_isSort_1 rfl (fun c3441 => ?_) (fun c3441 => ?_)
  · refine WQ_iconst (0) (0) dX10_isSort_22 rfl rfl (fun v3443 hv3443 => ?_)
    exact WP_zret dX10_isSort_23 rfl (nar_z (by omega)) ⟨⟨rfl, rfl, rfl⟩, _, rfl, by omega, by omega, by omega⟩
  · refine WP_iload_n dX10_isSort_4 rfl ?_
    refine WP_aload_n dX10_isSort_5 rfl ?_
    refine WP_getr dX10_isSort_6 fX10_33 rfl (lyx_is hy 0 10 rfl) (rfx hr 0 2 5 (by decide)) ?_
    refine WP_getr dX10_isSort_9 fX10_102 rfl (lyx_is hy 5 0 rfl) hT ?_
    refine WQ_geti dX10_isSort_12 fX10_114 rfl (lyx_is hy 27 7 rfl) (BT_get hI.1 27 1 2 (0) (0) (4) (by decide) 1 (by decide) (by decide)) (fun v3444 ev3444 av3444 bv3444 => ?_)
    refine WQ_icmp_ge 22 dX10_isSort_15 rfl (fun c3444 => ?_) (fun c3444 => ?_)
    · refine WQ_iconst (0) (0) dX10_isSort_22 rfl rfl (fun v3446 hv3446 => ?_)
      exact WP_zret dX10_isSort_23 rfl (nar_z (by omega)) ⟨⟨rfl, rfl, rfl⟩, _, rfl, by omega, by omega, by omega⟩
    · refine WQ_iconst (1) (1) dX10_isSort_18 rfl rfl (fun v3447 hv3447 => ?_)
      refine WP_goto 23 dX10_isSort_19 rfl ?_
      exact WP_zret dX10_isSort_23 rfl (nar_z (by omega)) ⟨⟨rfl, rfl, rfl⟩, _, rfl, by omega, by omega, by omega⟩
set_option maxHeartbeats 4000000 in
set_option maxRecDepth 100000 in
theorem sx_isThing_27 {g : GG} {n : Int} {L : Int32} (hy : LyX g)  {I : pI} {J : pJ} {R : pR} (hr : RfX g R) (hT : R (ad g 5) 0 = some (ad g 27)) (hI : XI g n L I) (a : Int32)  : SP g mX10_isThing [.ref (ad g 0), .int a] I J R (fun r I' J' R' => (I' = I ∧ J' = J ∧ R' = R) ∧ ∃ v : Int32, r = some (.int v) ∧ 0 ≤ v.toInt ∧ v.toInt ≤ 1 ∧ (v.toInt = 1 → 0 ≤ a.toInt ∧ a.toInt ≤ 2)) := by
  refine SP_of ⟨by decide, rfl⟩ (Nat.le_of_ble_eq_true rfl) ?_
  have e3448 : I (ad g 1) 1 = L := hI.2
  have b3449 := BT_get hI.1 1 1 2 (0) (0) (900) (by decide) 1 (by decide) (by decide)
  rw [e3448] at b3449
  refine WP_iload_n dX10_isThing_0 rfl ?_
  refine WQ_if_lt 22 dX10_isThing_1 rfl (fun c3449 => ?_) (fun c3449 => ?_)
  · refine WQ_iconst (0) (0) dX10_isThing_22 rfl rfl (fun v3451 hv3451 => ?_)
    exact WP_zret dX10_isThing_23 rfl (nar_z (by omega)) ⟨⟨rfl, rfl, rfl⟩, _, rfl, by omega, by omega, by omega⟩
  · refine WP_iload_n dX10_isThing_4 rfl ?_
    refine WP_aload_n dX10_isThing_5 rfl ?_
    refine WP_getr dX10_isThing_6 fX10_33 rfl (lyx_is hy 0 10 rfl) (rfx hr 0 2 5 (by decide)) ?_
    refine WP_getr dX10_isThing_9 fX10_102 rfl (lyx_is hy 5 0 rfl) hT ?_
    refine WQ_geti dX10_isThing_12 fX10_117 rfl (lyx_is hy 27 7 rfl) (BT_get hI.1 27 2 3 (0) (0) (3) (by decide) 2 (by decide) (by decide)) (fun v3452 ev3452 av3452 bv3452 => ?_)
    refine WQ_icmp_ge 22 dX10_isThing_15 rfl (fun c3452 => ?_) (fun c3452 => ?_)
    · refine WQ_iconst (0) (0) dX10_isThing_22 rfl rfl (fun v3454 hv3454 => ?_)
      exact WP_zret dX10_isThing_23 rfl (nar_z (by omega)) ⟨⟨rfl, rfl, rfl⟩, _, rfl, by omega, by omega, by omega⟩
    · refine WQ_iconst (1) (1) dX10_isThing_18 rfl rfl (fun v3455 hv3455 => ?_)
      refine WP_goto 23 dX10_isThing_19 rfl ?_
      exact WP_zret dX10_isThing_23 rfl (nar_z (by omega)) ⟨⟨rfl, rfl, rfl⟩, _, rfl, by omega, by omega, by omega⟩
set_option maxHeartbeats 4000000 in
set_option maxRecDepth 100000 in
theorem sx_isPerson_27 {g : GG} {n : Int} {L : Int32} (hy : LyX g)  {I : pI} {J : pJ} {R : pR} (hr : RfX g R) (hT : R (ad g 5) 0 = some (ad g 27)) (hI : XI g n L I) (a : Int32) (b : Int32) (c : Int32) (e : Int32)  : SP g mX10_isPerson [.ref (ad g 0), .int a, .int b, .int c, .int e] I J R (fun r I' J' R' => (I' = I ∧ J' = J ∧ R' = R) ∧ ∃ v : Int32, r = some (.int v) ∧ 0 ≤ v.toInt ∧ v.toInt ≤ 1 ∧ (v.toInt = 1 → (0 ≤ a.toInt ∧ a.toInt ≤ 3) ∧ (0 ≤ b.toInt ∧ b.toInt ≤ 6) ∧ (0 ≤ c.toInt ∧ c.toInt ≤ 60) ∧ (0 ≤ e.toInt ∧ e.toInt ≤ 5))) := by
  refine SP_of ⟨by decide, rfl⟩ (Nat.le_of_ble_eq_true rfl) ?_
  have e3456 : I (ad g 1) 1 = L := hI.2
  have b3457 := BT_get hI.1 1 1 2 (0) (0) (900) (by decide) 1 (by decide) (by decide)
  rw [e3456] at b3457
  refine WP_aload_n dX10_isPerson_0 rfl ?_
  refine WP_iload_n dX10_isPerson_1 rfl ?_
  refine WP_callV1 (k := 10) dX10_isPerson_2 ⟨⟨⟨by decide, by decide⟩, zX10_isSort⟩, lX10_152, by decide, rfl, vX10_isSort.1, vX10_isSort.2⟩ (lyx_is hy 0 10 rfl) (sx_isSort_27 hy hr hT hI a ) (Nat.le_of_ble_eq_true rfl) ?_
  intro r Ia Ja Ra hq
  obtain ⟨⟨ea, eb, ec⟩, v3458, rfl, av3458, bv3458, cv3458⟩ := hq
  show WP _ _ _ _ (.int _ :: _) _ _ _ _
  rw [ea, eb, ec]
  clear ea eb ec Ia Ja Ra
  refine WQ_if_eq 28 dX10_isPerson_5 rfl (fun c3458 => ?_) (fun c3458 => ?_)
  · refine WQ_iconst (0) (0) dX10_isPerson_28 rfl rfl (fun v3460 hv3460 => ?_)
    exact WP_zret dX10_isPerson_29 rfl (nar_z (by omega)) ⟨⟨rfl, rfl, rfl⟩, _, rfl, by omega, by omega, by omega⟩
  · refine WP_iload_n dX10_isPerson_8 rfl ?_
    refine WP_callS1 dX10_isPerson_9 ⟨⟨⟨by decide, by decide⟩, zX10_isDay⟩, lX10_156, tX10_isDay⟩ (sx_isDay hy hr hI b ) (Nat.le_of_ble_eq_true rfl) ?_
    intro r Ia Ja Ra hq
    obtain ⟨⟨ea, eb, ec⟩, v3461, rfl, av3461, bv3461, cv3461⟩ := hq
    show WP _ _ _ _ (.int _ :: _) _ _ _ _
    rw [ea, eb, ec]
    clear ea eb ec Ia Ja Ra
    refine WQ_if_eq 28 dX10_isPerson_12 rfl (fun c3461 => ?_) (fun c3461 => ?_)
    · refine WQ_iconst (0) (0) dX10_isPerson_28 rfl rfl (fun v3463 hv3463 => ?_)
      exact WP_zret dX10_isPerson_29 rfl (nar_z (by omega)) ⟨⟨rfl, rfl, rfl⟩, _, rfl, by omega, by omega, by omega⟩
    · refine WP_iload_n dX10_isPerson_15 rfl ?_
      refine WP_iload dX10_isPerson_16 rfl ?_
      refine WP_callS2 dX10_isPerson_18 ⟨⟨⟨by decide, by decide⟩, zX10_isHeld⟩, lX10_180, tX10_isHeld⟩ (sx_isHeld hy hr hI c e  ) (Nat.le_of_ble_eq_true rfl) ?_
      intro r Ia Ja Ra hq
      obtain ⟨⟨ea, eb, ec⟩, v3464, rfl, av3464, bv3464, cv3464⟩ := hq
      show WP _ _ _ _ (.int _ :: _) _ _ _ _
      rw [ea, eb, ec]
      clear ea eb ec Ia Ja Ra
      refine WQ_if_eq 28 dX10_isPerson_21 rfl (fun c3464 => ?_) (fun c3464 => ?_)
      · refine WQ_iconst (0) (0) dX10_isPerson_28 rfl rfl (fun v3466 hv3466 => ?_)
        exact WP_zret dX10_isPerson_29 rfl (nar_z (by omega)) ⟨⟨rfl, rfl, rfl⟩, _, rfl, by omega, by omega, by omega⟩
      · refine WQ_iconst (1) (1) dX10_isPerson_24 rfl rfl (fun v3467 hv3467 => ?_)
        refine WP_goto 29 dX10_isPerson_25 rfl ?_
        exact WP_zret dX10_isPerson_29 rfl (nar_z (by omega)) ⟨⟨rfl, rfl, rfl⟩, _, rfl, by omega, by omega, by omega⟩
set_option maxHeartbeats 4000000 in
set_option maxRecDepth 100000 in
theorem sx_told_27 {g : GG} {n : Int} {L : Int32} (hy : LyX g)  {I : pI} {J : pJ} {R : pR} (hr : RfX g R) (hT : R (ad g 5) 0 = some (ad g 27)) (hI : XI g n L I) (a : Int32)  : SP g mX10_told [.ref (ad g 0), .int a] I J R (fun r I' J' R' => (I' = I ∧ J' = J ∧ R' = R) ∧ ∃ v : Int32, r = some (.int v)) := by
  refine SP_of ⟨by decide, rfl⟩ (Nat.le_of_ble_eq_true rfl) ?_
  have e3468 : I (ad g 1) 1 = L := hI.2
  have b3469 := BT_get hI.1 1 1 2 (0) (0) (900) (by decide) 1 (by decide) (by decide)
  rw [e3468] at b3469
  refine WP_aload_n dX10_told_0 rfl ?_
  refine WP_getr dX10_told_1 fX10_33 rfl (lyx_is hy 0 10 rfl) (rfx hr 0 2 5 (by decide)) ?_
  refine WP_getr dX10_told_4 fX10_102 rfl (lyx_is hy 5 0 rfl) hT ?_
  refine WP_astore_n (ls' := [(0, _), (1, _), (2, _)]) dX10_told_7 (by decide) rfl ?_
  refine WP_iload_n dX10_told_8 rfl ?_
  refine WP_tab 60 dX10_told_9 rfl rfl (fun c3469 => ?_) (fun j off c3469 hj => ?_) (by decide)
  · refine WP_iload_n dX10_told_60 rfl ?_
    refine WQ_bipush (10) (10) dX10_told_61 rfl rfl (fun v3471 hv3471 => ?_)
    refine WQ_idivu dX10_told_63 (by omega) (fun v3472 => ?_)
    refine WP_istore_n (ls' := [(0, _), (1, _), (2, _), (3, _)]) dX10_told_64 (by decide) rfl ?_
    refine WP_iload_n dX10_told_65 rfl ?_
    refine WQ_bipush (10) (10) dX10_told_66 rfl rfl (fun v3473 hv3473 => ?_)
    refine WQ_iremi (10) dX10_told_68 hv3473 (by decide) (fun v3474 hv3474 => ?_)
    refine WP_istore (ls' := [(0, _), (1, _), (2, _), (3, _), (4, _)]) dX10_told_69 (by decide) rfl ?_
    refine WP_iload dX10_told_71 rfl ?_
    refine WQ_if_ge 78 dX10_told_73 rfl (fun c3474 => ?_) (fun c3474 => ?_)
    · refine WP_iload_n dX10_told_78 rfl ?_
      refine WQ_iconst (1) (1) dX10_told_79 rfl rfl (fun v3476 hv3476 => ?_)
      refine WQ_icmp_ne 102 dX10_told_80 rfl (fun c3476 => ?_) (fun c3476 => ?_)
      · refine WP_iload_n dX10_told_102 rfl ?_
        refine WQ_bipush (6) (6) dX10_told_103 rfl rfl (fun v3478 hv3478 => ?_)
        refine WQ_icmp_eq 114 dX10_told_105 rfl (fun c3478 => ?_) (fun c3478 => ?_)
        · refine WP_iload dX10_told_114 rfl ?_
          refine WP_aload_n dX10_told_116 rfl ?_
          refine WQ_geti dX10_told_117 fX10_117 rfl (lyx_is hy 27 7 rfl) (BT_get hI.1 27 2 3 (0) (0) (3) (by decide) 2 (by decide) (by decide)) (fun v3480 ev3480 av3480 bv3480 => ?_)
          have jn150_3485 : ∀ (v3485 : Int32), -1 ≤ v3485.toInt → v3485.toInt ≤ 1000 → WP g mX10_told 150 [(0, .ref (ad g 0)), (1, .int a), (2, .ref (ad g 27)), (3, .int v3472), (4, .int v3474)] [.int v3485] I J R (fun r I' J' R' => (I' = I ∧ J' = J ∧ R' = R) ∧ ∃ v : Int32, r = some (.int v)) := by
            intro v3485 av3485 bv3485
            exact WP_iret dX10_told_150 rfl ⟨⟨rfl, rfl, rfl⟩, _, rfl⟩
          refine WQ_icmp_ge 149 dX10_told_120 rfl (fun c3486 => ?_) (fun c3486 => ?_)
          · refine WQ_iconst (-1) (-1) dX10_told_149 rfl rfl (fun v3488 hv3488 => ?_)
            exact WP_sub (fc rfl (fc rfl (fc rfl (fc rfl (fc rfl fn))))) (jn150_3485 v3488 (by omega) (by omega))
          · refine WP_iload_n dX10_told_123 rfl ?_
            refine WQ_bipush (6) (6) dX10_told_124 rfl rfl (fun v3489 hv3489 => ?_)
            refine WQ_icmp_ne 139 dX10_told_126 rfl (fun c3489 => False.elim (by omega)) (fun c3489 => ?_)
            refine WP_aload_n dX10_told_129 rfl ?_
            refine WP_getr dX10_told_130 fX10_130 rfl (lyx_is hy 27 7 rfl) (rfx hr 27 14 37 (by decide)) ?_
            refine WP_iload dX10_told_133 rfl ?_
            refine WQ_iald dX10_told_135 (lyx_is hy 37 13 rfl) (lyx_n hy 37 3 rfl) (by omega) (by omega) (fun q hq => BT_get hI.1 37 0 3 (0) (0) (1000) (by decide) q (Nat.zero_le _) hq) (fun v3491 av3491 bv3491 ev3491 => ?_)
            clear ev3491
            refine WP_goto 150 dX10_told_136 rfl ?_
            exact WP_sub (fc rfl (fc rfl (fc rfl (fc rfl (fc rfl fn))))) (jn150_3485 v3491 (by omega) (by omega))
        · refine WP_iload_n dX10_told_108 rfl ?_
          refine WQ_bipush (7) (7) dX10_told_109 rfl rfl (fun v3492 hv3492 => ?_)
          refine WQ_icmp_ne 151 dX10_told_111 rfl (fun c3492 => ?_) (fun c3492 => ?_)
          · refine WP_iload dX10_told_151 rfl ?_
            refine WP_aload_n dX10_told_153 rfl ?_
            refine WQ_geti dX10_told_154 fX10_114 rfl (lyx_is hy 27 7 rfl) (BT_get hI.1 27 1 2 (0) (0) (4) (by decide) 1 (by decide) (by decide)) (fun v3494 ev3494 av3494 bv3494 => ?_)
            refine WQ_icmp_ge 170 dX10_told_157 rfl (fun c3494 => ?_) (fun c3494 => ?_)
            · refine WQ_iconst (-1) (-1) dX10_told_170 rfl rfl (fun v3496 hv3496 => ?_)
              exact WP_iret dX10_told_171 rfl ⟨⟨rfl, rfl, rfl⟩, _, rfl⟩
            · refine WP_aload_n dX10_told_160 rfl ?_
              refine WP_iload_n dX10_told_161 rfl ?_
              refine WP_iload dX10_told_162 rfl ?_
              refine WP_callS3 dX10_told_164 ⟨⟨⟨by decide, by decide⟩, zX10_toldOfSort⟩, lX10_136, tX10_toldOfSort⟩ (sx_toldOfSort_27 hy hr hI v3472 v3474  (by omega) (by omega)) (Nat.le_of_ble_eq_true rfl) ?_
              intro r Ia Ja Ra hq
              obtain ⟨⟨ea, eb, ec⟩, v3497, rfl⟩ := hq
              show WP _ _ _ _ (.int _ :: _) _ _ _ _
              rw [ea, eb, ec]
              clear ea eb ec Ia Ja Ra
              refine WP_goto 171 dX10_told_167 rfl ?_
              exact WP_iret dX10_told_171 rfl ⟨⟨rfl, rfl, rfl⟩, _, rfl⟩
          · refine WP_iload dX10_told_114 rfl ?_
            refine WP_aload_n dX10_told_116 rfl ?_
            refine WQ_geti dX10_told_117 fX10_117 rfl (lyx_is hy 27 7 rfl) (BT_get hI.1 27 2 3 (0) (0) (3) (by decide) 2 (by decide) (by decide)) (fun v3498 ev3498 av3498 bv3498 => ?_)
            have jn150_3503 : ∀ (v3503 : Int32), -1 ≤ v3503.toInt → v3503.toInt ≤ 9 → WP g mX10_told 150 [(0, .ref (ad g 0)), (1, .int a), (2, .ref (ad g 27)), (3, .int v3472), (4, .int v3474)] [.int v3503] I J R (fun r I' J' R' => (I' = I ∧ J' = J ∧ R' = R) ∧ ∃ v : Int32, r = some (.int v)) := by
              intro v3503 av3503 bv3503
              exact WP_iret dX10_told_150 rfl ⟨⟨rfl, rfl, rfl⟩, _, rfl⟩
            refine WQ_icmp_ge 149 dX10_told_120 rfl (fun c3504 => ?_) (fun c3504 => ?_)
            · refine WQ_iconst (-1) (-1) dX10_told_149 rfl rfl (fun v3506 hv3506 => ?_)
              exact WP_sub (fc rfl (fc rfl (fc rfl (fc rfl (fc rfl fn))))) (jn150_3503 v3506 (by omega) (by omega))
            · refine WP_iload_n dX10_told_123 rfl ?_
              refine WQ_bipush (6) (6) dX10_told_124 rfl rfl (fun v3507 hv3507 => ?_)
              refine WQ_icmp_ne 139 dX10_told_126 rfl (fun c3507 => ?_) (fun c3507 => False.elim (by omega))
              refine WP_aload_n dX10_told_139 rfl ?_
              refine WP_getr dX10_told_140 fX10_133 rfl (lyx_is hy 27 7 rfl) (rfx hr 27 15 38 (by decide)) ?_
              refine WP_iload dX10_told_143 rfl ?_
              refine WQ_iald dX10_told_145 (lyx_is hy 38 13 rfl) (lyx_n hy 38 3 rfl) (by omega) (by omega) (fun q hq => BT_get hI.1 38 0 3 (0) (0) (9) (by decide) q (Nat.zero_le _) hq) (fun v3509 av3509 bv3509 ev3509 => ?_)
              clear ev3509
              refine WP_goto 150 dX10_told_146 rfl ?_
              exact WP_sub (fc rfl (fc rfl (fc rfl (fc rfl (fc rfl fn))))) (jn150_3503 v3509 (by omega) (by omega))
      · refine WP_iload dX10_told_83 rfl ?_
        refine WQ_bipush (7) (7) dX10_told_85 rfl rfl (fun v3510 hv3510 => ?_)
        have jn101_3513 : ∀ (v3513 : Int32), -1 ≤ v3513.toInt → v3513.toInt ≤ 900 → WP g mX10_told 101 [(0, .ref (ad g 0)), (1, .int a), (2, .ref (ad g 27)), (3, .int v3472), (4, .int v3474)] [.int v3513] I J R (fun r I' J' R' => (I' = I ∧ J' = J ∧ R' = R) ∧ ∃ v : Int32, r = some (.int v)) := by
          intro v3513 av3513 bv3513
          exact WP_iret dX10_told_101 rfl ⟨⟨rfl, rfl, rfl⟩, _, rfl⟩
        refine WQ_icmp_ge 100 dX10_told_87 rfl (fun c3514 => ?_) (fun c3514 => ?_)
        · refine WQ_iconst (-1) (-1) dX10_told_100 rfl rfl (fun v3516 hv3516 => ?_)
          exact WP_sub (fc rfl (fc rfl (fc rfl (fc rfl (fc rfl fn))))) (jn101_3513 v3516 (by omega) (by omega))
        · refine WP_aload_n dX10_told_90 rfl ?_
          refine WP_getr dX10_told_91 fX10_126 rfl (lyx_is hy 27 7 rfl) (rfx hr 27 5 28 (by decide)) ?_
          refine WP_iload dX10_told_94 rfl ?_
          refine WQ_iald dX10_told_96 (lyx_is hy 28 13 rfl) (lyx_n hy 28 7 rfl) (by omega) (by omega) (fun q hq => BT_get hI.1 28 0 7 (0) (0) (900) (by decide) q (Nat.zero_le _) hq) (fun v3517 av3517 bv3517 ev3517 => ?_)
          clear ev3517
          refine WP_goto 101 dX10_told_97 rfl ?_
          exact WP_sub (fc rfl (fc rfl (fc rfl (fc rfl (fc rfl fn))))) (jn101_3513 v3517 (by omega) (by omega))
    · refine WQ_iconst (-1) (-1) dX10_told_76 rfl rfl (fun v3518 hv3518 => ?_)
      exact WP_iret dX10_told_77 rfl ⟨⟨rfl, rfl, rfl⟩, _, rfl⟩
  · have hlt : j < 4 := by have := (Array.getElem?_eq_some_iff.mp hj).1; simpa using this
    have hcs : (j = 0 ∧ off = 31) ∨ (j = 1 ∧ off = 36) ∨ (j = 2 ∧ off = 41) ∨ (j = 3 ∧ off = 46) := by
      match j, hlt, hj with
      | 0, _, hj => exact Or.inl ⟨rfl, (Option.some.inj hj).symm⟩
      | 1, _, hj => exact Or.inr (Or.inl ⟨rfl, (Option.some.inj hj).symm⟩)
      | 2, _, hj => exact Or.inr (Or.inr (Or.inl ⟨rfl, (Option.some.inj hj).symm⟩))
      | 3, _, hj => exact Or.inr (Or.inr (Or.inr (⟨rfl, (Option.some.inj hj).symm⟩)))
    clear hj hlt
    rcases hcs with ⟨rfl, rfl⟩ | ⟨rfl, rfl⟩ | ⟨rfl, rfl⟩ | ⟨rfl, rfl⟩
    · show WP _ _ 40 _ _ _ _ _ _
      refine WP_aload_n dX10_told_40 rfl ?_
      refine WQ_geti dX10_told_41 fX10_114 rfl (lyx_is hy 27 7 rfl) (BT_get hI.1 27 1 2 (0) (0) (4) (by decide) 1 (by decide) (by decide)) (fun v3519 ev3519 av3519 bv3519 => ?_)
      exact WP_iret dX10_told_44 rfl ⟨⟨rfl, rfl, rfl⟩, _, rfl⟩
    · show WP _ _ 45 _ _ _ _ _ _
      refine WP_aload_n dX10_told_45 rfl ?_
      refine WQ_geti dX10_told_46 fX10_117 rfl (lyx_is hy 27 7 rfl) (BT_get hI.1 27 2 3 (0) (0) (3) (by decide) 2 (by decide) (by decide)) (fun v3520 ev3520 av3520 bv3520 => ?_)
      exact WP_iret dX10_told_49 rfl ⟨⟨rfl, rfl, rfl⟩, _, rfl⟩
    · show WP _ _ 50 _ _ _ _ _ _
      refine WP_aload_n dX10_told_50 rfl ?_
      refine WQ_geti dX10_told_51 fX10_120 rfl (lyx_is hy 27 7 rfl) (BT_get hI.1 27 3 4 (-1) (0) (3) (by decide) 3 (by decide) (by decide)) (fun v3521 ev3521 av3521 bv3521 => ?_)
      exact WP_iret dX10_told_54 rfl ⟨⟨rfl, rfl, rfl⟩, _, rfl⟩
    · show WP _ _ 55 _ _ _ _ _ _
      refine WP_aload_n dX10_told_55 rfl ?_
      refine WQ_geti dX10_told_56 fX10_123 rfl (lyx_is hy 27 7 rfl) (BT_get hI.1 27 4 5 (-1) (0) (2) (by decide) 4 (by decide) (by decide)) (fun v3522 ev3522 av3522 bv3522 => ?_)
      exact WP_iret dX10_told_59 rfl ⟨⟨rfl, rfl, rfl⟩, _, rfl⟩
set_option maxHeartbeats 4000000 in
set_option maxRecDepth 100000 in
theorem sx_earns_27 {g : GG} {n : Int} {L : Int32} (hy : LyX g)  {I : pI} {J : pJ} {R : pR} (hr : RfX g R) (hT : R (ad g 5) 0 = some (ad g 27)) (hI : XI g n L I) (a : Int32) (b : Int32)  : SP g mX10_earns [.ref (ad g 0), .int a, .int b] I J R (fun r I' J' R' => (I' = I ∧ J' = J ∧ R' = R) ∧ ∃ v : Int32, r = some (.int v)) := by
  refine SP_of ⟨by decide, rfl⟩ (Nat.le_of_ble_eq_true rfl) ?_
  have e3523 : I (ad g 1) 1 = L := hI.2
  have b3524 := BT_get hI.1 1 1 2 (0) (0) (900) (by decide) 1 (by decide) (by decide)
  rw [e3523] at b3524
  refine WP_aload_n dX10_earns_0 rfl ?_
  refine WP_iload_n dX10_earns_1 rfl ?_
  refine WP_callV1 (k := 10) dX10_earns_2 ⟨⟨⟨by decide, by decide⟩, zX10_isSort⟩, lX10_152, by decide, rfl, vX10_isSort.1, vX10_isSort.2⟩ (lyx_is hy 0 10 rfl) (sx_isSort_27 hy hr hT hI a ) (Nat.le_of_ble_eq_true rfl) ?_
  intro r Ia Ja Ra hq
  obtain ⟨⟨ea, eb, ec⟩, v3525, rfl, av3525, bv3525, cv3525⟩ := hq
  show WP _ _ _ _ (.int _ :: _) _ _ _ _
  rw [ea, eb, ec]
  clear ea eb ec Ia Ja Ra
  have jn37_3534 : ∀ (v3534 : Int32), -2 ≤ v3534.toInt → v3534.toInt ≤ 20 → WP g mX10_earns 37 [(0, .ref (ad g 0)), (1, .int a), (2, .int b)] [.int v3534] I J R (fun r I' J' R' => (I' = I ∧ J' = J ∧ R' = R) ∧ ∃ v : Int32, r = some (.int v)) := by
    intro v3534 av3534 bv3534
    exact WP_iret dX10_earns_37 rfl ⟨⟨rfl, rfl, rfl⟩, _, rfl⟩
  refine WQ_if_eq 35 dX10_earns_5 rfl (fun c3535 => ?_) (fun c3535 => ?_)
  · refine WQ_bipush (-2) (-2) dX10_earns_35 rfl rfl (fun v3537 hv3537 => ?_)
    exact WP_sub (fc rfl (fc rfl (fc rfl fn))) (jn37_3534 v3537 (by omega) (by omega))
  · refine WP_iload_n dX10_earns_8 rfl ?_
    refine WP_callS1 dX10_earns_9 ⟨⟨⟨by decide, by decide⟩, zX10_isDay⟩, lX10_156, tX10_isDay⟩ (sx_isDay hy hr hI b ) (Nat.le_of_ble_eq_true rfl) ?_
    intro r Ia Ja Ra hq
    obtain ⟨⟨ea, eb, ec⟩, v3538, rfl, av3538, bv3538, cv3538⟩ := hq
    show WP _ _ _ _ (.int _ :: _) _ _ _ _
    rw [ea, eb, ec]
    clear ea eb ec Ia Ja Ra
    refine WQ_if_eq 35 dX10_earns_12 rfl (fun c3538 => ?_) (fun c3538 => ?_)
    · refine WQ_bipush (-2) (-2) dX10_earns_35 rfl rfl (fun v3540 hv3540 => ?_)
      exact WP_sub (fc rfl (fc rfl (fc rfl fn))) (jn37_3534 v3540 (by omega) (by omega))
    · refine WP_aload_n dX10_earns_15 rfl ?_
      refine WP_getr dX10_earns_16 fX10_33 rfl (lyx_is hy 0 10 rfl) (rfx hr 0 2 5 (by decide)) ?_
      refine WP_getr dX10_earns_19 fX10_102 rfl (lyx_is hy 5 0 rfl) hT ?_
      refine WP_getr dX10_earns_22 fX10_159 rfl (lyx_is hy 27 7 rfl) (rfx hr 27 10 33 (by decide)) ?_
      refine WP_iload_n dX10_earns_25 rfl ?_
      refine WQ_bipush (7) (7) dX10_earns_26 rfl rfl (fun v3541 hv3541 => ?_)
      refine WQ_imulk (7) dX10_earns_28 hv3541 (by omega) (by omega) (fun v3542 hv3542 => ?_)
      refine WP_iload_n dX10_earns_29 rfl ?_
      refine WQ_iadd dX10_earns_30 (by omega) (by omega) (fun v3543 hv3543 => ?_)
      refine WQ_iald dX10_earns_31 (lyx_is hy 33 13 rfl) (lyx_n hy 33 28 rfl) (by omega) (by omega) (fun q hq => BT_get hI.1 33 0 28 (0) (0) (20) (by decide) q (Nat.zero_le _) hq) (fun v3544 av3544 bv3544 ev3544 => ?_)
      clear ev3544
      refine WP_goto 37 dX10_earns_32 rfl ?_
      exact WP_sub (fc rfl (fc rfl (fc rfl fn))) (jn37_3534 v3544 (by omega) (by omega))
set_option maxHeartbeats 4000000 in
set_option maxRecDepth 100000 in
theorem sx_price_27 {g : GG} {n : Int} {L : Int32} (hy : LyX g)  {I : pI} {J : pJ} {R : pR} (hr : RfX g R) (hT : R (ad g 5) 0 = some (ad g 27)) (hI : XI g n L I) (a : Int32) (b : Int32)  : SP g mX10_price [.ref (ad g 0), .int a, .int b] I J R (fun r I' J' R' => (I' = I ∧ J' = J ∧ R' = R) ∧ ∃ v : Int32, r = some (.int v)) := by
  refine SP_of ⟨by decide, rfl⟩ (Nat.le_of_ble_eq_true rfl) ?_
  have e3545 : I (ad g 1) 1 = L := hI.2
  have b3546 := BT_get hI.1 1 1 2 (0) (0) (900) (by decide) 1 (by decide) (by decide)
  rw [e3545] at b3546
  refine WP_aload_n dX10_price_0 rfl ?_
  refine WP_iload_n dX10_price_1 rfl ?_
  refine WP_callV1 (k := 10) dX10_price_2 ⟨⟨⟨by decide, by decide⟩, zX10_isThing⟩, lX10_162, by decide, rfl, vX10_isThing.1, vX10_isThing.2⟩ (lyx_is hy 0 10 rfl) (sx_isThing_27 hy hr hT hI a ) (Nat.le_of_ble_eq_true rfl) ?_
  intro r Ia Ja Ra hq
  obtain ⟨⟨ea, eb, ec⟩, v3547, rfl, av3547, bv3547, cv3547⟩ := hq
  show WP _ _ _ _ (.int _ :: _) _ _ _ _
  rw [ea, eb, ec]
  clear ea eb ec Ia Ja Ra
  have jn34_3556 : ∀ (v3556 : Int32), -2 ≤ v3556.toInt → v3556.toInt ≤ 20 → WP g mX10_price 34 [(0, .ref (ad g 0)), (1, .int a), (2, .int b)] [.int v3556] I J R (fun r I' J' R' => (I' = I ∧ J' = J ∧ R' = R) ∧ ∃ v : Int32, r = some (.int v)) := by
    intro v3556 av3556 bv3556
    exact WP_iret dX10_price_34 rfl ⟨⟨rfl, rfl, rfl⟩, _, rfl⟩
  refine WQ_if_eq 32 dX10_price_5 rfl (fun c3557 => ?_) (fun c3557 => ?_)
  · refine WQ_bipush (-2) (-2) dX10_price_32 rfl rfl (fun v3559 hv3559 => ?_)
    exact WP_sub (fc rfl (fc rfl (fc rfl fn))) (jn34_3556 v3559 (by omega) (by omega))
  · refine WP_iload_n dX10_price_8 rfl ?_
    refine WP_callS1 dX10_price_9 ⟨⟨⟨by decide, by decide⟩, zX10_isDay⟩, lX10_156, tX10_isDay⟩ (sx_isDay hy hr hI b ) (Nat.le_of_ble_eq_true rfl) ?_
    intro r Ia Ja Ra hq
    obtain ⟨⟨ea, eb, ec⟩, v3560, rfl, av3560, bv3560, cv3560⟩ := hq
    show WP _ _ _ _ (.int _ :: _) _ _ _ _
    rw [ea, eb, ec]
    clear ea eb ec Ia Ja Ra
    refine WQ_if_eq 32 dX10_price_12 rfl (fun c3560 => ?_) (fun c3560 => ?_)
    · refine WQ_bipush (-2) (-2) dX10_price_32 rfl rfl (fun v3562 hv3562 => ?_)
      exact WP_sub (fc rfl (fc rfl (fc rfl fn))) (jn34_3556 v3562 (by omega) (by omega))
    · refine WP_aload_n dX10_price_15 rfl ?_
      refine WP_getr dX10_price_16 fX10_33 rfl (lyx_is hy 0 10 rfl) (rfx hr 0 2 5 (by decide)) ?_
      refine WP_getr dX10_price_19 fX10_165 rfl (lyx_is hy 5 0 rfl) (rfx hr 5 1 22 (by decide)) ?_
      refine WP_iload_n dX10_price_22 rfl ?_
      refine WQ_bipush (7) (7) dX10_price_23 rfl rfl (fun v3563 hv3563 => ?_)
      refine WQ_imulk (7) dX10_price_25 hv3563 (by omega) (by omega) (fun v3564 hv3564 => ?_)
      refine WP_iload_n dX10_price_26 rfl ?_
      refine WQ_iadd dX10_price_27 (by omega) (by omega) (fun v3565 hv3565 => ?_)
      refine WQ_iald dX10_price_28 (lyx_is hy 22 13 rfl) (lyx_n hy 22 21 rfl) (by omega) (by omega) (fun q hq => BT_get hI.1 22 0 21 (0) (0) (20) (by decide) q (Nat.zero_le _) hq) (fun v3566 av3566 bv3566 ev3566 => ?_)
      clear ev3566
      refine WP_goto 34 dX10_price_29 rfl ?_
      exact WP_sub (fc rfl (fc rfl (fc rfl fn))) (jn34_3556 v3566 (by omega) (by omega))
set_option maxHeartbeats 4000000 in
set_option maxRecDepth 100000 in
theorem sx_made_27 {g : GG} {n : Int} {L : Int32} (hy : LyX g)  {I : pI} {J : pJ} {R : pR} (hr : RfX g R) (hT : R (ad g 5) 0 = some (ad g 27)) (hI : XI g n L I) (a : Int32) (b : Int32)  : SP g mX10_made [.ref (ad g 0), .int a, .int b] I J R (fun r I' J' R' => (I' = I ∧ J' = J ∧ R' = R) ∧ ∃ v : Int32, r = some (.int v)) := by
  refine SP_of ⟨by decide, rfl⟩ (Nat.le_of_ble_eq_true rfl) ?_
  have e3567 : I (ad g 1) 1 = L := hI.2
  have b3568 := BT_get hI.1 1 1 2 (0) (0) (900) (by decide) 1 (by decide) (by decide)
  rw [e3567] at b3568
  refine WP_aload_n dX10_made_0 rfl ?_
  refine WP_iload_n dX10_made_1 rfl ?_
  refine WP_callV1 (k := 10) dX10_made_2 ⟨⟨⟨by decide, by decide⟩, zX10_isThing⟩, lX10_162, by decide, rfl, vX10_isThing.1, vX10_isThing.2⟩ (lyx_is hy 0 10 rfl) (sx_isThing_27 hy hr hT hI a ) (Nat.le_of_ble_eq_true rfl) ?_
  intro r Ia Ja Ra hq
  obtain ⟨⟨ea, eb, ec⟩, v3569, rfl, av3569, bv3569, cv3569⟩ := hq
  show WP _ _ _ _ (.int _ :: _) _ _ _ _
  rw [ea, eb, ec]
  clear ea eb ec Ia Ja Ra
  have jn37_3578 : ∀ (v3578 : Int32), -2 ≤ v3578.toInt → v3578.toInt ≤ 999 → WP g mX10_made 37 [(0, .ref (ad g 0)), (1, .int a), (2, .int b)] [.int v3578] I J R (fun r I' J' R' => (I' = I ∧ J' = J ∧ R' = R) ∧ ∃ v : Int32, r = some (.int v)) := by
    intro v3578 av3578 bv3578
    exact WP_iret dX10_made_37 rfl ⟨⟨rfl, rfl, rfl⟩, _, rfl⟩
  refine WQ_if_eq 35 dX10_made_5 rfl (fun c3579 => ?_) (fun c3579 => ?_)
  · refine WQ_bipush (-2) (-2) dX10_made_35 rfl rfl (fun v3581 hv3581 => ?_)
    exact WP_sub (fc rfl (fc rfl (fc rfl fn))) (jn37_3578 v3581 (by omega) (by omega))
  · refine WP_iload_n dX10_made_8 rfl ?_
    refine WP_callS1 dX10_made_9 ⟨⟨⟨by decide, by decide⟩, zX10_isDay⟩, lX10_156, tX10_isDay⟩ (sx_isDay hy hr hI b ) (Nat.le_of_ble_eq_true rfl) ?_
    intro r Ia Ja Ra hq
    obtain ⟨⟨ea, eb, ec⟩, v3582, rfl, av3582, bv3582, cv3582⟩ := hq
    show WP _ _ _ _ (.int _ :: _) _ _ _ _
    rw [ea, eb, ec]
    clear ea eb ec Ia Ja Ra
    refine WQ_if_eq 35 dX10_made_12 rfl (fun c3582 => ?_) (fun c3582 => ?_)
    · refine WQ_bipush (-2) (-2) dX10_made_35 rfl rfl (fun v3584 hv3584 => ?_)
      exact WP_sub (fc rfl (fc rfl (fc rfl fn))) (jn37_3578 v3584 (by omega) (by omega))
    · refine WP_aload_n dX10_made_15 rfl ?_
      refine WP_getr dX10_made_16 fX10_33 rfl (lyx_is hy 0 10 rfl) (rfx hr 0 2 5 (by decide)) ?_
      refine WP_getr dX10_made_19 fX10_102 rfl (lyx_is hy 5 0 rfl) hT ?_
      refine WP_getr dX10_made_22 fX10_168 rfl (lyx_is hy 27 7 rfl) (rfx hr 27 17 40 (by decide)) ?_
      refine WP_iload_n dX10_made_25 rfl ?_
      refine WQ_bipush (7) (7) dX10_made_26 rfl rfl (fun v3585 hv3585 => ?_)
      refine WQ_imulk (7) dX10_made_28 hv3585 (by omega) (by omega) (fun v3586 hv3586 => ?_)
      refine WP_iload_n dX10_made_29 rfl ?_
      refine WQ_iadd dX10_made_30 (by omega) (by omega) (fun v3587 hv3587 => ?_)
      refine WQ_iald dX10_made_31 (lyx_is hy 40 13 rfl) (lyx_n hy 40 21 rfl) (by omega) (by omega) (fun q hq => BT_get hI.1 40 0 21 (-1) (0) (999) (by decide) q (Nat.zero_le _) hq) (fun v3588 av3588 bv3588 ev3588 => ?_)
      clear ev3588
      refine WP_goto 37 dX10_made_32 rfl ?_
      exact WP_sub (fc rfl (fc rfl (fc rfl fn))) (jn37_3578 v3588 (by omega) (by omega))
set_option maxHeartbeats 4000000 in
set_option maxRecDepth 100000 in
theorem sx_wants_27 {g : GG} {n : Int} {L : Int32} (hy : LyX g)  {I : pI} {J : pJ} {R : pR} (hr : RfX g R) (hT : R (ad g 5) 0 = some (ad g 27)) (hI : XI g n L I) (a : Int32) (b : Int32) (c : Int32)  : SP g mX10_wants [.ref (ad g 0), .int a, .int b, .int c] I J R (fun r I' J' R' => (I' = I ∧ J' = J ∧ R' = R) ∧ ∃ v : Int32, r = some (.int v)) := by
  refine SP_of ⟨by decide, rfl⟩ (Nat.le_of_ble_eq_true rfl) ?_
  have e3589 : I (ad g 1) 1 = L := hI.2
  have b3590 := BT_get hI.1 1 1 2 (0) (0) (900) (by decide) 1 (by decide) (by decide)
  rw [e3589] at b3590
  refine WP_aload_n dX10_wants_0 rfl ?_
  refine WP_iload_n dX10_wants_1 rfl ?_
  refine WP_callV1 (k := 10) dX10_wants_2 ⟨⟨⟨by decide, by decide⟩, zX10_isSort⟩, lX10_152, by decide, rfl, vX10_isSort.1, vX10_isSort.2⟩ (lyx_is hy 0 10 rfl) (sx_isSort_27 hy hr hT hI a ) (Nat.le_of_ble_eq_true rfl) ?_
  intro r Ia Ja Ra hq
  obtain ⟨⟨ea, eb, ec⟩, v3591, rfl, av3591, bv3591, cv3591⟩ := hq
  show WP _ _ _ _ (.int _ :: _) _ _ _ _
  rw [ea, eb, ec]
  clear ea eb ec Ia Ja Ra
  refine WQ_if_eq 15 dX10_wants_5 rfl (fun c3591 => ?_) (fun c3591 => ?_)
  · refine WQ_bipush (-2) (-2) dX10_wants_15 rfl rfl (fun v3593 hv3593 => ?_)
    exact WP_iret dX10_wants_17 rfl ⟨⟨rfl, rfl, rfl⟩, _, rfl⟩
  · refine WP_iload_n dX10_wants_8 rfl ?_
    refine WP_callS1 dX10_wants_9 ⟨⟨⟨by decide, by decide⟩, zX10_isDay⟩, lX10_156, tX10_isDay⟩ (sx_isDay hy hr hI b ) (Nat.le_of_ble_eq_true rfl) ?_
    intro r Ia Ja Ra hq
    obtain ⟨⟨ea, eb, ec⟩, v3594, rfl, av3594, bv3594, cv3594⟩ := hq
    show WP _ _ _ _ (.int _ :: _) _ _ _ _
    rw [ea, eb, ec]
    clear ea eb ec Ia Ja Ra
    refine WQ_if_ne 18 dX10_wants_12 rfl (fun c3594 => ?_) (fun c3594 => ?_)
    · refine WP_iload_n dX10_wants_18 rfl ?_
      refine WQ_bipush (7) (7) dX10_wants_19 rfl rfl (fun v3596 hv3596 => ?_)
      refine WQ_imulk (7) dX10_wants_21 hv3596 (by omega) (by omega) (fun v3597 hv3597 => ?_)
      refine WP_iload_n dX10_wants_22 rfl ?_
      refine WQ_iadd dX10_wants_23 (by omega) (by omega) (fun v3598 hv3598 => ?_)
      refine WP_istore (ls' := [(0, _), (1, _), (2, _), (3, _), (4, _)]) dX10_wants_24 (by decide) rfl ?_
      refine WP_iload_n dX10_wants_26 rfl ?_
      refine WP_tab 94 dX10_wants_27 rfl rfl (fun c3598 => ?_) (fun j off c3598 hj => ?_) (by decide)
      · refine WQ_bipush (-2) (-2) dX10_wants_94 rfl rfl (fun v3600 hv3600 => ?_)
        exact WP_iret dX10_wants_96 rfl ⟨⟨rfl, rfl, rfl⟩, _, rfl⟩
      · have hlt : j < 3 := by have := (Array.getElem?_eq_some_iff.mp hj).1; simpa using this
        have hcs : (j = 0 ∧ off = 25) ∨ (j = 1 ∧ off = 39) ∨ (j = 2 ∧ off = 53) := by
          match j, hlt, hj with
          | 0, _, hj => exact Or.inl ⟨rfl, (Option.some.inj hj).symm⟩
          | 1, _, hj => exact Or.inr (Or.inl ⟨rfl, (Option.some.inj hj).symm⟩)
          | 2, _, hj => exact Or.inr (Or.inr (⟨rfl, (Option.some.inj hj).symm⟩))
        clear hj hlt
        rcases hcs with ⟨rfl, rfl⟩ | ⟨rfl, rfl⟩ | ⟨rfl, rfl⟩
        · show WP _ _ 52 _ _ _ _ _ _
          refine WP_aload_n dX10_wants_52 rfl ?_
          refine WP_getr dX10_wants_53 fX10_33 rfl (lyx_is hy 0 10 rfl) (rfx hr 0 2 5 (by decide)) ?_
          refine WP_getr dX10_wants_56 fX10_102 rfl (lyx_is hy 5 0 rfl) hT ?_
          refine WP_getr dX10_wants_59 fX10_171 rfl (lyx_is hy 27 7 rfl) (rfx hr 27 11 34 (by decide)) ?_
          refine WP_iload dX10_wants_62 rfl ?_
          refine WQ_iald dX10_wants_64 (lyx_is hy 34 13 rfl) (lyx_n hy 34 28 rfl) (by omega) (by omega) (fun q hq => BT_get hI.1 34 0 28 (-1) (0) (2) (by decide) q (Nat.zero_le _) hq) (fun v3601 av3601 bv3601 ev3601 => ?_)
          clear ev3601
          exact WP_iret dX10_wants_65 rfl ⟨⟨rfl, rfl, rfl⟩, _, rfl⟩
        · show WP _ _ 66 _ _ _ _ _ _
          refine WP_aload_n dX10_wants_66 rfl ?_
          refine WP_getr dX10_wants_67 fX10_33 rfl (lyx_is hy 0 10 rfl) (rfx hr 0 2 5 (by decide)) ?_
          refine WP_getr dX10_wants_70 fX10_102 rfl (lyx_is hy 5 0 rfl) hT ?_
          refine WP_getr dX10_wants_73 fX10_174 rfl (lyx_is hy 27 7 rfl) (rfx hr 27 12 35 (by decide)) ?_
          refine WP_iload dX10_wants_76 rfl ?_
          refine WQ_iald dX10_wants_78 (lyx_is hy 35 13 rfl) (lyx_n hy 35 28 rfl) (by omega) (by omega) (fun q hq => BT_get hI.1 35 0 28 (0) (0) (3) (by decide) q (Nat.zero_le _) hq) (fun v3602 av3602 bv3602 ev3602 => ?_)
          clear ev3602
          exact WP_iret dX10_wants_79 rfl ⟨⟨rfl, rfl, rfl⟩, _, rfl⟩
        · show WP _ _ 80 _ _ _ _ _ _
          refine WP_aload_n dX10_wants_80 rfl ?_
          refine WP_getr dX10_wants_81 fX10_33 rfl (lyx_is hy 0 10 rfl) (rfx hr 0 2 5 (by decide)) ?_
          refine WP_getr dX10_wants_84 fX10_102 rfl (lyx_is hy 5 0 rfl) hT ?_
          refine WP_getr dX10_wants_87 fX10_177 rfl (lyx_is hy 27 7 rfl) (rfx hr 27 13 36 (by decide)) ?_
          refine WP_iload dX10_wants_90 rfl ?_
          refine WQ_iald dX10_wants_92 (lyx_is hy 36 13 rfl) (lyx_n hy 36 28 rfl) (by omega) (by omega) (fun q hq => BT_get hI.1 36 0 28 (0) (0) (99) (by decide) q (Nat.zero_le _) hq) (fun v3603 av3603 bv3603 ev3603 => ?_)
          clear ev3603
          exact WP_iret dX10_wants_93 rfl ⟨⟨rfl, rfl, rfl⟩, _, rfl⟩
    · refine WQ_bipush (-2) (-2) dX10_wants_15 rfl rfl (fun v3604 hv3604 => ?_)
      exact WP_iret dX10_wants_17 rfl ⟨⟨rfl, rfl, rfl⟩, _, rfl⟩
set_option maxHeartbeats 4000000 in
set_option maxRecDepth 100000 in
theorem sx_night_27 {g : GG} {n : Int} {L : Int32} (hy : LyX g)  {I : pI} {J : pJ} {R : pR} (hr : RfX g R) (hT : R (ad g 5) 0 = some (ad g 27)) (hI : XI g n L I) (a : Int32) (b : Int32) (c : Int32)  : SP g mX10_night [.ref (ad g 0), .int a, .int b, .int c] I J R (fun r I' J' R' => (I' = I ∧ J' = J ∧ R' = R) ∧ ∃ v : Int32, r = some (.int v)) := by
  refine SP_of ⟨by decide, rfl⟩ (Nat.le_of_ble_eq_true rfl) ?_
  have e3605 : I (ad g 1) 1 = L := hI.2
  have b3606 := BT_get hI.1 1 1 2 (0) (0) (900) (by decide) 1 (by decide) (by decide)
  rw [e3605] at b3606
  refine WP_iload_n dX10_night_0 rfl ?_
  refine WP_iload_n dX10_night_1 rfl ?_
  refine WP_callS2 dX10_night_2 ⟨⟨⟨by decide, by decide⟩, zX10_isHeld⟩, lX10_180, tX10_isHeld⟩ (sx_isHeld hy hr hI a b  ) (Nat.le_of_ble_eq_true rfl) ?_
  intro r Ia Ja Ra hq
  obtain ⟨⟨ea, eb, ec⟩, v3607, rfl, av3607, bv3607, cv3607⟩ := hq
  show WP _ _ _ _ (.int _ :: _) _ _ _ _
  rw [ea, eb, ec]
  clear ea eb ec Ia Ja Ra
  refine WQ_if_eq 32 dX10_night_5 rfl (fun c3607 => ?_) (fun c3607 => ?_)
  · refine WQ_bipush (-2) (-2) dX10_night_32 rfl rfl (fun v3609 hv3609 => ?_)
    exact WP_iret dX10_night_34 rfl ⟨⟨rfl, rfl, rfl⟩, _, rfl⟩
  · refine WP_iload_n dX10_night_8 rfl ?_
    refine WP_callS1 dX10_night_9 ⟨⟨⟨by decide, by decide⟩, zX10_isDay⟩, lX10_156, tX10_isDay⟩ (sx_isDay hy hr hI c ) (Nat.le_of_ble_eq_true rfl) ?_
    intro r Ia Ja Ra hq
    obtain ⟨⟨ea, eb, ec⟩, v3610, rfl, av3610, bv3610, cv3610⟩ := hq
    show WP _ _ _ _ (.int _ :: _) _ _ _ _
    rw [ea, eb, ec]
    clear ea eb ec Ia Ja Ra
    refine WQ_if_eq 32 dX10_night_12 rfl (fun c3610 => ?_) (fun c3610 => ?_)
    · refine WQ_bipush (-2) (-2) dX10_night_32 rfl rfl (fun v3612 hv3612 => ?_)
      exact WP_iret dX10_night_34 rfl ⟨⟨rfl, rfl, rfl⟩, _, rfl⟩
    · refine WP_aload_n dX10_night_15 rfl ?_
      refine WP_getr dX10_night_16 fX10_33 rfl (lyx_is hy 0 10 rfl) (rfx hr 0 2 5 (by decide)) ?_
      refine WP_getr dX10_night_19 fX10_102 rfl (lyx_is hy 5 0 rfl) hT ?_
      refine WQ_geti dX10_night_22 fX10_117 rfl (lyx_is hy 27 7 rfl) (BT_get hI.1 27 2 3 (0) (0) (3) (by decide) 2 (by decide) (by decide)) (fun v3613 ev3613 av3613 bv3613 => ?_)
      refine WQ_if_ne 35 dX10_night_25 rfl (fun c3613 => ?_) (fun c3613 => ?_)
      · refine WP_aload_n dX10_night_35 rfl ?_
        refine WP_getr dX10_night_36 fX10_33 rfl (lyx_is hy 0 10 rfl) (rfx hr 0 2 5 (by decide)) ?_
        refine WP_iload_n dX10_night_39 rfl ?_
        refine WP_iload_n dX10_night_40 rfl ?_
        refine WP_iload_n dX10_night_41 rfl ?_
        refine WP_callV3 (k := 0) dX10_night_42 ⟨⟨⟨by decide, by decide⟩, zX0_coinsBehind⟩, lX10_184, by decide, rfl, vX0_coinsBehind.1, vX0_coinsBehind.2⟩ (lyx_is hy 5 0 rfl) (sx_coinsBehind hy hr hI a b c (by omega) (by omega) (by omega) (by omega) (by omega) (by omega)) (Nat.le_of_ble_eq_true rfl) ?_
        intro r Ia Ja Ra hq
        obtain ⟨⟨ea, eb, ec⟩, v3615, rfl, av3615, bv3615⟩ := hq
        show WP _ _ _ _ (.int _ :: _) _ _ _ _
        rw [ea, eb, ec]
        clear ea eb ec Ia Ja Ra
        exact WP_iret dX10_night_45 rfl ⟨⟨rfl, rfl, rfl⟩, _, rfl⟩
      · refine WP_iload_n dX10_night_28 rfl ?_
        refine WQ_if_le 35 dX10_night_29 rfl (fun c3615 => ?_) (fun c3615 => ?_)
        · refine WP_aload_n dX10_night_35 rfl ?_
          refine WP_getr dX10_night_36 fX10_33 rfl (lyx_is hy 0 10 rfl) (rfx hr 0 2 5 (by decide)) ?_
          refine WP_iload_n dX10_night_39 rfl ?_
          refine WP_iload_n dX10_night_40 rfl ?_
          refine WP_iload_n dX10_night_41 rfl ?_
          refine WP_callV3 (k := 0) dX10_night_42 ⟨⟨⟨by decide, by decide⟩, zX0_coinsBehind⟩, lX10_184, by decide, rfl, vX0_coinsBehind.1, vX0_coinsBehind.2⟩ (lyx_is hy 5 0 rfl) (sx_coinsBehind hy hr hI a b c (by omega) (by omega) (by omega) (by omega) (by omega) (by omega)) (Nat.le_of_ble_eq_true rfl) ?_
          intro r Ia Ja Ra hq
          obtain ⟨⟨ea, eb, ec⟩, v3617, rfl, av3617, bv3617⟩ := hq
          show WP _ _ _ _ (.int _ :: _) _ _ _ _
          rw [ea, eb, ec]
          clear ea eb ec Ia Ja Ra
          exact WP_iret dX10_night_45 rfl ⟨⟨rfl, rfl, rfl⟩, _, rfl⟩
        · refine WQ_bipush (-2) (-2) dX10_night_32 rfl rfl (fun v3618 hv3618 => ?_)
          exact WP_iret dX10_night_34 rfl ⟨⟨rfl, rfl, rfl⟩, _, rfl⟩
set_option maxHeartbeats 4000000 in
set_option maxRecDepth 100000 in
theorem sx_count_27 {g : GG} {n : Int} {L : Int32} (hy : LyX g)  {I : pI} {J : pJ} {R : pR} (hr : RfX g R) (hT : R (ad g 5) 0 = some (ad g 27)) (hI : XI g n L I) (a : Int32)  : SP g mX10_count [.ref (ad g 0), .int a] I J R (fun r I' J' R' => (I' = I ∧ J' = J ∧ R' = R) ∧ ∃ v : Int32, r = some (.int v)) := by
  refine SP_of ⟨by decide, rfl⟩ (Nat.le_of_ble_eq_true rfl) ?_
  have e3619 : I (ad g 1) 1 = L := hI.2
  have b3620 := BT_get hI.1 1 1 2 (0) (0) (900) (by decide) 1 (by decide) (by decide)
  rw [e3619] at b3620
  refine WP_iload_n dX10_count_0 rfl ?_
  have jn33_3624 : ∀ (v3624 : Int32), WP g mX10_count 33 [(0, .ref (ad g 0)), (1, .int a)] [.int v3624] I J R (fun r I' J' R' => (I' = I ∧ J' = J ∧ R' = R) ∧ ∃ v : Int32, r = some (.int v)) := by
    intro v3624 
    exact WP_iret dX10_count_33 rfl ⟨⟨rfl, rfl, rfl⟩, _, rfl⟩
  refine WX_if_ne 17 dX10_count_1 rfl ?_ ?_
  · refine WP_iload_n dX10_count_17 rfl ?_
    refine WQ_iconst (1) (1) dX10_count_18 rfl rfl (fun v3626 hv3626 => ?_)
    refine WX_icmp_ne 32 dX10_count_19 rfl ?_ ?_
    · refine WQ_iconst (-1) (-1) dX10_count_32 rfl rfl (fun v3627 hv3627 => ?_)
      exact WP_sub (fc rfl (fc rfl fn)) (jn33_3624 v3627)
    · refine WP_aload_n dX10_count_22 rfl ?_
      refine WP_getr dX10_count_23 fX10_12 rfl (lyx_is hy 0 10 rfl) (rfx hr 0 0 1 (by decide)) ?_
      refine WQ_getim dX10_count_26 fX10_90 rfl (lyx_is hy 1 5 rfl) e3619 ?_
      refine WP_goto 33 dX10_count_29 rfl ?_
      exact WP_sub (fc rfl (fc rfl fn)) (jn33_3624 L)
  · refine WP_aload_n dX10_count_4 rfl ?_
    refine WP_getr dX10_count_5 fX10_33 rfl (lyx_is hy 0 10 rfl) (rfx hr 0 2 5 (by decide)) ?_
    refine WP_getr dX10_count_8 fX10_102 rfl (lyx_is hy 5 0 rfl) hT ?_
    refine WQ_getiu dX10_count_11 fX10_105 rfl (lyx_is hy 27 7 rfl) (fun v3628 ev3628 => ?_)
    refine WP_goto 33 dX10_count_14 rfl ?_
    exact WP_sub (fc rfl (fc rfl fn)) (jn33_3624 v3628)
set_option maxHeartbeats 4000000 in
set_option maxRecDepth 100000 in
theorem sx_way_27 {g : GG} {n : Int} {L : Int32} (hy : LyX g)  {I : pI} {J : pJ} {R : pR} (hr : RfX g R) (hT : R (ad g 5) 0 = some (ad g 27)) (hI : XI g n L I) (a : Int32) (b : Int32)  : SP g mX10_way [.ref (ad g 0), .int a, .int b] I J R (fun r I' J' R' => (XI g n L I' ∧ R' = R ∧ fz 74 g [54] I I' ∧ fz 74 g [] J J') ∧ ∃ v : Int32, r = some (.int v)) := by
  refine SP_of ⟨by decide, rfl⟩ (Nat.le_of_ble_eq_true rfl) ?_
  have e3629 : I (ad g 1) 1 = L := hI.2
  have b3630 := BT_get hI.1 1 1 2 (0) (0) (900) (by decide) 1 (by decide) (by decide)
  rw [e3629] at b3630
  have fr0 : fz 74 g [54] I I := fz_rf
  have frj0 : fz 74 g [] J J := fz_rf
  refine WP_aload_n dX10_way_0 rfl ?_
  refine WP_iload_n dX10_way_1 rfl ?_
  refine WP_callV1 (k := 10) dX10_way_2 ⟨⟨⟨by decide, by decide⟩, zX10_isSort⟩, lX10_152, by decide, rfl, vX10_isSort.1, vX10_isSort.2⟩ (lyx_is hy 0 10 rfl) (sx_isSort_27 hy hr hT hI a ) (Nat.le_of_ble_eq_true rfl) ?_
  intro r Ia Ja Ra hq
  obtain ⟨⟨ea, eb, ec⟩, v3631, rfl, av3631, bv3631, cv3631⟩ := hq
  show WP _ _ _ _ (.int _ :: _) _ _ _ _
  rw [ea, eb, ec]
  clear ea eb ec Ia Ja Ra
  refine WQ_if_eq 15 dX10_way_5 rfl (fun c3631 => ?_) (fun c3631 => ?_)
  · refine WQ_bipush (-2) (-2) dX10_way_15 rfl rfl (fun v3633 hv3633 => ?_)
    exact WP_iret dX10_way_17 rfl ⟨⟨hI, rfl, fr0, frj0⟩, _, rfl⟩
  · refine WP_iload_n dX10_way_8 rfl ?_
    refine WP_callS1 dX10_way_9 ⟨⟨⟨by decide, by decide⟩, zX10_isWay⟩, lX10_219, tX10_isWay⟩ (sx_isWay hy hr hI b ) (Nat.le_of_ble_eq_true rfl) ?_
    intro r Ia Ja Ra hq
    obtain ⟨⟨ea, eb, ec⟩, v3634, rfl, av3634, bv3634, cv3634⟩ := hq
    show WP _ _ _ _ (.int _ :: _) _ _ _ _
    rw [ea, eb, ec]
    clear ea eb ec Ia Ja Ra
    refine WQ_if_ne 18 dX10_way_12 rfl (fun c3634 => ?_) (fun c3634 => ?_)
    · refine WP_aload_n dX10_way_18 rfl ?_
      refine WP_getr dX10_way_19 fX10_62 rfl (lyx_is hy 0 10 rfl) (rfx hr 0 5 53 (by decide)) ?_
      refine WP_getr dX10_way_22 fX10_225 rfl (lyx_is hy 53 4 rfl) (rfx hr 53 4 54 (by decide)) ?_
      refine WP_iload_n dX10_way_25 rfl ?_
      refine WQ_ialdu dX10_way_26 (lyx_is hy 54 13 rfl) (lyx_n hy 54 4 rfl) (by omega) (by omega) (fun v3636 => ?_)
      refine WP_istore_n (ls' := [(0, _), (1, _), (2, _), (3, _)]) dX10_way_27 (by decide) rfl ?_
      refine WP_aload_n dX10_way_28 rfl ?_
      refine WP_getr dX10_way_29 fX10_62 rfl (lyx_is hy 0 10 rfl) (rfx hr 0 5 53 (by decide)) ?_
      refine WP_getr dX10_way_32 fX10_225 rfl (lyx_is hy 53 4 rfl) (rfx hr 53 4 54 (by decide)) ?_
      refine WP_iload_n dX10_way_35 rfl ?_
      refine WP_iload_n dX10_way_36 rfl ?_
      refine WQ_iast dX10_way_37 (lyx_is hy 54 13 rfl) (lyx_n hy 54 4 rfl) (by omega) (by omega) (fun I3637 eI3637 => ?_)
      have hI3637 : XI g n L I3637 := by rw [eI3637]; exact (xi_r0 hy hI (c := 54) (by decide) (Or.inl (by decide)) (by decide))
      have e3638 : I3637 (ad g 1) 1 = L := by rw [eI3637, pp_ne _ _ (Or.inl (lyx_ne hy (by decide) (by decide) (by decide)))]; exact e3629
      have fr3639 : fz 74 g [54] I I3637 := by rw [eI3637]; exact fzx_pp hy fr0 (by decide) (by decide)
      clear eI3637
      refine WP_iload_n dX10_way_38 rfl ?_
      exact WP_iret dX10_way_39 rfl ⟨⟨hI3637, rfl, fr3639, frj0⟩, _, rfl⟩
    · refine WQ_bipush (-2) (-2) dX10_way_15 rfl rfl (fun v3640 hv3640 => ?_)
      exact WP_iret dX10_way_17 rfl ⟨⟨hI, rfl, fr0, frj0⟩, _, rfl⟩
set_option maxHeartbeats 4000000 in
set_option maxRecDepth 100000 in
theorem sx_run_27 {g : GG} {n : Int} {L : Int32} (hy : LyX g)  {I : pI} {J : pJ} {R : pR} (hr : RfX g R) (hT : R (ad g 5) 0 = some (ad g 27)) (hI : XI g n L I) (a : Int32) (b : Int32)  : SP g mX10_run [.ref (ad g 0), .int a, .int b] I J R (fun r I' J' R' => (I' = I ∧ J' = J ∧ R' = R) ∧ ∃ v : Int32, r = some (.int v)) := by
  refine SP_of ⟨by decide, rfl⟩ (Nat.le_of_ble_eq_true rfl) ?_
  have e3641 : I (ad g 1) 1 = L := hI.2
  have b3642 := BT_get hI.1 1 1 2 (0) (0) (900) (by decide) 1 (by decide) (by decide)
  rw [e3641] at b3642
  refine WP_aload_n dX10_run_0 rfl ?_
  refine WP_iload_n dX10_run_1 rfl ?_
  refine WP_callV1 (k := 10) dX10_run_2 ⟨⟨⟨by decide, by decide⟩, zX10_isSort⟩, lX10_152, by decide, rfl, vX10_isSort.1, vX10_isSort.2⟩ (lyx_is hy 0 10 rfl) (sx_isSort_27 hy hr hT hI a ) (Nat.le_of_ble_eq_true rfl) ?_
  intro r Ia Ja Ra hq
  obtain ⟨⟨ea, eb, ec⟩, v3643, rfl, av3643, bv3643, cv3643⟩ := hq
  show WP _ _ _ _ (.int _ :: _) _ _ _ _
  rw [ea, eb, ec]
  clear ea eb ec Ia Ja Ra
  refine WQ_if_eq 18 dX10_run_5 rfl (fun c3643 => ?_) (fun c3643 => ?_)
  · refine WQ_bipush (-2) (-2) dX10_run_18 rfl rfl (fun v3645 hv3645 => ?_)
    exact WP_iret dX10_run_20 rfl ⟨⟨rfl, rfl, rfl⟩, _, rfl⟩
  · refine WP_iload_n dX10_run_8 rfl ?_
    refine WQ_if_lt 18 dX10_run_9 rfl (fun c3645 => ?_) (fun c3645 => ?_)
    · refine WQ_bipush (-2) (-2) dX10_run_18 rfl rfl (fun v3647 hv3647 => ?_)
      exact WP_iret dX10_run_20 rfl ⟨⟨rfl, rfl, rfl⟩, _, rfl⟩
    · refine WP_iload_n dX10_run_12 rfl ?_
      refine WQ_bipush (7) (7) dX10_run_13 rfl rfl (fun v3648 hv3648 => ?_)
      refine WQ_icmp_lt 21 dX10_run_15 rfl (fun c3648 => ?_) (fun c3648 => ?_)
      · refine WP_aload_n dX10_run_21 rfl ?_
        refine WP_getr dX10_run_22 fX10_62 rfl (lyx_is hy 0 10 rfl) (rfx hr 0 5 53 (by decide)) ?_
        refine WP_getr dX10_run_25 fX10_235 rfl (lyx_is hy 53 4 rfl) (rfx hr 53 5 55 (by decide)) ?_
        refine WP_iload_n dX10_run_28 rfl ?_
        refine WQ_bipush (7) (7) dX10_run_29 rfl rfl (fun v3650 hv3650 => ?_)
        refine WQ_imulk (7) dX10_run_31 hv3650 (by omega) (by omega) (fun v3651 hv3651 => ?_)
        refine WP_iload_n dX10_run_32 rfl ?_
        refine WQ_iadd dX10_run_33 (by omega) (by omega) (fun v3652 hv3652 => ?_)
        refine WQ_ialdu dX10_run_34 (lyx_is hy 55 13 rfl) (lyx_n hy 55 28 rfl) (by omega) (by omega) (fun v3653 => ?_)
        exact WP_iret dX10_run_35 rfl ⟨⟨rfl, rfl, rfl⟩, _, rfl⟩
      · refine WQ_bipush (-2) (-2) dX10_run_18 rfl rfl (fun v3654 hv3654 => ?_)
        exact WP_iret dX10_run_20 rfl ⟨⟨rfl, rfl, rfl⟩, _, rfl⟩
set_option maxHeartbeats 4000000 in
set_option maxRecDepth 100000 in
theorem sx_anew_27 {g : GG} {n : Int} {L : Int32} (hy : LyX g)  {I : pI} {J : pJ} {R : pR} (hr : RfX g R) (hT : R (ad g 5) 0 = some (ad g 27)) (hI : XI g n L I)   (hn : 0 ≤ n) : SP g mX10_anew [.ref (ad g 0)] I J R (fun r I' J' R' => (XI g n L I' ∧ R' = R ∧ fz 74 g [53, 55] I I' ∧ fz 74 g [53] J J') ∧ ∃ v : Int32, r = some (.int v)) := by
  refine SP_of ⟨by decide, rfl⟩ (Nat.le_of_ble_eq_true rfl) ?_
  have e3655 : I (ad g 1) 1 = L := hI.2
  have b3656 := BT_get hI.1 1 1 2 (0) (0) (900) (by decide) 1 (by decide) (by decide)
  rw [e3655] at b3656
  have fr0 : fz 74 g [53, 55] I I := fz_rf
  have frj0 : fz 74 g [53] J J := fz_rf
  refine WP_aload_n dX10_anew_0 rfl ?_
  refine WP_getr dX10_anew_1 fX10_62 rfl (lyx_is hy 0 10 rfl) (rfx hr 0 5 53 (by decide)) ?_
  refine WQ_getiu dX10_anew_4 fX10_232 rfl (lyx_is hy 53 4 rfl) (fun v3657 ev3657 => ?_)
  refine WP_istore_n (ls' := [(0, _), (1, _)]) dX10_anew_7 (by decide) rfl ?_
  refine WP_aload_n dX10_anew_8 rfl ?_
  refine WP_getr dX10_anew_9 fX10_62 rfl (lyx_is hy 0 10 rfl) (rfx hr 0 5 53 (by decide)) ?_
  refine WP_aload_n dX10_anew_12 rfl ?_
  refine WP_getr dX10_anew_13 fX10_33 rfl (lyx_is hy 0 10 rfl) (rfx hr 0 2 5 (by decide)) ?_
  refine WP_getr dX10_anew_16 fX10_102 rfl (lyx_is hy 5 0 rfl) hT ?_
  refine WP_callV1 (k := 4) dX10_anew_19 ⟨⟨⟨by decide, by decide⟩, zX4_begin⟩, lX10_246, by decide, rfl, vX4_begin.1, vX4_begin.2⟩ (lyx_is hy 53 4 rfl) (sx_begin_53_27 hy hr hI   (by omega)) (Nat.le_of_ble_eq_true rfl) ?_
  intro r I3658 J3659 Ra hq
  obtain ⟨⟨hI3658, ec, fiI3658, fjI3658⟩, rfl⟩ := hq
  rw [ec]
  clear ec Ra
  have fr3660 : fz 74 g [53, 55] I I3658 := fz_tr fr0 (fz_mono fiI3658 (by decide))
  have fr3661 : fz 74 g [53] J J3659 := fz_tr frj0 (fz_mono fjI3658 (by decide))
  have e3662 : I3658 (ad g 1) 1 = L := hI3658.2
  have b3663 := BT_get hI3658.1 1 1 2 (0) (0) (900) (by decide) 1 (by decide) (by decide)
  rw [e3662] at b3663
  refine WP_iload_n dX10_anew_22 rfl ?_
  exact WP_iret dX10_anew_23 rfl ⟨⟨hI3658, rfl, fr3660, fr3661⟩, _, rfl⟩
set_option maxHeartbeats 4000000 in
set_option maxRecDepth 100000 in
theorem sx_settle_27 {g : GG} {n : Int} {L : Int32} (hy : LyX g)  {I : pI} {J : pJ} {R : pR} (hr : RfX g R) (hT : R (ad g 5) 0 = some (ad g 27)) (hI : XI g n L I)   (hn : 0 ≤ n) : SP g mX10_settle [.ref (ad g 0)] I J R (fun r I' J' R' => (XI g n L I' ∧ R' = R ∧ fz 74 g [0, 22, 23, 24, 25, 26, 53, 54, 55, 60, 63, 66, 73] I I' ∧ fz 74 g [53] J J') ∧ r = none) := by
  refine SP_of ⟨by decide, rfl⟩ (Nat.le_of_ble_eq_true rfl) ?_
  have e3664 : I (ad g 1) 1 = L := hI.2
  have b3665 := BT_get hI.1 1 1 2 (0) (0) (900) (by decide) 1 (by decide) (by decide)
  rw [e3664] at b3665
  have fr0 : fz 74 g [0, 22, 23, 24, 25, 26, 53, 54, 55, 60, 63, 66, 73] I I := fz_rf
  have frj0 : fz 74 g [53] J J := fz_rf
  refine WP_aload_n dX10_settle_0 rfl ?_
  refine WP_getr dX10_settle_1 fX10_33 rfl (lyx_is hy 0 10 rfl) (rfx hr 0 2 5 (by decide)) ?_
  refine WP_callV0 (k := 0) dX10_settle_4 ⟨⟨⟨by decide, by decide⟩, zX0_open⟩, lX10_332, by decide, rfl, vX0_open.1, vX0_open.2⟩ (lyx_is hy 5 0 rfl) (sx_open_27 hy hr hT hI  ) (Nat.le_of_ble_eq_true rfl) ?_
  intro r I3666 J3667 Ra hq
  obtain ⟨⟨hI3666, ec, fiI3666, fjI3666⟩, rfl⟩ := hq
  rw [ec]
  clear ec Ra
  have fr3668 : fz 74 g [0, 22, 23, 24, 25, 26, 53, 54, 55, 60, 63, 66, 73] I I3666 := fz_tr fr0 (fz_mono fiI3666 (by decide))
  have fr3669 : fz 74 g [53] J J3667 := fz_tr frj0 (fz_mono fjI3666 (by decide))
  have e3670 : I3666 (ad g 1) 1 = L := hI3666.2
  have b3671 := BT_get hI3666.1 1 1 2 (0) (0) (900) (by decide) 1 (by decide) (by decide)
  rw [e3670] at b3671
  refine WP_aload_n dX10_settle_7 rfl ?_
  refine WP_getr dX10_settle_8 fX10_62 rfl (lyx_is hy 0 10 rfl) (rfx hr 0 5 53 (by decide)) ?_
  refine WP_aload_n dX10_settle_11 rfl ?_
  refine WP_getr dX10_settle_12 fX10_33 rfl (lyx_is hy 0 10 rfl) (rfx hr 0 2 5 (by decide)) ?_
  refine WP_getr dX10_settle_15 fX10_102 rfl (lyx_is hy 5 0 rfl) hT ?_
  refine WP_callV1 (k := 4) dX10_settle_18 ⟨⟨⟨by decide, by decide⟩, zX4_begin⟩, lX10_246, by decide, rfl, vX4_begin.1, vX4_begin.2⟩ (lyx_is hy 53 4 rfl) (sx_begin_53_27 hy hr hI3666   (by omega)) (Nat.le_of_ble_eq_true rfl) ?_
  intro r I3672 J3673 Ra hq
  obtain ⟨⟨hI3672, ec, fiI3672, fjI3672⟩, rfl⟩ := hq
  rw [ec]
  clear ec Ra
  have fr3674 : fz 74 g [0, 22, 23, 24, 25, 26, 53, 54, 55, 60, 63, 66, 73] I I3672 := fz_tr fr3668 (fz_mono fiI3672 (by decide))
  have fr3675 : fz 74 g [53] J J3673 := fz_tr fr3669 (fz_mono fjI3672 (by decide))
  have e3676 : I3672 (ad g 1) 1 = L := hI3672.2
  have b3677 := BT_get hI3672.1 1 1 2 (0) (0) (900) (by decide) 1 (by decide) (by decide)
  rw [e3676] at b3677
  refine WP_aload_n dX10_settle_21 rfl ?_
  refine WP_getr dX10_settle_22 fX10_62 rfl (lyx_is hy 0 10 rfl) (rfx hr 0 5 53 (by decide)) ?_
  refine WP_getr dX10_settle_25 fX10_225 rfl (lyx_is hy 53 4 rfl) (rfx hr 53 4 54 (by decide)) ?_
  refine WQ_iconst (1) (1) dX10_settle_28 rfl rfl (fun v3678 hv3678 => ?_)
  refine WP_callS2u dX10_settle_29 ⟨⟨⟨by decide, by decide⟩, zJ7_fill_53178⟩, lX10_335, tJ7_fill_53178⟩ (s_fill hy hr 54 4 rfl rfl (by decide) v3678) (Nat.le_of_ble_eq_true rfl) ?_
  obtain ⟨I3679, eI3679⟩ : ∃ I9 : pI, I9 = fi I3672 (ad g 54) 4 v3678 := ⟨_, rfl⟩
  rw [← eI3679]
  have hI3679 : XI g n L I3679 := by rw [eI3679]; exact (xi_fill0 hy hI3672 54 4 v3678 (by decide) (by decide))
  have e3680 : I3679 (ad g 1) 1 = L := by rw [eI3679, fi_off (lyx_ne hy (by decide) (by decide) (by decide))]; exact e3676
  have fr3681 : fz 74 g [0, 22, 23, 24, 25, 26, 53, 54, 55, 60, 63, 66, 73] I I3679 := by rw [eI3679]; exact fzx_fi hy fr3674 (by decide) (by decide)
  clear eI3679
  refine WQ_iconst (0) (0) dX10_settle_32 rfl rfl (fun v3682 hv3682 => ?_)
  refine WP_istore_n (ls' := [(0, _), (1, _)]) dX10_settle_33 (by decide) rfl ?_
  have lp34_3685 : ∀ (mz : Nat) (i3683 : Int32) (I3684 : pI) (J3685 : pJ), XI g n L I3684 → fz 74 g [0, 22, 23, 24, 25, 26, 53, 54, 55, 60, 63, 66, 73] I I3684 → fz 74 g [53] J J3685 → 0 ≤ i3683.toInt → i3683.toInt ≤ 3 → (4 - i3683.toInt).toNat < mz → WP g mX10_settle 34 [(0, .ref (ad g 0)), (1, .int i3683)] [] I3684 J3685 R (fun r I' J' R' => (XI g n L I' ∧ R' = R ∧ fz 74 g [0, 22, 23, 24, 25, 26, 53, 54, 55, 60, 63, 66, 73] I I' ∧ fz 74 g [53] J J') ∧ r = none) := by
    intro mz
    induction mz with
    | zero =>
      intro i3683 I3684 J3685 hI3684 fiI3684 fjJ3685 ai3683 bi3683 hmlp34_3685
      exact absurd hmlp34_3685 (Nat.not_lt_zero _)
    | succ mz ihlp34_3685 =>
      intro i3683 I3684 J3685 hI3684 fiI3684 fjJ3685 ai3683 bi3683 hmlp34_3685
      have e3687 : I3684 (ad g 1) 1 = L := hI3684.2
      have b3688 := BT_get hI3684.1 1 1 2 (0) (0) (900) (by decide) 1 (by decide) (by decide)
      rw [e3687] at b3688
      refine WP_iload_n dX10_settle_34 rfl ?_
      refine WQ_iconst (3) (3) dX10_settle_35 rfl rfl (fun v3689 hv3689 => ?_)
      refine WQ_icmp_ge 55 dX10_settle_36 rfl (fun c3689 => ?_) (fun c3689 => ?_)
      · refine WP_aload_n dX10_settle_55 rfl ?_
        refine WP_getr dX10_settle_56 fX10_83 rfl (lyx_is hy 0 10 rfl) (rfx hr 0 9 71 (by decide)) ?_
        refine WP_callV0 (k := 1) dX10_settle_59 ⟨⟨⟨by decide, by decide⟩, zX1_forget⟩, lX10_341, by decide, rfl, vX1_forget.1, vX1_forget.2⟩ (lyx_is hy 71 1 rfl) (sx_mforget hy hr hI3684  ) (Nat.le_of_ble_eq_true rfl) ?_
        intro r I3691 J3692 Ra hq
        obtain ⟨⟨hI3691, ec, fiI3691, fjI3691⟩, rfl⟩ := hq
        rw [ec]
        clear ec Ra
        have fr3693 : fz 74 g [0, 22, 23, 24, 25, 26, 53, 54, 55, 60, 63, 66, 73] I I3691 := fz_tr fiI3684 (fz_mono fiI3691 (by decide))
        have fr3694 : fz 74 g [53] J J3692 := fz_tr fjJ3685 (fz_mono fjI3691 (by decide))
        have e3695 : I3691 (ad g 1) 1 = L := hI3691.2
        have b3696 := BT_get hI3691.1 1 1 2 (0) (0) (900) (by decide) 1 (by decide) (by decide)
        rw [e3695] at b3696
        refine WP_aload_n dX10_settle_62 rfl ?_
        refine WQ_iconst (-1) (-1) dX10_settle_63 rfl rfl (fun v3697 hv3697 => ?_)
        refine WQ_puti dX10_settle_64 fX10_263 rfl rfl (lyx_is hy 0 10 rfl) (fun I3698 eI3698 => ?_)
        have hI3698 : XI g n L I3698 := by rw [eI3698]; exact (xi_f0 hy hI3691 (c := 0) (by decide) (Or.inl (by decide)) (by decide))
        have e3699 : I3698 (ad g 1) 1 = L := by rw [eI3698, pp_ne _ _ (Or.inl (lyx_ne hy (by decide) (by decide) (by decide)))]; exact e3695
        have e3700 : I3698 (ad g 0) 11 = v3697 := by rw [eI3698, pp_self]
        have fr3701 : fz 74 g [0, 22, 23, 24, 25, 26, 53, 54, 55, 60, 63, 66, 73] I I3698 := by rw [eI3698]; exact fzx_pp hy fr3693 (by decide) (by decide)
        clear eI3698
        exact WP_vret dX10_settle_67 rfl ⟨⟨hI3698, rfl, fr3701, fr3694⟩, rfl⟩
      · refine WP_aload_n dX10_settle_39 rfl ?_
        refine WP_getr dX10_settle_40 fX10_69 rfl (lyx_is hy 0 10 rfl) (rfx hr 0 7 59 (by decide)) ?_
        refine WP_iload_n dX10_settle_43 rfl ?_
        rcases (show i3683.toInt = 0 ∨ i3683.toInt = 1 ∨ i3683.toInt = 2 by omega) with k3702 | k3703 | k3704
        · refine WQ_aald (q := 0) dX10_settle_44 (lyx_is hy 59 16 rfl) (lyx_n hy 59 3 rfl) k3702 (by decide) (rfx hr 59 0 60 (by decide)) ?_
          refine WQ_iconst (-1) (-1) dX10_settle_45 rfl rfl (fun v3705 hv3705 => ?_)
          refine WQ_puti dX10_settle_46 fX10_232 rfl rfl (lyx_is hy 60 4 rfl) (fun I3706 eI3706 => ?_)
          have hI3706 : XI g n L I3706 := by rw [eI3706]; exact (xi_f0 hy hI3684 (c := 60) (by decide) (Or.inl (by decide)) (by decide))
          have e3707 : I3706 (ad g 1) 1 = L := by rw [eI3706, pp_ne _ _ (Or.inl (lyx_ne hy (by decide) (by decide) (by decide)))]; exact e3687
          have e3708 : I3706 (ad g 60) 0 = v3705 := by rw [eI3706, pp_self]
          have fr3709 : fz 74 g [0, 22, 23, 24, 25, 26, 53, 54, 55, 60, 63, 66, 73] I I3706 := by rw [eI3706]; exact fzx_pp hy fiI3684 (by decide) (by decide)
          clear eI3706
          refine WP_iinc (ls' := [(0, _), (1, _)]) dX10_settle_49 rfl (by decide) rfl ?_
          have hv3710 : (i3683 + Int32.ofInt (1)).toInt = i3683.toInt + (1) := ia_n rfl (by omega) (by omega)
          generalize i3683 + Int32.ofInt (1) = v3710 at hv3710 ⊢
          refine WP_goto 34 dX10_settle_52 rfl ?_
          exact WP_sub (fc rfl (fc rfl fn)) (ihlp34_3685 v3710 I3706 J3685 hI3706 fr3709 fjJ3685 (by omega) (by omega) (by omega))
        · refine WQ_aald (q := 1) dX10_settle_44 (lyx_is hy 59 16 rfl) (lyx_n hy 59 3 rfl) k3703 (by decide) (rfx hr 59 1 63 (by decide)) ?_
          refine WQ_iconst (-1) (-1) dX10_settle_45 rfl rfl (fun v3711 hv3711 => ?_)
          refine WQ_puti dX10_settle_46 fX10_232 rfl rfl (lyx_is hy 63 4 rfl) (fun I3712 eI3712 => ?_)
          have hI3712 : XI g n L I3712 := by rw [eI3712]; exact (xi_f0 hy hI3684 (c := 63) (by decide) (Or.inl (by decide)) (by decide))
          have e3713 : I3712 (ad g 1) 1 = L := by rw [eI3712, pp_ne _ _ (Or.inl (lyx_ne hy (by decide) (by decide) (by decide)))]; exact e3687
          have e3714 : I3712 (ad g 63) 0 = v3711 := by rw [eI3712, pp_self]
          have fr3715 : fz 74 g [0, 22, 23, 24, 25, 26, 53, 54, 55, 60, 63, 66, 73] I I3712 := by rw [eI3712]; exact fzx_pp hy fiI3684 (by decide) (by decide)
          clear eI3712
          refine WP_iinc (ls' := [(0, _), (1, _)]) dX10_settle_49 rfl (by decide) rfl ?_
          have hv3716 : (i3683 + Int32.ofInt (1)).toInt = i3683.toInt + (1) := ia_n rfl (by omega) (by omega)
          generalize i3683 + Int32.ofInt (1) = v3716 at hv3716 ⊢
          refine WP_goto 34 dX10_settle_52 rfl ?_
          exact WP_sub (fc rfl (fc rfl fn)) (ihlp34_3685 v3716 I3712 J3685 hI3712 fr3715 fjJ3685 (by omega) (by omega) (by omega))
        · refine WQ_aald (q := 2) dX10_settle_44 (lyx_is hy 59 16 rfl) (lyx_n hy 59 3 rfl) k3704 (by decide) (rfx hr 59 2 66 (by decide)) ?_
          refine WQ_iconst (-1) (-1) dX10_settle_45 rfl rfl (fun v3717 hv3717 => ?_)
          refine WQ_puti dX10_settle_46 fX10_232 rfl rfl (lyx_is hy 66 4 rfl) (fun I3718 eI3718 => ?_)
          have hI3718 : XI g n L I3718 := by rw [eI3718]; exact (xi_f0 hy hI3684 (c := 66) (by decide) (Or.inl (by decide)) (by decide))
          have e3719 : I3718 (ad g 1) 1 = L := by rw [eI3718, pp_ne _ _ (Or.inl (lyx_ne hy (by decide) (by decide) (by decide)))]; exact e3687
          have e3720 : I3718 (ad g 66) 0 = v3717 := by rw [eI3718, pp_self]
          have fr3721 : fz 74 g [0, 22, 23, 24, 25, 26, 53, 54, 55, 60, 63, 66, 73] I I3718 := by rw [eI3718]; exact fzx_pp hy fiI3684 (by decide) (by decide)
          clear eI3718
          refine WP_iinc (ls' := [(0, _), (1, _)]) dX10_settle_49 rfl (by decide) rfl ?_
          have hv3722 : (i3683 + Int32.ofInt (1)).toInt = i3683.toInt + (1) := ia_n rfl (by omega) (by omega)
          generalize i3683 + Int32.ofInt (1) = v3722 at hv3722 ⊢
          refine WP_goto 34 dX10_settle_52 rfl ?_
          exact WP_sub (fc rfl (fc rfl fn)) (ihlp34_3685 v3722 I3718 J3685 hI3718 fr3721 fjJ3685 (by omega) (by omega) (by omega))
  exact WP_sub (fc rfl (fc rfl fn)) (lp34_3685 _ v3682 I3679 J3673 hI3679 fr3681 fr3675 (by omega) (by omega) (Nat.lt_succ_self _))
set_option maxHeartbeats 4000000 in
set_option maxRecDepth 100000 in
theorem sx_meet_27 {g : GG} {n : Int} {L : Int32} (hy : LyX g)  {I : pI} {J : pJ} {R : pR} (hr : RfX g R) (hT : R (ad g 5) 0 = some (ad g 27)) (hI : XI g n L I) (a : Int32) (b : Int32) (c : Int32) (e : Int32) (f : Int32) (h : Int32)  : SP g mX10_meet [.ref (ad g 0), .int a, .int b, .int c, .int e, .int f, .int h] I J R (fun r I' J' R' => (XI g n L I' ∧ R' = R ∧ fz 74 g [71] I I' ∧ fz 74 g [71] J J') ∧ ∃ v : Int32, r = some (.int v)) := by
  refine SP_of ⟨by decide, rfl⟩ (Nat.le_of_ble_eq_true rfl) ?_
  have e3723 : I (ad g 1) 1 = L := hI.2
  have b3724 := BT_get hI.1 1 1 2 (0) (0) (900) (by decide) 1 (by decide) (by decide)
  rw [e3723] at b3724
  have fr0 : fz 74 g [71] I I := fz_rf
  have frj0 : fz 74 g [71] J J := fz_rf
  refine WP_aload_n dX10_meet_0 rfl ?_
  refine WP_iload_n dX10_meet_1 rfl ?_
  refine WP_callV1 (k := 10) dX10_meet_2 ⟨⟨⟨by decide, by decide⟩, zX10_isSort⟩, lX10_152, by decide, rfl, vX10_isSort.1, vX10_isSort.2⟩ (lyx_is hy 0 10 rfl) (sx_isSort_27 hy hr hT hI a ) (Nat.le_of_ble_eq_true rfl) ?_
  intro r Ia Ja Ra hq
  obtain ⟨⟨ea, eb, ec⟩, v3725, rfl, av3725, bv3725, cv3725⟩ := hq
  show WP _ _ _ _ (.int _ :: _) _ _ _ _
  rw [ea, eb, ec]
  clear ea eb ec Ia Ja Ra
  refine WQ_if_eq 39 dX10_meet_5 rfl (fun c3725 => ?_) (fun c3725 => ?_)
  · refine WP_ldcw (-1000000) dX10_meet_39 kX10_309 ?_
    obtain ⟨v3727, hv3727, ev3727⟩ : ∃ v : Int32, v.toInt = -1000000 ∧ ((-1000000) : Int32) = v := ⟨(-1000000), rfl, rfl⟩
    rw [ev3727]; clear ev3727
    exact WP_iret dX10_meet_42 rfl ⟨⟨hI, rfl, fr0, frj0⟩, _, rfl⟩
  · refine WP_iload_n dX10_meet_8 rfl ?_
    refine WQ_if_lt 39 dX10_meet_9 rfl (fun c3727 => ?_) (fun c3727 => ?_)
    · refine WP_ldcw (-1000000) dX10_meet_39 kX10_309 ?_
      obtain ⟨v3729, hv3729, ev3729⟩ : ∃ v : Int32, v.toInt = -1000000 ∧ ((-1000000) : Int32) = v := ⟨(-1000000), rfl, rfl⟩
      rw [ev3729]; clear ev3729
      exact WP_iret dX10_meet_42 rfl ⟨⟨hI, rfl, fr0, frj0⟩, _, rfl⟩
    · refine WP_iload_n dX10_meet_12 rfl ?_
      refine WQ_iconst (1) (1) dX10_meet_13 rfl rfl (fun v3730 hv3730 => ?_)
      refine WP_aload_n dX10_meet_14 rfl ?_
      refine WP_getr dX10_meet_15 fX10_33 rfl (lyx_is hy 0 10 rfl) (rfx hr 0 2 5 (by decide)) ?_
      refine WP_getr dX10_meet_18 fX10_102 rfl (lyx_is hy 5 0 rfl) hT ?_
      refine WQ_geti dX10_meet_21 fX10_114 rfl (lyx_is hy 27 7 rfl) (BT_get hI.1 27 1 2 (0) (0) (4) (by decide) 1 (by decide) (by decide)) (fun v3731 ev3731 av3731 bv3731 => ?_)
      refine WQ_ishl1 dX10_meet_24 hv3730 (by omega) (by omega) (fun v3732 av3732 bv3732 => ?_)
      refine WQ_icmp_ge 39 dX10_meet_25 rfl (fun c3732 => ?_) (fun c3732 => ?_)
      · refine WP_ldcw (-1000000) dX10_meet_39 kX10_309 ?_
        obtain ⟨v3734, hv3734, ev3734⟩ : ∃ v : Int32, v.toInt = -1000000 ∧ ((-1000000) : Int32) = v := ⟨(-1000000), rfl, rfl⟩
        rw [ev3734]; clear ev3734
        exact WP_iret dX10_meet_42 rfl ⟨⟨hI, rfl, fr0, frj0⟩, _, rfl⟩
      · refine WP_iload_n dX10_meet_28 rfl ?_
        refine WP_iload dX10_meet_29 rfl ?_
        refine WP_iload dX10_meet_31 rfl ?_
        refine WP_callS3 dX10_meet_33 ⟨⟨⟨by decide, by decide⟩, zX10_isMeeting⟩, lX10_306, tX10_isMeeting⟩ (sx_isMeeting hy hr hI c e f   ) (Nat.le_of_ble_eq_true rfl) ?_
        intro r Ia Ja Ra hq
        obtain ⟨⟨ea, eb, ec⟩, v3735, rfl, av3735, bv3735, cv3735⟩ := hq
        show WP _ _ _ _ (.int _ :: _) _ _ _ _
        rw [ea, eb, ec]
        clear ea eb ec Ia Ja Ra
        refine WQ_if_ne 43 dX10_meet_36 rfl (fun c3735 => ?_) (fun c3735 => ?_)
        · refine WP_iload dX10_meet_43 rfl ?_
          refine WQ_if_eq 58 dX10_meet_45 rfl (fun c3736 => ?_) (fun c3736 => ?_)
          · refine WP_aload_n dX10_meet_58 rfl ?_
            refine WP_getr dX10_meet_59 fX10_83 rfl (lyx_is hy 0 10 rfl) (rfx hr 0 9 71 (by decide)) ?_
            refine WP_aload_n dX10_meet_62 rfl ?_
            refine WP_getr dX10_meet_63 fX10_33 rfl (lyx_is hy 0 10 rfl) (rfx hr 0 2 5 (by decide)) ?_
            refine WP_getr dX10_meet_66 fX10_102 rfl (lyx_is hy 5 0 rfl) hT ?_
            refine WP_iload_n dX10_meet_69 rfl ?_
            refine WP_iload_n dX10_meet_70 rfl ?_
            refine WP_callV3 (k := 1) dX10_meet_71 ⟨⟨⟨by decide, by decide⟩, zX1_start⟩, lX10_310, by decide, rfl, vX1_start.1, vX1_start.2⟩ (lyx_is hy 71 1 rfl) (sx_start_27 hy hr hI b c  (by omega) (by omega)) (Nat.le_of_ble_eq_true rfl) ?_
            intro r I3738 J3739 Ra hq
            obtain ⟨⟨hI3738, ec, fiI3738, fjI3738⟩, rfl⟩ := hq
            rw [ec]
            clear ec Ra
            have fr3740 : fz 74 g [71] I I3738 := fz_tr fr0 (fz_mono fiI3738 (by decide))
            have fr3741 : fz 74 g [71] J J3739 := fz_tr frj0 (fz_mono fjI3738 (by decide))
            have e3742 : I3738 (ad g 1) 1 = L := hI3738.2
            have b3743 := BT_get hI3738.1 1 1 2 (0) (0) (900) (by decide) 1 (by decide) (by decide)
            rw [e3742] at b3743
            refine WP_aload_n dX10_meet_74 rfl ?_
            refine WP_getr dX10_meet_75 fX10_83 rfl (lyx_is hy 0 10 rfl) (rfx hr 0 9 71 (by decide)) ?_
            refine WP_iload_n dX10_meet_78 rfl ?_
            refine WP_iload dX10_meet_79 rfl ?_
            refine WP_iload dX10_meet_81 rfl ?_
            refine WP_callV3 (k := 1) dX10_meet_83 ⟨⟨⟨by decide, by decide⟩, zX1_goOn⟩, lX10_314, by decide, rfl, vX1_goOn.1, vX1_goOn.2⟩ (lyx_is hy 71 1 rfl) (sx_goOn hy hr hI3738 a e f (by omega) (by omega)  (by omega) (by omega)) (Nat.le_of_ble_eq_true rfl) ?_
            intro r I3744 J3745 Ra hq
            obtain ⟨⟨hI3744, ec, fiI3744, fjI3744⟩, rfl⟩ := hq
            rw [ec]
            clear ec Ra
            have fr3746 : fz 74 g [71] I I3744 := fz_tr fr3740 (fz_mono fiI3744 (by decide))
            have fr3747 : fz 74 g [71] J J3745 := fz_tr fr3741 (fz_mono fjI3744 (by decide))
            have e3748 : I3744 (ad g 1) 1 = L := hI3744.2
            have b3749 := BT_get hI3744.1 1 1 2 (0) (0) (900) (by decide) 1 (by decide) (by decide)
            rw [e3748] at b3749
            refine WP_iload dX10_meet_86 rfl ?_
            refine WQ_if_ne 101 dX10_meet_88 rfl (fun c3750 => False.elim (by omega)) (fun c3750 => ?_)
            refine WP_aload_n dX10_meet_91 rfl ?_
            refine WP_getr dX10_meet_92 fX10_83 rfl (lyx_is hy 0 10 rfl) (rfx hr 0 9 71 (by decide)) ?_
            refine WQ_getl dX10_meet_95 fX10_318 rfl (lyx_is hy 71 1 rfl) (fun l3752 el3752 => ?_)
            refine WP_goto 108 dX10_meet_98 rfl ?_
            refine WQ_l2i dX10_meet_108 (fun v3753 => ?_)
            exact WP_iret dX10_meet_109 rfl ⟨⟨hI3744, rfl, fr3746, fr3747⟩, _, rfl⟩
          · refine WP_iload dX10_meet_48 rfl ?_
            refine WQ_iconst (1) (1) dX10_meet_50 rfl rfl (fun v3754 hv3754 => ?_)
            refine WQ_icmp_eq 58 dX10_meet_51 rfl (fun c3754 => ?_) (fun c3754 => ?_)
            · refine WP_aload_n dX10_meet_58 rfl ?_
              refine WP_getr dX10_meet_59 fX10_83 rfl (lyx_is hy 0 10 rfl) (rfx hr 0 9 71 (by decide)) ?_
              refine WP_aload_n dX10_meet_62 rfl ?_
              refine WP_getr dX10_meet_63 fX10_33 rfl (lyx_is hy 0 10 rfl) (rfx hr 0 2 5 (by decide)) ?_
              refine WP_getr dX10_meet_66 fX10_102 rfl (lyx_is hy 5 0 rfl) hT ?_
              refine WP_iload_n dX10_meet_69 rfl ?_
              refine WP_iload_n dX10_meet_70 rfl ?_
              refine WP_callV3 (k := 1) dX10_meet_71 ⟨⟨⟨by decide, by decide⟩, zX1_start⟩, lX10_310, by decide, rfl, vX1_start.1, vX1_start.2⟩ (lyx_is hy 71 1 rfl) (sx_start_27 hy hr hI b c  (by omega) (by omega)) (Nat.le_of_ble_eq_true rfl) ?_
              intro r I3756 J3757 Ra hq
              obtain ⟨⟨hI3756, ec, fiI3756, fjI3756⟩, rfl⟩ := hq
              rw [ec]
              clear ec Ra
              have fr3758 : fz 74 g [71] I I3756 := fz_tr fr0 (fz_mono fiI3756 (by decide))
              have fr3759 : fz 74 g [71] J J3757 := fz_tr frj0 (fz_mono fjI3756 (by decide))
              have e3760 : I3756 (ad g 1) 1 = L := hI3756.2
              have b3761 := BT_get hI3756.1 1 1 2 (0) (0) (900) (by decide) 1 (by decide) (by decide)
              rw [e3760] at b3761
              refine WP_aload_n dX10_meet_74 rfl ?_
              refine WP_getr dX10_meet_75 fX10_83 rfl (lyx_is hy 0 10 rfl) (rfx hr 0 9 71 (by decide)) ?_
              refine WP_iload_n dX10_meet_78 rfl ?_
              refine WP_iload dX10_meet_79 rfl ?_
              refine WP_iload dX10_meet_81 rfl ?_
              refine WP_callV3 (k := 1) dX10_meet_83 ⟨⟨⟨by decide, by decide⟩, zX1_goOn⟩, lX10_314, by decide, rfl, vX1_goOn.1, vX1_goOn.2⟩ (lyx_is hy 71 1 rfl) (sx_goOn hy hr hI3756 a e f (by omega) (by omega)  (by omega) (by omega)) (Nat.le_of_ble_eq_true rfl) ?_
              intro r I3762 J3763 Ra hq
              obtain ⟨⟨hI3762, ec, fiI3762, fjI3762⟩, rfl⟩ := hq
              rw [ec]
              clear ec Ra
              have fr3764 : fz 74 g [71] I I3762 := fz_tr fr3758 (fz_mono fiI3762 (by decide))
              have fr3765 : fz 74 g [71] J J3763 := fz_tr fr3759 (fz_mono fjI3762 (by decide))
              have e3766 : I3762 (ad g 1) 1 = L := hI3762.2
              have b3767 := BT_get hI3762.1 1 1 2 (0) (0) (900) (by decide) 1 (by decide) (by decide)
              rw [e3766] at b3767
              refine WP_iload dX10_meet_86 rfl ?_
              refine WQ_if_ne 101 dX10_meet_88 rfl (fun c3768 => ?_) (fun c3768 => False.elim (by omega))
              refine WP_aload_n dX10_meet_101 rfl ?_
              refine WP_getr dX10_meet_102 fX10_83 rfl (lyx_is hy 0 10 rfl) (rfx hr 0 9 71 (by decide)) ?_
              refine WQ_getl dX10_meet_105 fX10_322 rfl (lyx_is hy 71 1 rfl) (fun l3770 el3770 => ?_)
              refine WQ_l2i dX10_meet_108 (fun v3771 => ?_)
              exact WP_iret dX10_meet_109 rfl ⟨⟨hI3762, rfl, fr3764, fr3765⟩, _, rfl⟩
            · refine WP_ldcw (-1000000) dX10_meet_54 kX10_309 ?_
              obtain ⟨v3772, hv3772, ev3772⟩ : ∃ v : Int32, v.toInt = -1000000 ∧ ((-1000000) : Int32) = v := ⟨(-1000000), rfl, rfl⟩
              rw [ev3772]; clear ev3772
              exact WP_iret dX10_meet_57 rfl ⟨⟨hI, rfl, fr0, frj0⟩, _, rfl⟩
        · refine WP_ldcw (-1000000) dX10_meet_39 kX10_309 ?_
          obtain ⟨v3773, hv3773, ev3773⟩ : ∃ v : Int32, v.toInt = -1000000 ∧ ((-1000000) : Int32) = v := ⟨(-1000000), rfl, rfl⟩
          rw [ev3773]; clear ev3773
          exact WP_iret dX10_meet_42 rfl ⟨⟨hI, rfl, fr0, frj0⟩, _, rfl⟩
set_option maxHeartbeats 4000000 in
set_option maxRecDepth 100000 in
theorem sx_rests_27 {g : GG} {n : Int} {L : Int32} (hy : LyX g)  {I : pI} {J : pJ} {R : pR} (hr : RfX g R) (hT : R (ad g 5) 0 = some (ad g 27)) (hI : XI g n L I) (a : Int32) (b : Int32) (c : Int32)  : SP g mX10_rests [.ref (ad g 0), .int a, .int b, .int c] I J R (fun r I' J' R' => (XI g n L I' ∧ R' = R ∧ fz 74 g [71] I I' ∧ fz 74 g [71] J J') ∧ ∃ v : Int32, r = some (.int v)) := by
  refine SP_of ⟨by decide, rfl⟩ (Nat.le_of_ble_eq_true rfl) ?_
  have e3774 : I (ad g 1) 1 = L := hI.2
  have b3775 := BT_get hI.1 1 1 2 (0) (0) (900) (by decide) 1 (by decide) (by decide)
  rw [e3774] at b3775
  have fr0 : fz 74 g [71] I I := fz_rf
  have frj0 : fz 74 g [71] J J := fz_rf
  refine WP_iload_n dX10_rests_0 rfl ?_
  refine WP_iload_n dX10_rests_1 rfl ?_
  refine WP_iload_n dX10_rests_2 rfl ?_
  refine WP_callS3 dX10_rests_3 ⟨⟨⟨by decide, by decide⟩, zX10_isMeeting⟩, lX10_306, tX10_isMeeting⟩ (sx_isMeeting hy hr hI a b c   ) (Nat.le_of_ble_eq_true rfl) ?_
  intro r Ia Ja Ra hq
  obtain ⟨⟨ea, eb, ec⟩, v3776, rfl, av3776, bv3776, cv3776⟩ := hq
  show WP _ _ _ _ (.int _ :: _) _ _ _ _
  rw [ea, eb, ec]
  clear ea eb ec Ia Ja Ra
  refine WQ_if_ne 12 dX10_rests_6 rfl (fun c3776 => ?_) (fun c3776 => ?_)
  · refine WQ_iconst (1) (1) dX10_rests_12 rfl rfl (fun v3778 hv3778 => ?_)
    refine WP_aload_n dX10_rests_13 rfl ?_
    refine WP_getr dX10_rests_14 fX10_33 rfl (lyx_is hy 0 10 rfl) (rfx hr 0 2 5 (by decide)) ?_
    refine WP_getr dX10_rests_17 fX10_102 rfl (lyx_is hy 5 0 rfl) hT ?_
    refine WQ_geti dX10_rests_20 fX10_114 rfl (lyx_is hy 27 7 rfl) (BT_get hI.1 27 1 2 (0) (0) (4) (by decide) 1 (by decide) (by decide)) (fun v3779 ev3779 av3779 bv3779 => ?_)
    refine WQ_ishl1 dX10_rests_23 hv3778 (by omega) (by omega) (fun v3780 av3780 bv3780 => ?_)
    refine WP_istore (ls' := [(0, _), (1, _), (2, _), (3, _), (4, _)]) dX10_rests_24 (by decide) rfl ?_
    refine WQ_iconst (0) (0) dX10_rests_26 rfl rfl (fun v3781 hv3781 => ?_)
    refine WP_istore (ls' := [(0, _), (1, _), (2, _), (3, _), (4, _), (5, _)]) dX10_rests_27 (by decide) rfl ?_
    refine WQ_iconst (0) (0) dX10_rests_29 rfl rfl (fun v3782 hv3782 => ?_)
    refine WP_istore (ls' := [(0, _), (1, _), (2, _), (3, _), (4, _), (5, _), (6, _)]) dX10_rests_30 (by decide) rfl ?_
    have lp32_3786 : ∀ (mz : Nat) (i3783 : Int32) (i3784 : Int32) (I3785 : pI) (J3786 : pJ), XI g n L I3785 → fz 74 g [71] I I3785 → fz 74 g [71] J J3786 → 0 ≤ i3784.toInt → i3784.toInt ≤ 16 → (17 - i3784.toInt).toNat < mz → WP g mX10_rests 32 [(0, .ref (ad g 0)), (1, .int a), (2, .int b), (3, .int c), (4, .int v3780), (5, .int i3783), (6, .int i3784)] [] I3785 J3786 R (fun r I' J' R' => (XI g n L I' ∧ R' = R ∧ fz 74 g [71] I I' ∧ fz 74 g [71] J J') ∧ ∃ v : Int32, r = some (.int v)) := by
      intro mz
      induction mz with
      | zero =>
        intro i3783 i3784 I3785 J3786 hI3785 fiI3785 fjJ3786 ai3784 bi3784 hmlp32_3786
        exact absurd hmlp32_3786 (Nat.not_lt_zero _)
      | succ mz ihlp32_3786 =>
        intro i3783 i3784 I3785 J3786 hI3785 fiI3785 fjJ3786 ai3784 bi3784 hmlp32_3786
        have e3788 : I3785 (ad g 1) 1 = L := hI3785.2
        have b3789 := BT_get hI3785.1 1 1 2 (0) (0) (900) (by decide) 1 (by decide) (by decide)
        rw [e3788] at b3789
        refine WP_iload dX10_rests_32 rfl ?_
        refine WP_iload dX10_rests_34 rfl ?_
        refine WQ_icmp_ge 83 dX10_rests_36 rfl (fun c3789 => ?_) (fun c3789 => ?_)
        · refine WP_iload dX10_rests_83 rfl ?_
          exact WP_iret dX10_rests_85 rfl ⟨⟨hI3785, rfl, fiI3785, fjJ3786⟩, _, rfl⟩
        · refine WP_aload_n dX10_rests_39 rfl ?_
          refine WP_getr dX10_rests_40 fX10_83 rfl (lyx_is hy 0 10 rfl) (rfx hr 0 9 71 (by decide)) ?_
          refine WP_aload_n dX10_rests_43 rfl ?_
          refine WP_getr dX10_rests_44 fX10_33 rfl (lyx_is hy 0 10 rfl) (rfx hr 0 2 5 (by decide)) ?_
          refine WP_getr dX10_rests_47 fX10_102 rfl (lyx_is hy 5 0 rfl) hT ?_
          refine WP_iload dX10_rests_50 rfl ?_
          refine WP_iload_n dX10_rests_52 rfl ?_
          refine WP_callV3 (k := 1) dX10_rests_53 ⟨⟨⟨by decide, by decide⟩, zX1_start⟩, lX10_310, by decide, rfl, vX1_start.1, vX1_start.2⟩ (lyx_is hy 71 1 rfl) (sx_start_27 hy hr hI3785 i3784 a  (by omega) (by omega)) (Nat.le_of_ble_eq_true rfl) ?_
          intro r I3791 J3792 Ra hq
          obtain ⟨⟨hI3791, ec, fiI3791, fjI3791⟩, rfl⟩ := hq
          rw [ec]
          clear ec Ra
          have fr3793 : fz 74 g [71] I I3791 := fz_tr fiI3785 (fz_mono fiI3791 (by decide))
          have fr3794 : fz 74 g [71] J J3792 := fz_tr fjJ3786 (fz_mono fjI3791 (by decide))
          have e3795 : I3791 (ad g 1) 1 = L := hI3791.2
          have b3796 := BT_get hI3791.1 1 1 2 (0) (0) (900) (by decide) 1 (by decide) (by decide)
          rw [e3795] at b3796
          refine WP_aload_n dX10_rests_56 rfl ?_
          refine WP_getr dX10_rests_57 fX10_83 rfl (lyx_is hy 0 10 rfl) (rfx hr 0 9 71 (by decide)) ?_
          refine WP_iload_n dX10_rests_60 rfl ?_
          refine WP_iload_n dX10_rests_61 rfl ?_
          refine WP_callV2 (k := 1) dX10_rests_62 ⟨⟨⟨by decide, by decide⟩, zX1_isAtRest⟩, lX10_325, by decide, rfl, vX1_isAtRest.1, vX1_isAtRest.2⟩ (lyx_is hy 71 1 rfl) (sx_isAtRest hy hr hI3791 b c  (by omega) (by omega)) (Nat.le_of_ble_eq_true rfl) ?_
          intro r I3797 J3798 Ra hq
          obtain ⟨⟨hI3797, ec, fiI3797, fjI3797⟩, v3799, rfl, av3799, bv3799⟩ := hq
          show WP _ _ _ _ (.int _ :: _) _ _ _ _
          rw [ec]
          clear ec Ra
          have fr3800 : fz 74 g [71] I I3797 := fz_tr fr3793 (fz_mono fiI3797 (by decide))
          have fr3801 : fz 74 g [71] J J3798 := fz_tr fr3794 (fz_mono fjI3797 (by decide))
          have e3802 : I3797 (ad g 1) 1 = L := hI3797.2
          have b3803 := BT_get hI3797.1 1 1 2 (0) (0) (900) (by decide) 1 (by decide) (by decide)
          rw [e3802] at b3803
          refine WQ_if_eq 77 dX10_rests_65 rfl (fun c3803 => ?_) (fun c3803 => ?_)
          · refine WP_iinc (ls' := [(0, _), (1, _), (2, _), (3, _), (4, _), (5, _), (6, _)]) dX10_rests_77 rfl (by decide) rfl ?_
            have hv3805 : (i3784 + Int32.ofInt (1)).toInt = i3784.toInt + (1) := ia_n rfl (by omega) (by omega)
            generalize i3784 + Int32.ofInt (1) = v3805 at hv3805 ⊢
            refine WP_goto 32 dX10_rests_80 rfl ?_
            exact WP_sub (fc rfl (fc rfl (fc rfl (fc rfl (fc rfl (fc rfl (fc rfl fn))))))) (ihlp32_3786 i3783 v3805 I3797 J3798 hI3797 fr3800 fr3801 (by omega) (by omega) (by omega))
          · refine WP_iload dX10_rests_68 rfl ?_
            refine WQ_iconst (1) (1) dX10_rests_70 rfl rfl (fun v3806 hv3806 => ?_)
            refine WP_iload dX10_rests_71 rfl ?_
            refine WQ_ishlu dX10_rests_73 (fun v3807 => ?_)
            refine WQ_ioru dX10_rests_74 (fun v3808 => ?_)
            refine WP_istore (ls' := [(0, _), (1, _), (2, _), (3, _), (4, _), (5, _), (6, _)]) dX10_rests_75 (by decide) rfl ?_
            refine WP_iinc (ls' := [(0, _), (1, _), (2, _), (3, _), (4, _), (5, _), (6, _)]) dX10_rests_77 rfl (by decide) rfl ?_
            have hv3809 : (i3784 + Int32.ofInt (1)).toInt = i3784.toInt + (1) := ia_n rfl (by omega) (by omega)
            generalize i3784 + Int32.ofInt (1) = v3809 at hv3809 ⊢
            refine WP_goto 32 dX10_rests_80 rfl ?_
            exact WP_sub (fc rfl (fc rfl (fc rfl (fc rfl (fc rfl (fc rfl (fc rfl fn))))))) (ihlp32_3786 v3808 v3809 I3797 J3798 hI3797 fr3800 fr3801 (by omega) (by omega) (by omega))
    exact WP_sub (fc rfl (fc rfl (fc rfl (fc rfl (fc rfl (fc rfl (fc rfl fn))))))) (lp32_3786 _ v3781 v3782 I J hI fr0 frj0 (by omega) (by omega) (Nat.lt_succ_self _))
  · refine WQ_bipush (-2) (-2) dX10_rests_9 rfl rfl (fun v3810 hv3810 => ?_)
    exact WP_iret dX10_rests_11 rfl ⟨⟨hI, rfl, fr0, frj0⟩, _, rfl⟩
set_option maxHeartbeats 4000000 in
set_option maxRecDepth 100000 in
theorem sx_keep {g : GG} {n : Int} {L : Int32} (hy : LyX g)  {I : pI} {J : pJ} {R : pR} (hr : RfX g R) (hI : XI g n L I) (a : Int32)  : SP g mX10_keep [.ref (ad g 0), .int a] I J R (fun r I' J' R' => (XI g n L I' ∧ R' = R ∧ fz 74 g [60, 61, 62, 63, 64, 65, 66, 67, 68] I I' ∧ fz 74 g [60, 63, 66] J J') ∧ ∃ v : Int32, r = some (.int v)) := by
  refine SP_of ⟨by decide, rfl⟩ (Nat.le_of_ble_eq_true rfl) ?_
  have e3811 : I (ad g 1) 1 = L := hI.2
  have b3812 := BT_get hI.1 1 1 2 (0) (0) (900) (by decide) 1 (by decide) (by decide)
  rw [e3811] at b3812
  have fr0 : fz 74 g [60, 61, 62, 63, 64, 65, 66, 67, 68] I I := fz_rf
  have frj0 : fz 74 g [60, 63, 66] J J := fz_rf
  refine WP_iload_n dX10_keep_0 rfl ?_
  refine WQ_if_lt 9 dX10_keep_1 rfl (fun c3812 => ?_) (fun c3812 => ?_)
  · refine WQ_bipush (-2) (-2) dX10_keep_9 rfl rfl (fun v3814 hv3814 => ?_)
    exact WP_iret dX10_keep_11 rfl ⟨⟨hI, rfl, fr0, frj0⟩, _, rfl⟩
  · refine WP_iload_n dX10_keep_4 rfl ?_
    refine WQ_iconst (3) (3) dX10_keep_5 rfl rfl (fun v3815 hv3815 => ?_)
    refine WQ_icmp_lt 12 dX10_keep_6 rfl (fun c3815 => ?_) (fun c3815 => ?_)
    · refine WP_aload_n dX10_keep_12 rfl ?_
      refine WP_getr dX10_keep_13 fX10_69 rfl (lyx_is hy 0 10 rfl) (rfx hr 0 7 59 (by decide)) ?_
      refine WP_iload_n dX10_keep_16 rfl ?_
      rcases (show a.toInt = 0 ∨ a.toInt = 1 ∨ a.toInt = 2 by omega) with k3817 | k3818 | k3819
      · refine WQ_aald (q := 0) dX10_keep_17 (lyx_is hy 59 16 rfl) (lyx_n hy 59 3 rfl) k3817 (by decide) (rfx hr 59 0 60 (by decide)) ?_
        refine WP_aload_n dX10_keep_18 rfl ?_
        refine WP_getr dX10_keep_19 fX10_62 rfl (lyx_is hy 0 10 rfl) (rfx hr 0 5 53 (by decide)) ?_
        refine WP_callV1 (k := 4) dX10_keep_22 ⟨⟨⟨by decide, by decide⟩, zX4_become⟩, lX10_249, by decide, rfl, vX4_become.1, vX4_become.2⟩ (lyx_is hy 60 4 rfl) (sx_become_60_53 hy hr hI  ) (Nat.le_of_ble_eq_true rfl) ?_
        intro r I3820 J3821 Ra hq
        obtain ⟨⟨hI3820, ec, fiI3820, fjI3820⟩, rfl⟩ := hq
        rw [ec]
        clear ec Ra
        have fr3822 : fz 74 g [60, 61, 62, 63, 64, 65, 66, 67, 68] I I3820 := fz_tr fr0 (fz_mono fiI3820 (by decide))
        have fr3823 : fz 74 g [60, 63, 66] J J3821 := fz_tr frj0 (fz_mono fjI3820 (by decide))
        have e3824 : I3820 (ad g 1) 1 = L := hI3820.2
        have b3825 := BT_get hI3820.1 1 1 2 (0) (0) (900) (by decide) 1 (by decide) (by decide)
        rw [e3824] at b3825
        refine WP_aload_n dX10_keep_25 rfl ?_
        refine WP_getr dX10_keep_26 fX10_62 rfl (lyx_is hy 0 10 rfl) (rfx hr 0 5 53 (by decide)) ?_
        refine WQ_getiu dX10_keep_29 fX10_232 rfl (lyx_is hy 53 4 rfl) (fun v3826 ev3826 => ?_)
        exact WP_iret dX10_keep_32 rfl ⟨⟨hI3820, rfl, fr3822, fr3823⟩, _, rfl⟩
      · refine WQ_aald (q := 1) dX10_keep_17 (lyx_is hy 59 16 rfl) (lyx_n hy 59 3 rfl) k3818 (by decide) (rfx hr 59 1 63 (by decide)) ?_
        refine WP_aload_n dX10_keep_18 rfl ?_
        refine WP_getr dX10_keep_19 fX10_62 rfl (lyx_is hy 0 10 rfl) (rfx hr 0 5 53 (by decide)) ?_
        refine WP_callV1 (k := 4) dX10_keep_22 ⟨⟨⟨by decide, by decide⟩, zX4_become⟩, lX10_249, by decide, rfl, vX4_become.1, vX4_become.2⟩ (lyx_is hy 63 4 rfl) (sx_become_63_53 hy hr hI  ) (Nat.le_of_ble_eq_true rfl) ?_
        intro r I3827 J3828 Ra hq
        obtain ⟨⟨hI3827, ec, fiI3827, fjI3827⟩, rfl⟩ := hq
        rw [ec]
        clear ec Ra
        have fr3829 : fz 74 g [60, 61, 62, 63, 64, 65, 66, 67, 68] I I3827 := fz_tr fr0 (fz_mono fiI3827 (by decide))
        have fr3830 : fz 74 g [60, 63, 66] J J3828 := fz_tr frj0 (fz_mono fjI3827 (by decide))
        have e3831 : I3827 (ad g 1) 1 = L := hI3827.2
        have b3832 := BT_get hI3827.1 1 1 2 (0) (0) (900) (by decide) 1 (by decide) (by decide)
        rw [e3831] at b3832
        refine WP_aload_n dX10_keep_25 rfl ?_
        refine WP_getr dX10_keep_26 fX10_62 rfl (lyx_is hy 0 10 rfl) (rfx hr 0 5 53 (by decide)) ?_
        refine WQ_getiu dX10_keep_29 fX10_232 rfl (lyx_is hy 53 4 rfl) (fun v3833 ev3833 => ?_)
        exact WP_iret dX10_keep_32 rfl ⟨⟨hI3827, rfl, fr3829, fr3830⟩, _, rfl⟩
      · refine WQ_aald (q := 2) dX10_keep_17 (lyx_is hy 59 16 rfl) (lyx_n hy 59 3 rfl) k3819 (by decide) (rfx hr 59 2 66 (by decide)) ?_
        refine WP_aload_n dX10_keep_18 rfl ?_
        refine WP_getr dX10_keep_19 fX10_62 rfl (lyx_is hy 0 10 rfl) (rfx hr 0 5 53 (by decide)) ?_
        refine WP_callV1 (k := 4) dX10_keep_22 ⟨⟨⟨by decide, by decide⟩, zX4_become⟩, lX10_249, by decide, rfl, vX4_become.1, vX4_become.2⟩ (lyx_is hy 66 4 rfl) (sx_become_66_53 hy hr hI  ) (Nat.le_of_ble_eq_true rfl) ?_
        intro r I3834 J3835 Ra hq
        obtain ⟨⟨hI3834, ec, fiI3834, fjI3834⟩, rfl⟩ := hq
        rw [ec]
        clear ec Ra
        have fr3836 : fz 74 g [60, 61, 62, 63, 64, 65, 66, 67, 68] I I3834 := fz_tr fr0 (fz_mono fiI3834 (by decide))
        have fr3837 : fz 74 g [60, 63, 66] J J3835 := fz_tr frj0 (fz_mono fjI3834 (by decide))
        have e3838 : I3834 (ad g 1) 1 = L := hI3834.2
        have b3839 := BT_get hI3834.1 1 1 2 (0) (0) (900) (by decide) 1 (by decide) (by decide)
        rw [e3838] at b3839
        refine WP_aload_n dX10_keep_25 rfl ?_
        refine WP_getr dX10_keep_26 fX10_62 rfl (lyx_is hy 0 10 rfl) (rfx hr 0 5 53 (by decide)) ?_
        refine WQ_getiu dX10_keep_29 fX10_232 rfl (lyx_is hy 53 4 rfl) (fun v3840 ev3840 => ?_)
        exact WP_iret dX10_keep_32 rfl ⟨⟨hI3834, rfl, fr3836, fr3837⟩, _, rfl⟩
    · refine WQ_bipush (-2) (-2) dX10_keep_9 rfl rfl (fun v3841 hv3841 => ?_)
      exact WP_iret dX10_keep_11 rfl ⟨⟨hI, rfl, fr0, frj0⟩, _, rfl⟩
set_option maxHeartbeats 4000000 in
set_option maxRecDepth 100000 in
theorem sx_take {g : GG} {n : Int} {L : Int32} (hy : LyX g)  {I : pI} {J : pJ} {R : pR} (hr : RfX g R) (hI : XI g n L I) (a : Int32)  : SP g mX10_take [.ref (ad g 0), .int a] I J R (fun r I' J' R' => (XI g n L I' ∧ R' = R ∧ fz 74 g [53, 54, 55] I I' ∧ fz 74 g [53] J J') ∧ ∃ v : Int32, r = some (.int v)) := by
  refine SP_of ⟨by decide, rfl⟩ (Nat.le_of_ble_eq_true rfl) ?_
  have e3842 : I (ad g 1) 1 = L := hI.2
  have b3843 := BT_get hI.1 1 1 2 (0) (0) (900) (by decide) 1 (by decide) (by decide)
  rw [e3842] at b3843
  have fr0 : fz 74 g [53, 54, 55] I I := fz_rf
  have frj0 : fz 74 g [53] J J := fz_rf
  refine WP_iload_n dX10_take_0 rfl ?_
  refine WQ_if_lt 9 dX10_take_1 rfl (fun c3843 => ?_) (fun c3843 => ?_)
  · refine WQ_bipush (-2) (-2) dX10_take_9 rfl rfl (fun v3845 hv3845 => ?_)
    exact WP_iret dX10_take_11 rfl ⟨⟨hI, rfl, fr0, frj0⟩, _, rfl⟩
  · refine WP_iload_n dX10_take_4 rfl ?_
    refine WQ_iconst (3) (3) dX10_take_5 rfl rfl (fun v3846 hv3846 => ?_)
    refine WQ_icmp_lt 12 dX10_take_6 rfl (fun c3846 => ?_) (fun c3846 => ?_)
    · refine WP_aload_n dX10_take_12 rfl ?_
      refine WP_getr dX10_take_13 fX10_69 rfl (lyx_is hy 0 10 rfl) (rfx hr 0 7 59 (by decide)) ?_
      refine WP_iload_n dX10_take_16 rfl ?_
      rcases (show a.toInt = 0 ∨ a.toInt = 1 ∨ a.toInt = 2 by omega) with k3848 | k3849 | k3850
      · refine WQ_aald (q := 0) dX10_take_17 (lyx_is hy 59 16 rfl) (lyx_n hy 59 3 rfl) k3848 (by decide) (rfx hr 59 0 60 (by decide)) ?_
        refine WQ_getiu dX10_take_18 fX10_232 rfl (lyx_is hy 60 4 rfl) (fun v3851 ev3851 => ?_)
        refine WQ_iconst (-1) (-1) dX10_take_21 rfl rfl (fun v3852 hv3852 => ?_)
        refine WQ_icmp_ne 28 dX10_take_22 rfl (fun c3852 => ?_) (fun c3852 => ?_)
        · refine WP_aload_n dX10_take_28 rfl ?_
          refine WP_getr dX10_take_29 fX10_62 rfl (lyx_is hy 0 10 rfl) (rfx hr 0 5 53 (by decide)) ?_
          refine WP_aload_n dX10_take_32 rfl ?_
          refine WP_getr dX10_take_33 fX10_69 rfl (lyx_is hy 0 10 rfl) (rfx hr 0 7 59 (by decide)) ?_
          refine WP_iload_n dX10_take_36 rfl ?_
          rcases (show a.toInt = 0 ∨ a.toInt = 1 ∨ a.toInt = 2 by omega) with k3854 | k3855 | k3856
          · refine WQ_aald (q := 0) dX10_take_37 (lyx_is hy 59 16 rfl) (lyx_n hy 59 3 rfl) k3854 (by decide) (rfx hr 59 0 60 (by decide)) ?_
            refine WP_callV1 (k := 4) dX10_take_38 ⟨⟨⟨by decide, by decide⟩, zX4_become⟩, lX10_249, by decide, rfl, vX4_become.1, vX4_become.2⟩ (lyx_is hy 53 4 rfl) (sx_become_53_60 hy hr hI  ) (Nat.le_of_ble_eq_true rfl) ?_
            intro r I3857 J3858 Ra hq
            obtain ⟨⟨hI3857, ec, fiI3857, fjI3857⟩, rfl⟩ := hq
            rw [ec]
            clear ec Ra
            have fr3859 : fz 74 g [53, 54, 55] I I3857 := fz_tr fr0 (fz_mono fiI3857 (by decide))
            have fr3860 : fz 74 g [53] J J3858 := fz_tr frj0 (fz_mono fjI3857 (by decide))
            have e3861 : I3857 (ad g 1) 1 = L := hI3857.2
            have b3862 := BT_get hI3857.1 1 1 2 (0) (0) (900) (by decide) 1 (by decide) (by decide)
            rw [e3861] at b3862
            refine WP_aload_n dX10_take_41 rfl ?_
            refine WP_getr dX10_take_42 fX10_62 rfl (lyx_is hy 0 10 rfl) (rfx hr 0 5 53 (by decide)) ?_
            refine WQ_getiu dX10_take_45 fX10_232 rfl (lyx_is hy 53 4 rfl) (fun v3863 ev3863 => ?_)
            exact WP_iret dX10_take_48 rfl ⟨⟨hI3857, rfl, fr3859, fr3860⟩, _, rfl⟩
          · refine WQ_aald (q := 1) dX10_take_37 (lyx_is hy 59 16 rfl) (lyx_n hy 59 3 rfl) k3855 (by decide) (rfx hr 59 1 63 (by decide)) ?_
            refine WP_callV1 (k := 4) dX10_take_38 ⟨⟨⟨by decide, by decide⟩, zX4_become⟩, lX10_249, by decide, rfl, vX4_become.1, vX4_become.2⟩ (lyx_is hy 53 4 rfl) (sx_become_53_63 hy hr hI  ) (Nat.le_of_ble_eq_true rfl) ?_
            intro r I3864 J3865 Ra hq
            obtain ⟨⟨hI3864, ec, fiI3864, fjI3864⟩, rfl⟩ := hq
            rw [ec]
            clear ec Ra
            have fr3866 : fz 74 g [53, 54, 55] I I3864 := fz_tr fr0 (fz_mono fiI3864 (by decide))
            have fr3867 : fz 74 g [53] J J3865 := fz_tr frj0 (fz_mono fjI3864 (by decide))
            have e3868 : I3864 (ad g 1) 1 = L := hI3864.2
            have b3869 := BT_get hI3864.1 1 1 2 (0) (0) (900) (by decide) 1 (by decide) (by decide)
            rw [e3868] at b3869
            refine WP_aload_n dX10_take_41 rfl ?_
            refine WP_getr dX10_take_42 fX10_62 rfl (lyx_is hy 0 10 rfl) (rfx hr 0 5 53 (by decide)) ?_
            refine WQ_getiu dX10_take_45 fX10_232 rfl (lyx_is hy 53 4 rfl) (fun v3870 ev3870 => ?_)
            exact WP_iret dX10_take_48 rfl ⟨⟨hI3864, rfl, fr3866, fr3867⟩, _, rfl⟩
          · refine WQ_aald (q := 2) dX10_take_37 (lyx_is hy 59 16 rfl) (lyx_n hy 59 3 rfl) k3856 (by decide) (rfx hr 59 2 66 (by decide)) ?_
            refine WP_callV1 (k := 4) dX10_take_38 ⟨⟨⟨by decide, by decide⟩, zX4_become⟩, lX10_249, by decide, rfl, vX4_become.1, vX4_become.2⟩ (lyx_is hy 53 4 rfl) (sx_become_53_66 hy hr hI  ) (Nat.le_of_ble_eq_true rfl) ?_
            intro r I3871 J3872 Ra hq
            obtain ⟨⟨hI3871, ec, fiI3871, fjI3871⟩, rfl⟩ := hq
            rw [ec]
            clear ec Ra
            have fr3873 : fz 74 g [53, 54, 55] I I3871 := fz_tr fr0 (fz_mono fiI3871 (by decide))
            have fr3874 : fz 74 g [53] J J3872 := fz_tr frj0 (fz_mono fjI3871 (by decide))
            have e3875 : I3871 (ad g 1) 1 = L := hI3871.2
            have b3876 := BT_get hI3871.1 1 1 2 (0) (0) (900) (by decide) 1 (by decide) (by decide)
            rw [e3875] at b3876
            refine WP_aload_n dX10_take_41 rfl ?_
            refine WP_getr dX10_take_42 fX10_62 rfl (lyx_is hy 0 10 rfl) (rfx hr 0 5 53 (by decide)) ?_
            refine WQ_getiu dX10_take_45 fX10_232 rfl (lyx_is hy 53 4 rfl) (fun v3877 ev3877 => ?_)
            exact WP_iret dX10_take_48 rfl ⟨⟨hI3871, rfl, fr3873, fr3874⟩, _, rfl⟩
        · refine WQ_bipush (-4) (-4) dX10_take_25 rfl rfl (fun v3878 hv3878 => ?_)
          exact WP_iret dX10_take_27 rfl ⟨⟨hI, rfl, fr0, frj0⟩, _, rfl⟩
      · refine WQ_aald (q := 1) dX10_take_17 (lyx_is hy 59 16 rfl) (lyx_n hy 59 3 rfl) k3849 (by decide) (rfx hr 59 1 63 (by decide)) ?_
        refine WQ_getiu dX10_take_18 fX10_232 rfl (lyx_is hy 63 4 rfl) (fun v3879 ev3879 => ?_)
        refine WQ_iconst (-1) (-1) dX10_take_21 rfl rfl (fun v3880 hv3880 => ?_)
        refine WQ_icmp_ne 28 dX10_take_22 rfl (fun c3880 => ?_) (fun c3880 => ?_)
        · refine WP_aload_n dX10_take_28 rfl ?_
          refine WP_getr dX10_take_29 fX10_62 rfl (lyx_is hy 0 10 rfl) (rfx hr 0 5 53 (by decide)) ?_
          refine WP_aload_n dX10_take_32 rfl ?_
          refine WP_getr dX10_take_33 fX10_69 rfl (lyx_is hy 0 10 rfl) (rfx hr 0 7 59 (by decide)) ?_
          refine WP_iload_n dX10_take_36 rfl ?_
          rcases (show a.toInt = 0 ∨ a.toInt = 1 ∨ a.toInt = 2 by omega) with k3882 | k3883 | k3884
          · refine WQ_aald (q := 0) dX10_take_37 (lyx_is hy 59 16 rfl) (lyx_n hy 59 3 rfl) k3882 (by decide) (rfx hr 59 0 60 (by decide)) ?_
            refine WP_callV1 (k := 4) dX10_take_38 ⟨⟨⟨by decide, by decide⟩, zX4_become⟩, lX10_249, by decide, rfl, vX4_become.1, vX4_become.2⟩ (lyx_is hy 53 4 rfl) (sx_become_53_60 hy hr hI  ) (Nat.le_of_ble_eq_true rfl) ?_
            intro r I3885 J3886 Ra hq
            obtain ⟨⟨hI3885, ec, fiI3885, fjI3885⟩, rfl⟩ := hq
            rw [ec]
            clear ec Ra
            have fr3887 : fz 74 g [53, 54, 55] I I3885 := fz_tr fr0 (fz_mono fiI3885 (by decide))
            have fr3888 : fz 74 g [53] J J3886 := fz_tr frj0 (fz_mono fjI3885 (by decide))
            have e3889 : I3885 (ad g 1) 1 = L := hI3885.2
            have b3890 := BT_get hI3885.1 1 1 2 (0) (0) (900) (by decide) 1 (by decide) (by decide)
            rw [e3889] at b3890
            refine WP_aload_n dX10_take_41 rfl ?_
            refine WP_getr dX10_take_42 fX10_62 rfl (lyx_is hy 0 10 rfl) (rfx hr 0 5 53 (by decide)) ?_
            refine WQ_getiu dX10_take_45 fX10_232 rfl (lyx_is hy 53 4 rfl) (fun v3891 ev3891 => ?_)
            exact WP_iret dX10_take_48 rfl ⟨⟨hI3885, rfl, fr3887, fr3888⟩, _, rfl⟩
          · refine WQ_aald (q := 1) dX10_take_37 (lyx_is hy 59 16 rfl) (lyx_n hy 59 3 rfl) k3883 (by decide) (rfx hr 59 1 63 (by decide)) ?_
            refine WP_callV1 (k := 4) dX10_take_38 ⟨⟨⟨by decide, by decide⟩, zX4_become⟩, lX10_249, by decide, rfl, vX4_become.1, vX4_become.2⟩ (lyx_is hy 53 4 rfl) (sx_become_53_63 hy hr hI  ) (Nat.le_of_ble_eq_true rfl) ?_
            intro r I3892 J3893 Ra hq
            obtain ⟨⟨hI3892, ec, fiI3892, fjI3892⟩, rfl⟩ := hq
            rw [ec]
            clear ec Ra
            have fr3894 : fz 74 g [53, 54, 55] I I3892 := fz_tr fr0 (fz_mono fiI3892 (by decide))
            have fr3895 : fz 74 g [53] J J3893 := fz_tr frj0 (fz_mono fjI3892 (by decide))
            have e3896 : I3892 (ad g 1) 1 = L := hI3892.2
            have b3897 := BT_get hI3892.1 1 1 2 (0) (0) (900) (by decide) 1 (by decide) (by decide)
            rw [e3896] at b3897
            refine WP_aload_n dX10_take_41 rfl ?_
            refine WP_getr dX10_take_42 fX10_62 rfl (lyx_is hy 0 10 rfl) (rfx hr 0 5 53 (by decide)) ?_
            refine WQ_getiu dX10_take_45 fX10_232 rfl (lyx_is hy 53 4 rfl) (fun v3898 ev3898 => ?_)
            exact WP_iret dX10_take_48 rfl ⟨⟨hI3892, rfl, fr3894, fr3895⟩, _, rfl⟩
          · refine WQ_aald (q := 2) dX10_take_37 (lyx_is hy 59 16 rfl) (lyx_n hy 59 3 rfl) k3884 (by decide) (rfx hr 59 2 66 (by decide)) ?_
            refine WP_callV1 (k := 4) dX10_take_38 ⟨⟨⟨by decide, by decide⟩, zX4_become⟩, lX10_249, by decide, rfl, vX4_become.1, vX4_become.2⟩ (lyx_is hy 53 4 rfl) (sx_become_53_66 hy hr hI  ) (Nat.le_of_ble_eq_true rfl) ?_
            intro r I3899 J3900 Ra hq
            obtain ⟨⟨hI3899, ec, fiI3899, fjI3899⟩, rfl⟩ := hq
            rw [ec]
            clear ec Ra
            have fr3901 : fz 74 g [53, 54, 55] I I3899 := fz_tr fr0 (fz_mono fiI3899 (by decide))
            have fr3902 : fz 74 g [53] J J3900 := fz_tr frj0 (fz_mono fjI3899 (by decide))
            have e3903 : I3899 (ad g 1) 1 = L := hI3899.2
            have b3904 := BT_get hI3899.1 1 1 2 (0) (0) (900) (by decide) 1 (by decide) (by decide)
            rw [e3903] at b3904
            refine WP_aload_n dX10_take_41 rfl ?_
            refine WP_getr dX10_take_42 fX10_62 rfl (lyx_is hy 0 10 rfl) (rfx hr 0 5 53 (by decide)) ?_
            refine WQ_getiu dX10_take_45 fX10_232 rfl (lyx_is hy 53 4 rfl) (fun v3905 ev3905 => ?_)
            exact WP_iret dX10_take_48 rfl ⟨⟨hI3899, rfl, fr3901, fr3902⟩, _, rfl⟩
        · refine WQ_bipush (-4) (-4) dX10_take_25 rfl rfl (fun v3906 hv3906 => ?_)
          exact WP_iret dX10_take_27 rfl ⟨⟨hI, rfl, fr0, frj0⟩, _, rfl⟩
      · refine WQ_aald (q := 2) dX10_take_17 (lyx_is hy 59 16 rfl) (lyx_n hy 59 3 rfl) k3850 (by decide) (rfx hr 59 2 66 (by decide)) ?_
        refine WQ_getiu dX10_take_18 fX10_232 rfl (lyx_is hy 66 4 rfl) (fun v3907 ev3907 => ?_)
        refine WQ_iconst (-1) (-1) dX10_take_21 rfl rfl (fun v3908 hv3908 => ?_)
        refine WQ_icmp_ne 28 dX10_take_22 rfl (fun c3908 => ?_) (fun c3908 => ?_)
        · refine WP_aload_n dX10_take_28 rfl ?_
          refine WP_getr dX10_take_29 fX10_62 rfl (lyx_is hy 0 10 rfl) (rfx hr 0 5 53 (by decide)) ?_
          refine WP_aload_n dX10_take_32 rfl ?_
          refine WP_getr dX10_take_33 fX10_69 rfl (lyx_is hy 0 10 rfl) (rfx hr 0 7 59 (by decide)) ?_
          refine WP_iload_n dX10_take_36 rfl ?_
          rcases (show a.toInt = 0 ∨ a.toInt = 1 ∨ a.toInt = 2 by omega) with k3910 | k3911 | k3912
          · refine WQ_aald (q := 0) dX10_take_37 (lyx_is hy 59 16 rfl) (lyx_n hy 59 3 rfl) k3910 (by decide) (rfx hr 59 0 60 (by decide)) ?_
            refine WP_callV1 (k := 4) dX10_take_38 ⟨⟨⟨by decide, by decide⟩, zX4_become⟩, lX10_249, by decide, rfl, vX4_become.1, vX4_become.2⟩ (lyx_is hy 53 4 rfl) (sx_become_53_60 hy hr hI  ) (Nat.le_of_ble_eq_true rfl) ?_
            intro r I3913 J3914 Ra hq
            obtain ⟨⟨hI3913, ec, fiI3913, fjI3913⟩, rfl⟩ := hq
            rw [ec]
            clear ec Ra
            have fr3915 : fz 74 g [53, 54, 55] I I3913 := fz_tr fr0 (fz_mono fiI3913 (by decide))
            have fr3916 : fz 74 g [53] J J3914 := fz_tr frj0 (fz_mono fjI3913 (by decide))
            have e3917 : I3913 (ad g 1) 1 = L := hI3913.2
            have b3918 := BT_get hI3913.1 1 1 2 (0) (0) (900) (by decide) 1 (by decide) (by decide)
            rw [e3917] at b3918
            refine WP_aload_n dX10_take_41 rfl ?_
            refine WP_getr dX10_take_42 fX10_62 rfl (lyx_is hy 0 10 rfl) (rfx hr 0 5 53 (by decide)) ?_
            refine WQ_getiu dX10_take_45 fX10_232 rfl (lyx_is hy 53 4 rfl) (fun v3919 ev3919 => ?_)
            exact WP_iret dX10_take_48 rfl ⟨⟨hI3913, rfl, fr3915, fr3916⟩, _, rfl⟩
          · refine WQ_aald (q := 1) dX10_take_37 (lyx_is hy 59 16 rfl) (lyx_n hy 59 3 rfl) k3911 (by decide) (rfx hr 59 1 63 (by decide)) ?_
            refine WP_callV1 (k := 4) dX10_take_38 ⟨⟨⟨by decide, by decide⟩, zX4_become⟩, lX10_249, by decide, rfl, vX4_become.1, vX4_become.2⟩ (lyx_is hy 53 4 rfl) (sx_become_53_63 hy hr hI  ) (Nat.le_of_ble_eq_true rfl) ?_
            intro r I3920 J3921 Ra hq
            obtain ⟨⟨hI3920, ec, fiI3920, fjI3920⟩, rfl⟩ := hq
            rw [ec]
            clear ec Ra
            have fr3922 : fz 74 g [53, 54, 55] I I3920 := fz_tr fr0 (fz_mono fiI3920 (by decide))
            have fr3923 : fz 74 g [53] J J3921 := fz_tr frj0 (fz_mono fjI3920 (by decide))
            have e3924 : I3920 (ad g 1) 1 = L := hI3920.2
            have b3925 := BT_get hI3920.1 1 1 2 (0) (0) (900) (by decide) 1 (by decide) (by decide)
            rw [e3924] at b3925
            refine WP_aload_n dX10_take_41 rfl ?_
            refine WP_getr dX10_take_42 fX10_62 rfl (lyx_is hy 0 10 rfl) (rfx hr 0 5 53 (by decide)) ?_
            refine WQ_getiu dX10_take_45 fX10_232 rfl (lyx_is hy 53 4 rfl) (fun v3926 ev3926 => ?_)
            exact WP_iret dX10_take_48 rfl ⟨⟨hI3920, rfl, fr3922, fr3923⟩, _, rfl⟩
          · refine WQ_aald (q := 2) dX10_take_37 (lyx_is hy 59 16 rfl) (lyx_n hy 59 3 rfl) k3912 (by decide) (rfx hr 59 2 66 (by decide)) ?_
            refine WP_callV1 (k := 4) dX10_take_38 ⟨⟨⟨by decide, by decide⟩, zX4_become⟩, lX10_249, by decide, rfl, vX4_become.1, vX4_become.2⟩ (lyx_is hy 53 4 rfl) (sx_become_53_66 hy hr hI  ) (Nat.le_of_ble_eq_true rfl) ?_
            intro r I3927 J3928 Ra hq
            obtain ⟨⟨hI3927, ec, fiI3927, fjI3927⟩, rfl⟩ := hq
            rw [ec]
            clear ec Ra
            have fr3929 : fz 74 g [53, 54, 55] I I3927 := fz_tr fr0 (fz_mono fiI3927 (by decide))
            have fr3930 : fz 74 g [53] J J3928 := fz_tr frj0 (fz_mono fjI3927 (by decide))
            have e3931 : I3927 (ad g 1) 1 = L := hI3927.2
            have b3932 := BT_get hI3927.1 1 1 2 (0) (0) (900) (by decide) 1 (by decide) (by decide)
            rw [e3931] at b3932
            refine WP_aload_n dX10_take_41 rfl ?_
            refine WP_getr dX10_take_42 fX10_62 rfl (lyx_is hy 0 10 rfl) (rfx hr 0 5 53 (by decide)) ?_
            refine WQ_getiu dX10_take_45 fX10_232 rfl (lyx_is hy 53 4 rfl) (fun v3933 ev3933 => ?_)
            exact WP_iret dX10_take_48 rfl ⟨⟨hI3927, rfl, fr3929, fr3930⟩, _, rfl⟩
        · refine WQ_bipush (-4) (-4) dX10_take_25 rfl rfl (fun v3934 hv3934 => ?_)
          exact WP_iret dX10_take_27 rfl ⟨⟨hI, rfl, fr0, frj0⟩, _, rfl⟩
    · refine WQ_bipush (-2) (-2) dX10_take_9 rfl rfl (fun v3935 hv3935 => ?_)
      exact WP_iret dX10_take_11 rfl ⟨⟨hI, rfl, fr0, frj0⟩, _, rfl⟩
