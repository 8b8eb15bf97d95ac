set_option maxHeartbeats 4000000 in
set_option maxRecDepth 100000 in
theorem sx_serve_53_6 {g : GG} {n : Int} {L : Int32} (hy : LyX g)  {I : pI} {J : pJ} {R : pR} (hr : RfX g R) (hP : NL g R) (hT : R (ad g 5) 0 = some (ad g 6)) (hI : XI g n L I) (so : Int32) (da : Int32) (so_lo : 0 ≤ so.toInt) (so_hi : so.toInt ≤ 3) (da_lo : 0 ≤ da.toInt) (da_hi : da.toInt ≤ 6) (hn : 0 ≤ n ∧ n ≤ 40000) (hb : (I (ad g 53) 1).toInt ≤ 23760 * n + 0 - 5940) : SP g mX9_serve [.ref (ad g 49), .ref (ad g 53), .int so, .int da] I J R (fun r I' J' R' => (XI g n L I' ∧ (RfX g R' ∧ (R' (ad g 5) 0 = R (ad g 5) 0 ∧ R' (ad g 0) 10 = R (ad g 0) 10) ∧ NL g R') ∧ fz 74 g [43, 44, 47, 48, 50, 51, 52, 53, 55] I I' ∧ fz 74 g [45, 46, 53] J J' ∧ (I' (ad g 53) 1).toInt ≤ (I (ad g 53) 1).toInt + 5940 ∧ I' (ad g 53) 0 = I (ad g 53) 0) ∧ r = none) := by
  refine SP_of ⟨by decide, rfl⟩ (Nat.le_of_ble_eq_true rfl) ?_
  have e13916 : I (ad g 1) 1 = L := hI.2
  have b13917 := BT_get hI.1 1 1 2 (0) (0) (900) (by decide) 1 (by decide) (by decide)
  rw [e13916] at b13917
  have fr0 : fz 74 g [43, 44, 47, 48, 50, 51, 52, 53, 55] I I := fz_rf
  have frj0 : fz 74 g [45, 46, 53] J J := fz_rf
  obtain ⟨w13918, ew13918⟩ : ∃ w : Int32, I (ad g 53) 0 = w := ⟨_, rfl⟩
  obtain ⟨w13919, ew13919⟩ : ∃ w : Int32, I (ad g 53) 1 = w := ⟨_, rfl⟩
  have bw13919 := BT_get hI.1 53 1 2 (0) (23760) (0) (by decide) 1 (by decide) (by decide)
  rw [ew13919] at bw13919
  rw [ew13919] at hb
  refine WP_iload_n dX9_serve_0 rfl ?_
  refine WQ_bipush (7) (7) dX9_serve_1 rfl rfl (fun v13920 hv13920 => ?_)
  refine WQ_imulk (7) dX9_serve_3 hv13920 (by omega) (by omega) (fun v13921 hv13921 => ?_)
  refine WP_istore (ls' := [(0, _), (1, _), (2, _), (3, _), (4, _)]) dX9_serve_4 (by decide) rfl ?_
  refine WP_aload_n dX9_serve_6 rfl ?_
  refine WP_getr dX9_serve_7 fX9_25 rfl (lyx_is hy 49 9 rfl) (rfx hr 49 2 5 (by decide)) ?_
  refine WP_getr dX9_serve_10 fX9_49 rfl (lyx_is hy 5 0 rfl) hT ?_
  refine WP_getr dX9_serve_13 fX9_71 rfl (lyx_is hy 6 7 rfl) (rfx hr 6 6 8 (by decide)) ?_
  refine WP_iload_n dX9_serve_16 rfl ?_
  refine WQ_iald dX9_serve_17 (lyx_is hy 8 13 rfl) (lyx_n hy 8 4 rfl) (by omega) (by omega) (fun q hq => BT_get hI.1 8 0 4 (0) (0) (99) (by decide) q (Nat.zero_le _) hq) (fun v13922 av13922 bv13922 ev13922 => ?_)
  clear ev13922
  refine WP_istore (ls' := [(0, _), (1, _), (2, _), (3, _), (4, _), (5, _)]) dX9_serve_18 (by decide) rfl ?_
  refine WP_aload_n dX9_serve_20 rfl ?_
  refine WP_getr dX9_serve_21 fX9_75 rfl (lyx_is hy 53 4 rfl) (rfx hr 53 5 55 (by decide)) ?_
  refine WP_iload dX9_serve_24 rfl ?_
  refine WQ_iconst (1) (1) dX9_serve_26 rfl rfl (fun v13923 hv13923 => ?_)
  refine WQ_iadd dX9_serve_27 (by omega) (by omega) (fun v13924 hv13924 => ?_)
  refine WQ_ialdf (q := 7 * so.toInt.toNat + 1) dX9_serve_28 (lyx_is hy 55 13 rfl) (lyx_n hy 55 28 rfl) (by omega) (by omega) (by omega) (fa_get1 hI (c := 55) (by decide) (by omega)) (fun v13925 av13925 bv13925 => ?_)
  refine WP_istore (ls' := [(0, _), (1, _), (2, _), (3, _), (4, _), (5, _), (6, _)]) dX9_serve_29 (by decide) rfl ?_
  refine WP_aload_n dX9_serve_31 rfl ?_
  refine WP_getr dX9_serve_32 fX9_25 rfl (lyx_is hy 49 9 rfl) (rfx hr 49 2 5 (by decide)) ?_
  refine WP_iload_n dX9_serve_35 rfl ?_
  refine WP_iload_n dX9_serve_36 rfl ?_
  refine WP_aload_n dX9_serve_37 rfl ?_
  refine WP_getr dX9_serve_38 fX9_75 rfl (lyx_is hy 53 4 rfl) (rfx hr 53 5 55 (by decide)) ?_
  refine WP_iload dX9_serve_41 rfl ?_
  refine WQ_iconst (0) (0) dX9_serve_43 rfl rfl (fun v13926 hv13926 => ?_)
  refine WQ_iadd dX9_serve_44 (by omega) (by omega) (fun v13927 hv13927 => ?_)
  refine WQ_ialdf (q := 7 * so.toInt.toNat) dX9_serve_45 (lyx_is hy 55 13 rfl) (lyx_n hy 55 28 rfl) (by omega) (by omega) (by omega) (fa_get0 hI (c := 55) (by decide) (by omega)) (fun v13928 av13928 bv13928 => ?_)
  refine WP_callV3 (k := 0) dX9_serve_46 ⟨⟨⟨by decide, by decide⟩, zX0_earned⟩, lX9_81, by decide, rfl, vX0_earned.1, vX0_earned.2⟩ (lyx_is hy 5 0 rfl) (sx_earned_6 hy hr hT hI so da v13928 (by omega) (by omega) (by omega) (by omega) (by omega) (by omega)) (Nat.le_of_ble_eq_true rfl) ?_
  intro r Ia Ja Ra hq
  obtain ⟨⟨ea, eb, ec⟩, v13929, rfl, av13929, bv13929, cv13929⟩ := hq
  show WP _ _ _ _ (.int _ :: _) _ _ _ _
  rw [ea, eb, ec]
  clear ea eb ec Ia Ja Ra
  refine WP_istore (ls' := [(0, _), (1, _), (2, _), (3, _), (4, _), (5, _), (6, _), (7, _)]) dX9_serve_49 (by decide) rfl ?_
  refine WP_aload_n dX9_serve_51 rfl ?_
  refine WP_getr dX9_serve_52 fX9_85 rfl (lyx_is hy 53 4 rfl) (rfx hr 53 4 54 (by decide)) ?_
  refine WP_iload_n dX9_serve_55 rfl ?_
  refine WQ_ialdu dX9_serve_56 (lyx_is hy 54 13 rfl) (lyx_n hy 54 4 rfl) (by omega) (by omega) (fun v13930 => ?_)
  refine WP_istore (ls' := [(0, _), (1, _), (2, _), (3, _), (4, _), (5, _), (6, _), (7, _), (8, _)]) dX9_serve_57 (by decide) rfl ?_
  refine WP_aload_n dX9_serve_59 rfl ?_
  refine WP_getr dX9_serve_60 fX9_12 rfl (lyx_is hy 49 9 rfl) (rfx hr 49 0 50 (by decide)) ?_
  refine WP_aload_n dX9_serve_63 rfl ?_
  refine WP_getr dX9_serve_64 fX9_25 rfl (lyx_is hy 49 9 rfl) (rfx hr 49 2 5 (by decide)) ?_
  refine WP_iload_n dX9_serve_67 rfl ?_
  refine WP_iload_n dX9_serve_68 rfl ?_
  refine WP_callV3 (k := 6) dX9_serve_69 ⟨⟨⟨by decide, by decide⟩, zX6_load⟩, lX9_88, by decide, rfl, vX6_load.1, vX6_load.2⟩ (lyx_is hy 50 6 rfl) (sx_loadx_50_6 hy hr hT hI so da (by omega) (by omega) (by omega) (by omega)) (Nat.le_of_ble_eq_true rfl) ?_
  intro r I13931 J13932 Ra hq
  obtain ⟨⟨hI13931, ec, fiI13931, ejI13931, pI13931⟩, rfl⟩ := hq
  rw [ec]
  clear ec Ra
  have fr13933 : fz 74 g [43, 44, 47, 48, 50, 51, 52, 53, 55] I I13931 := fz_tr fr0 (fz_mono fiI13931 (by decide))
  rw [ejI13931]
  clear ejI13931 J13932
  have e13934 : I13931 (ad g 53) 0 = w13918 := by rw [fz_at fiI13931 53 (by decide) (by decide)]; exact ew13918
  have e13935 : I13931 (ad g 53) 1 = w13919 := by rw [fz_at fiI13931 53 (by decide) (by decide)]; exact ew13919
  have e13936 : I13931 (ad g 1) 1 = L := hI13931.2
  have b13937 := BT_get hI13931.1 1 1 2 (0) (0) (900) (by decide) 1 (by decide) (by decide)
  rw [e13936] at b13937
  refine WP_iload dX9_serve_72 rfl ?_
  refine WQ_iconst (3) (3) dX9_serve_74 rfl rfl (fun v13938 hv13938 => ?_)
  refine WQ_icmp_ne 96 dX9_serve_75 rfl (fun c13938 => ?_) (fun c13938 => ?_)
  · refine WP_aload_n dX9_serve_96 rfl ?_
    refine WP_getr dX9_serve_97 fX9_12 rfl (lyx_is hy 49 9 rfl) (rfx hr 49 0 50 (by decide)) ?_
    refine WP_iload dX9_serve_100 rfl ?_
    refine WP_iload dX9_serve_102 rfl ?_
    refine WP_iload dX9_serve_104 rfl ?_
    refine WP_callV3 (k := 6) dX9_serve_106 ⟨⟨⟨by decide, by decide⟩, zX6_habit⟩, lX9_98, by decide, rfl, vX6_habit.1, vX6_habit.2⟩ (lyx_is hy 50 6 rfl) (sx_habita hy hr hI13931 v13930 v13929 v13925  (by omega) (by omega) (by omega) (by omega)) (Nat.le_of_ble_eq_true rfl) ?_
    intro r Ia Ja Ra hq
    obtain ⟨⟨ea, eb, ec⟩, v13940, rfl, av13940, bv13940, cv13940⟩ := hq
    show WP _ _ _ _ (.int _ :: _) _ _ _ _
    rw [ea, eb, ec]
    clear ea eb ec Ia Ja Ra
    have acv13940 : AOKd (I13931 (ad g 50)) v13929.toInt v13925.toInt v13940.toInt := by unfold AOKd; exact ⟨by omega, by omega, cv13940.1, cv13940.2.1, cv13940.2.2⟩
    obtain ⟨w13941, ew13941⟩ : ∃ w : Int32, I13931 (ad g 50) 3 = w := ⟨_, rfl⟩
    have bw13941 := BT_get hI13931.1 50 3 4 (0) (0) (20) (by decide) 3 (by decide) (by decide)
    rw [ew13941] at bw13941
    obtain ⟨w13942, ew13942⟩ : ∃ w : Int32, I13931 (ad g 50) 4 = w := ⟨_, rfl⟩
    have bw13942 := BT_get hI13931.1 50 4 5 (0) (0) (20) (by decide) 4 (by decide) (by decide)
    rw [ew13942] at bw13942
    have adv13940 := acv13940
    unfold AOKd at adv13940
    rw [ew13941, ew13942] at adv13940
    obtain ⟨rav13940, rbv13940, rcv13940, rdv13940, rev13940⟩ := adv13940
    refine WP_istore (ls' := [(0, _), (1, _), (2, _), (3, _), (4, _), (5, _), (6, _), (7, _), (8, _), (9, _)]) dX9_serve_109 (by decide) rfl ?_
    refine WP_aload_n dX9_serve_111 rfl ?_
    refine WP_aload_n dX9_serve_112 rfl ?_
    refine WP_getr dX9_serve_113 fX9_12 rfl (lyx_is hy 49 9 rfl) (rfx hr 49 0 50 (by decide)) ?_
    refine WQ_geti dX9_serve_116 fX9_101 rfl (lyx_is hy 50 6 rfl) (BT_get hI13931.1 50 0 1 (-1) (0) (2) (by decide) 0 (by decide) (by decide)) (fun v13943 ev13943 av13943 bv13943 => ?_)
    refine WP_iload dX9_serve_119 rfl ?_
    refine WQ_iconst (3) (3) dX9_serve_121 rfl rfl (fun v13944 hv13944 => ?_)
    refine WQ_iand3 dX9_serve_122 hv13944 (by omega) (by omega) (fun v13945 hv13945 => ?_)
    refine WP_iload dX9_serve_123 rfl ?_
    refine WP_iload_n dX9_serve_125 rfl ?_
    refine WP_callV4 (k := 9) dX9_serve_126 ⟨⟨⟨by decide, by decide⟩, zX9_buy⟩, lX9_104, by decide, rfl, vX9_buy.1, vX9_buy.2⟩ (lyx_is hy 49 9 rfl) (sx_buyf hy hr hI13931 v13943 v13945 v13922 da (by omega) (by omega) (by omega) (by omega) (by omega) (by omega) (by omega) (by omega)) (Nat.le_of_ble_eq_true rfl) ?_
    intro r I13946 J13947 Ra hq
    obtain ⟨⟨hI13946, ec, fiI13946, fjI13946⟩, v13948, rfl, av13948, bv13948, cv13948⟩ := hq
    show WP _ _ _ _ (.int _ :: _) _ _ _ _
    rw [ec]
    clear ec Ra
    have fr13949 : fz 74 g [43, 44, 47, 48, 50, 51, 52, 53, 55] I I13946 := fz_tr fr13933 (fz_mono fiI13946 (by decide))
    have fr13950 : fz 74 g [45, 46, 53] J J13947 := fz_tr frj0 (fz_mono fjI13946 (by decide))
    have e13951 : I13946 (ad g 53) 0 = w13918 := by rw [fz_at fiI13946 53 (by decide) (by decide)]; exact e13934
    have e13952 : I13946 (ad g 53) 1 = w13919 := by rw [fz_at fiI13946 53 (by decide) (by decide)]; exact e13935
    have e13953 : I13946 (ad g 50) 3 = w13941 := by rw [fz_at fiI13946 50 (by decide) (by decide)]; exact ew13941
    have e13954 : I13946 (ad g 50) 4 = w13942 := by rw [fz_at fiI13946 50 (by decide) (by decide)]; exact ew13942
    have e13955 : I13946 (ad g 50) 0 = v13943 := by rw [fz_at fiI13946 50 (by decide) (by decide)]; exact ev13943
    have e13956 : I13946 (ad g 1) 1 = L := hI13946.2
    have b13957 := BT_get hI13946.1 1 1 2 (0) (0) (900) (by decide) 1 (by decide) (by decide)
    rw [e13956] at b13957
    refine WP_istore (ls' := [(0, _), (1, _), (2, _), (3, _), (4, _), (5, _), (6, _), (7, _), (8, _), (9, _), (10, _)]) dX9_serve_129 (by decide) rfl ?_
    refine WP_iload dX9_serve_131 rfl ?_
    refine WQ_iconst (2) (2) dX9_serve_133 rfl rfl (fun v13958 hv13958 => ?_)
    refine WQ_ishr2 dX9_serve_134 hv13958 (by omega) (by omega) (fun v13959 hv13959 => ?_)
    refine WQ_iconst (3) (3) dX9_serve_135 rfl rfl (fun v13960 hv13960 => ?_)
    refine WQ_iand3 dX9_serve_136 hv13960 (by omega) (by omega) (fun v13961 hv13961 => ?_)
    refine WP_istore (ls' := [(0, _), (1, _), (2, _), (3, _), (4, _), (5, _), (6, _), (7, _), (8, _), (9, _), (10, _), (11, _)]) dX9_serve_137 (by decide) rfl ?_
    refine WP_aload_n dX9_serve_139 rfl ?_
    refine WP_aload_n dX9_serve_140 rfl ?_
    refine WP_getr dX9_serve_141 fX9_25 rfl (lyx_is hy 49 9 rfl) (rfx hr 49 2 5 (by decide)) ?_
    refine WP_getr dX9_serve_144 fX9_49 rfl (lyx_is hy 5 0 rfl) hT ?_
    refine WQ_geti dX9_serve_147 fX9_108 rfl (lyx_is hy 6 7 rfl) (BT_get hI13946.1 6 4 5 (-1) (0) (2) (by decide) 4 (by decide) (by decide)) (fun v13962 ev13962 av13962 bv13962 => ?_)
    refine WP_iload dX9_serve_150 rfl ?_
    refine WQ_iconst (4) (4) dX9_serve_152 rfl rfl (fun v13963 hv13963 => ?_)
    refine WQ_ishr4 dX9_serve_153 hv13963 (by omega) (by omega) (fun v13964 hv13964 => ?_)
    refine WP_iload dX9_serve_154 rfl ?_
    refine WP_iload_n dX9_serve_156 rfl ?_
    refine WP_callV4 (k := 9) dX9_serve_157 ⟨⟨⟨by decide, by decide⟩, zX9_buy⟩, lX9_104, by decide, rfl, vX9_buy.1, vX9_buy.2⟩ (lyx_is hy 49 9 rfl) (sx_buyf hy hr hI13946 v13962 v13964 v13922 da (by omega) (by omega) (by omega) (by omega) (by omega) (by omega) (by omega) (by omega)) (Nat.le_of_ble_eq_true rfl) ?_
    intro r I13965 J13966 Ra hq
    obtain ⟨⟨hI13965, ec, fiI13965, fjI13965⟩, v13967, rfl, av13967, bv13967, cv13967⟩ := hq
    show WP _ _ _ _ (.int _ :: _) _ _ _ _
    rw [ec]
    clear ec Ra
    have fr13968 : fz 74 g [43, 44, 47, 48, 50, 51, 52, 53, 55] I I13965 := fz_tr fr13949 (fz_mono fiI13965 (by decide))
    have fr13969 : fz 74 g [45, 46, 53] J J13966 := fz_tr fr13950 (fz_mono fjI13965 (by decide))
    have e13970 : I13965 (ad g 53) 0 = w13918 := by rw [fz_at fiI13965 53 (by decide) (by decide)]; exact e13951
    have e13971 : I13965 (ad g 53) 1 = w13919 := by rw [fz_at fiI13965 53 (by decide) (by decide)]; exact e13952
    have e13972 : I13965 (ad g 50) 3 = w13941 := by rw [fz_at fiI13965 50 (by decide) (by decide)]; exact e13953
    have e13973 : I13965 (ad g 50) 4 = w13942 := by rw [fz_at fiI13965 50 (by decide) (by decide)]; exact e13954
    have e13974 : I13965 (ad g 50) 0 = v13943 := by rw [fz_at fiI13965 50 (by decide) (by decide)]; exact e13955
    have e13975 : I13965 (ad g 6) 4 = v13962 := by rw [fz_at fiI13965 6 (by decide) (by decide)]; exact ev13962
    have e13976 : I13965 (ad g 1) 1 = L := hI13965.2
    have b13977 := BT_get hI13965.1 1 1 2 (0) (0) (900) (by decide) 1 (by decide) (by decide)
    rw [e13976] at b13977
    refine WP_istore (ls' := [(0, _), (1, _), (2, _), (3, _), (4, _), (5, _), (6, _), (7, _), (8, _), (9, _), (10, _), (11, _), (12, _)]) dX9_serve_160 (by decide) rfl ?_
    refine WP_aload_n dX9_serve_162 rfl ?_
    refine WP_getr dX9_serve_163 fX9_12 rfl (lyx_is hy 49 9 rfl) (rfx hr 49 0 50 (by decide)) ?_
    refine WP_iload dX9_serve_166 rfl ?_
    refine WP_iload dX9_serve_168 rfl ?_
    refine WP_callV2 (k := 6) dX9_serve_170 ⟨⟨⟨by decide, by decide⟩, zX6_priceOf⟩, lX9_111, by decide, rfl, vX6_priceOf.1, vX6_priceOf.2⟩ (lyx_is hy 50 6 rfl) (sx_pricex hy hr hI13965 v13948 v13967 (by omega) (by omega) (by omega) (by omega)) (Nat.le_of_ble_eq_true rfl) ?_
    intro r Ia Ja Ra hq
    obtain ⟨⟨ea, eb, ec⟩, v13978, rfl, av13978, bv13978, cv13978⟩ := hq
    show WP _ _ _ _ (.int _ :: _) _ _ _ _
    rw [ea, eb, ec]
    clear ea eb ec Ia Ja Ra
    rw [e13972] at cv13978
    rw [e13973] at cv13978
    have k1 : v13948.toInt * w13941.toInt ≤ (v13940.toInt % 4) * w13941.toInt := Int.mul_le_mul_of_nonneg_right (by omega) (by omega)
    have k2 : v13967.toInt * w13942.toInt ≤ (v13940.toInt / 16) * w13942.toInt := Int.mul_le_mul_of_nonneg_right (by omega) (by omega)
    have kp : v13978.toInt ≤ v13929.toInt := by omega
    refine WP_istore (ls' := [(0, _), (1, _), (2, _), (3, _), (4, _), (5, _), (6, _), (7, _), (8, _), (9, _), (10, _), (11, _), (12, _), (13, _)]) dX9_serve_173 (by decide) rfl ?_
    refine WP_aload_n dX9_serve_175 rfl ?_
    refine WP_dup dX9_serve_176 rfl ?_
    refine WQ_getiu dX9_serve_177 fX9_114 rfl (lyx_is hy 53 4 rfl) (fun v13979 ev13979 => ?_)
    refine WP_iload dX9_serve_180 rfl ?_
    refine WP_iload dX9_serve_182 rfl ?_
    refine WP_iload dX9_serve_184 rfl ?_
    refine WQ_iadd dX9_serve_186 (by omega) (by omega) (fun v13980 hv13980 => ?_)
    refine WQ_imulb (99) (6) dX9_serve_187 ⟨by omega, by omega⟩ ⟨by omega, by omega⟩ (by decide) (fun v13981 pv13981 av13981 bv13981 cv13981 => ?_)
    refine WQ_iaddu dX9_serve_188 (fun v13982 => ?_)
    refine WQ_puti dX9_serve_189 fX9_114 rfl rfl (lyx_is hy 53 4 rfl) (fun I13983 eI13983 => ?_)
    have hI13983 : XI g n L I13983 := by rw [eI13983]; exact (xi_f0 hy hI13965 (c := 53) (by decide) (Or.inl (by decide)) (by decide))
    have e13984 : I13983 (ad g 53) 0 = w13918 := by rw [eI13983, pp_ne _ _ (Or.inr (by decide))]; exact e13970
    have e13985 : I13983 (ad g 53) 1 = w13919 := by rw [eI13983, pp_ne _ _ (Or.inr (by decide))]; exact e13971
    have e13986 : I13983 (ad g 50) 3 = w13941 := by rw [eI13983, pp_ne _ _ (Or.inl (lyx_ne hy (by decide) (by decide) (by decide)))]; exact e13972
    have e13987 : I13983 (ad g 50) 4 = w13942 := by rw [eI13983, pp_ne _ _ (Or.inl (lyx_ne hy (by decide) (by decide) (by decide)))]; exact e13973
    have e13988 : I13983 (ad g 50) 0 = v13943 := by rw [eI13983, pp_ne _ _ (Or.inl (lyx_ne hy (by decide) (by decide) (by decide)))]; exact e13974
    have e13989 : I13983 (ad g 6) 4 = v13962 := by rw [eI13983, pp_ne _ _ (Or.inl (lyx_ne hy (by decide) (by decide) (by decide)))]; exact e13975
    have e13990 : I13983 (ad g 1) 1 = L := by rw [eI13983, pp_ne _ _ (Or.inl (lyx_ne hy (by decide) (by decide) (by decide)))]; exact e13976
    have e13991 : I13983 (ad g 53) 2 = v13982 := by rw [eI13983, pp_self]
    have fr13992 : fz 74 g [43, 44, 47, 48, 50, 51, 52, 53, 55] I I13983 := by rw [eI13983]; exact fzx_pp hy fr13968 (by decide) (by decide)
    clear eI13983
    refine WP_aload_n dX9_serve_192 rfl ?_
    refine WP_dup dX9_serve_193 rfl ?_
    refine WQ_getl dX9_serve_194 fX9_117 rfl (lyx_is hy 53 4 rfl) (fun l13993 el13993 => ?_)
    refine WP_iload dX9_serve_197 rfl ?_
    refine WP_iload dX9_serve_199 rfl ?_
    refine WP_iload dX9_serve_201 rfl ?_
    refine WQ_isub dX9_serve_203 (by omega) (by omega) (fun v13994 hv13994 => ?_)
    refine WQ_imulu dX9_serve_204 (fun v13995 => ?_)
    refine WQ_i2l dX9_serve_205 (fun l13996 hl13996 => ?_)
    refine WQ_ladd dX9_serve_206 (fun l13997 => ?_)
    refine WQ_putl dX9_serve_207 fX9_117 rfl rfl (lyx_is hy 53 4 rfl) (fun J13998 eJ13998 => ?_)
    have fr13999 : fz 74 g [45, 46, 53] J J13998 := by rw [eJ13998]; exact fzx_pp hy fr13969 (by decide) (by decide)
    clear eJ13998
    refine WP_aload_n dX9_serve_210 rfl ?_
    refine WP_getr dX9_serve_211 fX9_75 rfl (lyx_is hy 53 4 rfl) (rfx hr 53 5 55 (by decide)) ?_
    refine WP_iload dX9_serve_214 rfl ?_
    refine WQ_iconst (2) (2) dX9_serve_216 rfl rfl (fun v14000 hv14000 => ?_)
    refine WQ_iadd dX9_serve_217 (by omega) (by omega) (fun v14001 hv14001 => ?_)
    refine WP_dup2 dX9_serve_218 rfl rfl ?_
    refine WQ_ialdu dX9_serve_219 (lyx_is hy 55 13 rfl) (lyx_n hy 55 28 rfl) (by omega) (by omega) (fun v14002 => ?_)
    refine WP_iload dX9_serve_220 rfl ?_
    refine WP_iload dX9_serve_222 rfl ?_
    refine WQ_imulb (99) (60) dX9_serve_224 ⟨by omega, by omega⟩ ⟨by omega, by omega⟩ (by decide) (fun v14003 pv14003 av14003 bv14003 cv14003 => ?_)
    refine WQ_iaddu dX9_serve_225 (fun v14004 => ?_)
    refine WQ_iast dX9_serve_226 (lyx_is hy 55 13 rfl) (lyx_n hy 55 28 rfl) (by omega) (by omega) (fun I14005 eI14005 => ?_)
    have hI14005 : XI g n L I14005 := by rw [eI14005]; exact (fa_put hy hI13983 (c := 55) (k := 2) (s := so.toInt.toNat) (by decide) (by omega) (by decide) (by rw [cl (n := 7 * so.toInt.toNat + 2) (by omega)]) (fun h => absurd h (by decide)) (fun h => absurd h (by decide)))
    have e14006 : I14005 (ad g 53) 0 = w13918 := by rw [eI14005, pp_ne _ _ (Or.inl (lyx_ne hy (by decide) (by decide) (by decide)))]; exact e13984
    have e14007 : I14005 (ad g 53) 1 = w13919 := by rw [eI14005, pp_ne _ _ (Or.inl (lyx_ne hy (by decide) (by decide) (by decide)))]; exact e13985
    have e14008 : I14005 (ad g 50) 3 = w13941 := by rw [eI14005, pp_ne _ _ (Or.inl (lyx_ne hy (by decide) (by decide) (by decide)))]; exact e13986
    have e14009 : I14005 (ad g 50) 4 = w13942 := by rw [eI14005, pp_ne _ _ (Or.inl (lyx_ne hy (by decide) (by decide) (by decide)))]; exact e13987
    have e14010 : I14005 (ad g 50) 0 = v13943 := by rw [eI14005, pp_ne _ _ (Or.inl (lyx_ne hy (by decide) (by decide) (by decide)))]; exact e13988
    have e14011 : I14005 (ad g 6) 4 = v13962 := by rw [eI14005, pp_ne _ _ (Or.inl (lyx_ne hy (by decide) (by decide) (by decide)))]; exact e13989
    have e14012 : I14005 (ad g 1) 1 = L := by rw [eI14005, pp_ne _ _ (Or.inl (lyx_ne hy (by decide) (by decide) (by decide)))]; exact e13990
    have e14013 : I14005 (ad g 53) 2 = v13982 := by rw [eI14005, pp_ne _ _ (Or.inl (lyx_ne hy (by decide) (by decide) (by decide)))]; exact e13991
    have fr14014 : fz 74 g [43, 44, 47, 48, 50, 51, 52, 53, 55] I I14005 := by rw [eI14005]; exact fzx_pp hy fr13992 (by decide) (by decide)
    clear eI14005
    refine WP_aload_n dX9_serve_227 rfl ?_
    refine WP_getr dX9_serve_228 fX9_75 rfl (lyx_is hy 53 4 rfl) (rfx hr 53 5 55 (by decide)) ?_
    refine WP_iload dX9_serve_231 rfl ?_
    refine WQ_iconst (4) (4) dX9_serve_233 rfl rfl (fun v14015 hv14015 => ?_)
    refine WQ_iadd dX9_serve_234 (by omega) (by omega) (fun v14016 hv14016 => ?_)
    refine WP_dup2 dX9_serve_235 rfl rfl ?_
    refine WQ_ialdu dX9_serve_236 (lyx_is hy 55 13 rfl) (lyx_n hy 55 28 rfl) (by omega) (by omega) (fun v14017 => ?_)
    refine WP_iload dX9_serve_237 rfl ?_
    refine WP_aload_n dX9_serve_239 rfl ?_
    refine WP_getr dX9_serve_240 fX9_12 rfl (lyx_is hy 49 9 rfl) (rfx hr 49 0 50 (by decide)) ?_
    refine WQ_geti dX9_serve_243 fX9_121 rfl (lyx_is hy 50 6 rfl) (BT_get hI14005.1 50 2 3 (0) (0) (99) (by decide) 2 (by decide) (by decide)) (fun v14018 ev14018 av14018 bv14018 => ?_)
    refine WQ_imulb (99) (99) dX9_serve_246 ⟨by omega, by omega⟩ ⟨by omega, by omega⟩ (by decide) (fun v14019 pv14019 av14019 bv14019 cv14019 => ?_)
    refine WP_iload dX9_serve_247 rfl ?_
    refine WP_iload dX9_serve_249 rfl ?_
    refine WQ_iadd dX9_serve_251 (by omega) (by omega) (fun v14020 hv14020 => ?_)
    refine WQ_imulb (9801) (6) dX9_serve_252 ⟨by omega, by omega⟩ ⟨by omega, by omega⟩ (by decide) (fun v14021 pv14021 av14021 bv14021 cv14021 => ?_)
    refine WQ_iaddu dX9_serve_253 (fun v14022 => ?_)
    refine WQ_iast dX9_serve_254 (lyx_is hy 55 13 rfl) (lyx_n hy 55 28 rfl) (by omega) (by omega) (fun I14023 eI14023 => ?_)
    have hI14023 : XI g n L I14023 := by rw [eI14023]; exact (fa_put hy hI14005 (c := 55) (k := 4) (s := so.toInt.toNat) (by decide) (by omega) (by decide) (by rw [cl (n := 7 * so.toInt.toNat + 4) (by omega)]) (fun h => absurd h (by decide)) (fun h => absurd h (by decide)))
    have e14024 : I14023 (ad g 53) 0 = w13918 := by rw [eI14023, pp_ne _ _ (Or.inl (lyx_ne hy (by decide) (by decide) (by decide)))]; exact e14006
    have e14025 : I14023 (ad g 53) 1 = w13919 := by rw [eI14023, pp_ne _ _ (Or.inl (lyx_ne hy (by decide) (by decide) (by decide)))]; exact e14007
    have e14026 : I14023 (ad g 50) 3 = w13941 := by rw [eI14023, pp_ne _ _ (Or.inl (lyx_ne hy (by decide) (by decide) (by decide)))]; exact e14008
    have e14027 : I14023 (ad g 50) 4 = w13942 := by rw [eI14023, pp_ne _ _ (Or.inl (lyx_ne hy (by decide) (by decide) (by decide)))]; exact e14009
    have e14028 : I14023 (ad g 50) 0 = v13943 := by rw [eI14023, pp_ne _ _ (Or.inl (lyx_ne hy (by decide) (by decide) (by decide)))]; exact e14010
    have e14029 : I14023 (ad g 6) 4 = v13962 := by rw [eI14023, pp_ne _ _ (Or.inl (lyx_ne hy (by decide) (by decide) (by decide)))]; exact e14011
    have e14030 : I14023 (ad g 1) 1 = L := by rw [eI14023, pp_ne _ _ (Or.inl (lyx_ne hy (by decide) (by decide) (by decide)))]; exact e14012
    have e14031 : I14023 (ad g 53) 2 = v13982 := by rw [eI14023, pp_ne _ _ (Or.inl (lyx_ne hy (by decide) (by decide) (by decide)))]; exact e14013
    have e14032 : I14023 (ad g 50) 2 = v14018 := by rw [eI14023, pp_ne _ _ (Or.inl (lyx_ne hy (by decide) (by decide) (by decide)))]; exact ev14018
    have fr14033 : fz 74 g [43, 44, 47, 48, 50, 51, 52, 53, 55] I I14023 := by rw [eI14023]; exact fzx_pp hy fr14014 (by decide) (by decide)
    clear eI14023
    refine WP_aload_n dX9_serve_255 rfl ?_
    refine WP_aload_n dX9_serve_256 rfl ?_
    refine WP_iload_n dX9_serve_257 rfl ?_
    refine WP_iload_n dX9_serve_258 rfl ?_
    refine WP_iload dX9_serve_259 rfl ?_
    refine WP_iload dX9_serve_261 rfl ?_
    refine WQ_isub dX9_serve_263 (by omega) (by omega) (fun v14034 hv14034 => ?_)
    refine WP_iload dX9_serve_264 rfl ?_
    refine WP_iload dX9_serve_266 rfl ?_
    refine WQ_isub dX9_serve_268 (by omega) (by omega) (fun v14035 hv14035 => ?_)
    refine WP_iload dX9_serve_269 rfl ?_
    refine WQ_iadd dX9_serve_271 (by omega) (by omega) (fun v14036 hv14036 => ?_)
    refine WP_callV5 (k := 9) dX9_serve_272 ⟨⟨⟨by decide, by decide⟩, zX9_sleep⟩, lX9_124, by decide, rfl, vX9_sleep.1, vX9_sleep.2⟩ (lyx_is hy 49 9 rfl) (sx_wsleepf_53_6 hy hr hT hI14023 so da v14034 v14036 (by omega) (by omega) (by omega) (by omega) (by omega) (by omega) (by omega) (by omega) (by omega) (by rw [e14025]; omega)) (Nat.le_of_ble_eq_true rfl) ?_
    intro r I14037 J14038 Ra hq
    obtain ⟨⟨hI14037, ec, fiI14037, fjI14037, ⟨pI14037, sI14037_53_0⟩⟩, rfl⟩ := hq
    rw [ec]
    clear ec Ra
    have fr14039 : fz 74 g [43, 44, 47, 48, 50, 51, 52, 53, 55] I I14037 := fz_tr fr14033 (fz_mono fiI14037 (by decide))
    have fr14040 : fz 74 g [45, 46, 53] J J14038 := fz_tr fr13999 (fz_mono fjI14037 (by decide))
    have e14041 : I14037 (ad g 53) 0 = w13918 := by rw [sI14037_53_0]; exact e14024
    have e14042 : I14037 (ad g 50) 3 = w13941 := by rw [fz_at fiI14037 50 (by decide) (by decide)]; exact e14026
    have e14043 : I14037 (ad g 50) 4 = w13942 := by rw [fz_at fiI14037 50 (by decide) (by decide)]; exact e14027
    have e14044 : I14037 (ad g 50) 0 = v13943 := by rw [fz_at fiI14037 50 (by decide) (by decide)]; exact e14028
    have e14045 : I14037 (ad g 6) 4 = v13962 := by rw [fz_at fiI14037 6 (by decide) (by decide)]; exact e14029
    have e14046 : I14037 (ad g 50) 2 = v14018 := by rw [fz_at fiI14037 50 (by decide) (by decide)]; exact e14032
    have e14047 : I14037 (ad g 1) 1 = L := hI14037.2
    have b14048 := BT_get hI14037.1 1 1 2 (0) (0) (900) (by decide) 1 (by decide) (by decide)
    rw [e14047] at b14048
    obtain ⟨w14049, ew14049⟩ : ∃ w : Int32, I14037 (ad g 53) 1 = w := ⟨_, rfl⟩
    have bw14049 := BT_get hI14037.1 53 1 2 (0) (23760) (0) (by decide) 1 (by decide) (by decide)
    rw [ew14049] at bw14049
    rw [ew14049, e14025] at pI14037
    exact WP_vret dX9_serve_275 rfl ⟨⟨hI14037, ⟨hr, ⟨hT.trans hT.symm, rfl⟩, hP⟩, fr14039, fr14040, ⟨(by rw [ew14049, ew13919]; omega), (by rw [e14041, ew13918] <;> exact (eq32 _ _).mpr (by omega))⟩⟩, rfl⟩
  · refine WP_aload_n dX9_serve_78 rfl ?_
    refine WP_getr dX9_serve_79 fX9_29 rfl (lyx_is hy 49 9 rfl) (rfx hr 49 3 43 (by decide)) ?_
    refine WP_iload_n dX9_serve_82 rfl ?_
    refine WP_iload_n dX9_serve_83 rfl ?_
    refine WP_iload dX9_serve_84 rfl ?_
    refine WP_iload dX9_serve_86 rfl ?_
    refine WQ_bipush (7) (7) dX9_serve_88 rfl rfl (fun v14050 hv14050 => ?_)
    refine WP_callV5 (k := 2) dX9_serve_90 ⟨⟨⟨by decide, by decide⟩, zX2_search⟩, lX9_92, by decide, rfl, vX2_search.1, vX2_search.2⟩ (lyx_is hy 43 2 rfl) (sx_searchx_6 hy hr hP hT hI13931 so da v13929 v13925 v14050 (by omega) (by omega) (by omega) (by omega) (by omega) (by omega) (by omega) (by omega) (by omega) (by omega)) (Nat.le_of_ble_eq_true rfl) ?_
    intro r I14051 J14052 R14053 hq
    obtain ⟨⟨hI14051, ⟨hrI14051, ⟨htI14051, hsI14051⟩, hpI14051⟩, fiI14051, fjI14051⟩, v14054, rfl, av14054, bv14054, cv14054⟩ := hq
    show WP _ _ _ _ (.int _ :: _) _ _ _ _
    have ht_I14051 := htI14051.trans hT
    have hs_I14051 : R14053 (ad g 0) 10 = R (ad g 0) 10 := hsI14051.trans rfl
    have fr14055 : fz 74 g [43, 44, 47, 48, 50, 51, 52, 53, 55] I I14051 := fz_tr fr13933 (fz_mono fiI14051 (by decide))
    have fr14056 : fz 74 g [45, 46, 53] J J14052 := fz_tr frj0 (fz_mono fjI14051 (by decide))
    have e14057 : I14051 (ad g 53) 0 = w13918 := by rw [fz_at fiI14051 53 (by decide) (by decide)]; exact e13934
    have e14058 : I14051 (ad g 53) 1 = w13919 := by rw [fz_at fiI14051 53 (by decide) (by decide)]; exact e13935
    have e14059 : I14051 (ad g 1) 1 = L := hI14051.2
    have b14060 := BT_get hI14051.1 1 1 2 (0) (0) (900) (by decide) 1 (by decide) (by decide)
    rw [e14059] at b14060
    refine WP_goto 109 dX9_serve_93 rfl ?_
    obtain ⟨T9, t1, t2⟩ := cv14054
    have acv14054 : AOKd (I13931 (ad g 50)) v13929.toInt v13925.toInt v14054.toInt := AOK_eq (LD_un t1 (LD_fr pI13931 (fz_at fiI13931 6 (by decide) (by decide)).symm (fz_at fiI13931 11 (by decide) (by decide)).symm (fz_at fiI13931 13 (by decide) (by decide)).symm (fz_at fiI13931 14 (by decide) (by decide)).symm (fz_at fiI13931 15 (by decide) (by decide)).symm (fz_at fiI13931 22 (by decide) (by decide)).symm)) t2
    obtain ⟨w14061, ew14061⟩ : ∃ w : Int32, I14051 (ad g 50) 3 = w := ⟨_, rfl⟩
    have bw14061 := BT_get hI14051.1 50 3 4 (0) (0) (20) (by decide) 3 (by decide) (by decide)
    rw [ew14061] at bw14061
    obtain ⟨w14062, ew14062⟩ : ∃ w : Int32, I14051 (ad g 50) 4 = w := ⟨_, rfl⟩
    have bw14062 := BT_get hI14051.1 50 4 5 (0) (0) (20) (by decide) 4 (by decide) (by decide)
    rw [ew14062] at bw14062
    have adv14054 := acv14054
    unfold AOKd at adv14054
    rw [← fz_at fiI14051 50 (by decide) (by decide)] at adv14054
    rw [ew14061, ew14062] at adv14054
    obtain ⟨rav14054, rbv14054, rcv14054, rdv14054, rev14054⟩ := adv14054
    refine WP_istore (ls' := [(0, _), (1, _), (2, _), (3, _), (4, _), (5, _), (6, _), (7, _), (8, _), (9, _)]) dX9_serve_109 (by decide) rfl ?_
    refine WP_aload_n dX9_serve_111 rfl ?_
    refine WP_aload_n dX9_serve_112 rfl ?_
    refine WP_getr dX9_serve_113 fX9_12 rfl (lyx_is hy 49 9 rfl) (rfx hrI14051 49 0 50 (by decide)) ?_
    refine WQ_geti dX9_serve_116 fX9_101 rfl (lyx_is hy 50 6 rfl) (BT_get hI14051.1 50 0 1 (-1) (0) (2) (by decide) 0 (by decide) (by decide)) (fun v14063 ev14063 av14063 bv14063 => ?_)
    refine WP_iload dX9_serve_119 rfl ?_
    refine WQ_iconst (3) (3) dX9_serve_121 rfl rfl (fun v14064 hv14064 => ?_)
    refine WQ_iand3 dX9_serve_122 hv14064 (by omega) (by omega) (fun v14065 hv14065 => ?_)
    refine WP_iload dX9_serve_123 rfl ?_
    refine WP_iload_n dX9_serve_125 rfl ?_
    refine WP_callV4 (k := 9) dX9_serve_126 ⟨⟨⟨by decide, by decide⟩, zX9_buy⟩, lX9_104, by decide, rfl, vX9_buy.1, vX9_buy.2⟩ (lyx_is hy 49 9 rfl) (sx_buyf hy hrI14051 hI14051 v14063 v14065 v13922 da (by omega) (by omega) (by omega) (by omega) (by omega) (by omega) (by omega) (by omega)) (Nat.le_of_ble_eq_true rfl) ?_
    intro r I14066 J14067 Ra hq
    obtain ⟨⟨hI14066, ec, fiI14066, fjI14066⟩, v14068, rfl, av14068, bv14068, cv14068⟩ := hq
    show WP _ _ _ _ (.int _ :: _) _ _ _ _
    rw [ec]
    clear ec Ra
    have fr14069 : fz 74 g [43, 44, 47, 48, 50, 51, 52, 53, 55] I I14066 := fz_tr fr14055 (fz_mono fiI14066 (by decide))
    have fr14070 : fz 74 g [45, 46, 53] J J14067 := fz_tr fr14056 (fz_mono fjI14066 (by decide))
    have e14071 : I14066 (ad g 53) 0 = w13918 := by rw [fz_at fiI14066 53 (by decide) (by decide)]; exact e14057
    have e14072 : I14066 (ad g 53) 1 = w13919 := by rw [fz_at fiI14066 53 (by decide) (by decide)]; exact e14058
    have e14073 : I14066 (ad g 50) 3 = w14061 := by rw [fz_at fiI14066 50 (by decide) (by decide)]; exact ew14061
    have e14074 : I14066 (ad g 50) 4 = w14062 := by rw [fz_at fiI14066 50 (by decide) (by decide)]; exact ew14062
    have e14075 : I14066 (ad g 50) 0 = v14063 := by rw [fz_at fiI14066 50 (by decide) (by decide)]; exact ev14063
    have e14076 : I14066 (ad g 1) 1 = L := hI14066.2
    have b14077 := BT_get hI14066.1 1 1 2 (0) (0) (900) (by decide) 1 (by decide) (by decide)
    rw [e14076] at b14077
    refine WP_istore (ls' := [(0, _), (1, _), (2, _), (3, _), (4, _), (5, _), (6, _), (7, _), (8, _), (9, _), (10, _)]) dX9_serve_129 (by decide) rfl ?_
    refine WP_iload dX9_serve_131 rfl ?_
    refine WQ_iconst (2) (2) dX9_serve_133 rfl rfl (fun v14078 hv14078 => ?_)
    refine WQ_ishr2 dX9_serve_134 hv14078 (by omega) (by omega) (fun v14079 hv14079 => ?_)
    refine WQ_iconst (3) (3) dX9_serve_135 rfl rfl (fun v14080 hv14080 => ?_)
    refine WQ_iand3 dX9_serve_136 hv14080 (by omega) (by omega) (fun v14081 hv14081 => ?_)
    refine WP_istore (ls' := [(0, _), (1, _), (2, _), (3, _), (4, _), (5, _), (6, _), (7, _), (8, _), (9, _), (10, _), (11, _)]) dX9_serve_137 (by decide) rfl ?_
    refine WP_aload_n dX9_serve_139 rfl ?_
    refine WP_aload_n dX9_serve_140 rfl ?_
    refine WP_getr dX9_serve_141 fX9_25 rfl (lyx_is hy 49 9 rfl) (rfx hrI14051 49 2 5 (by decide)) ?_
    refine WP_getr dX9_serve_144 fX9_49 rfl (lyx_is hy 5 0 rfl) ht_I14051 ?_
    refine WQ_geti dX9_serve_147 fX9_108 rfl (lyx_is hy 6 7 rfl) (BT_get hI14066.1 6 4 5 (-1) (0) (2) (by decide) 4 (by decide) (by decide)) (fun v14082 ev14082 av14082 bv14082 => ?_)
    refine WP_iload dX9_serve_150 rfl ?_
    refine WQ_iconst (4) (4) dX9_serve_152 rfl rfl (fun v14083 hv14083 => ?_)
    refine WQ_ishr4 dX9_serve_153 hv14083 (by omega) (by omega) (fun v14084 hv14084 => ?_)
    refine WP_iload dX9_serve_154 rfl ?_
    refine WP_iload_n dX9_serve_156 rfl ?_
    refine WP_callV4 (k := 9) dX9_serve_157 ⟨⟨⟨by decide, by decide⟩, zX9_buy⟩, lX9_104, by decide, rfl, vX9_buy.1, vX9_buy.2⟩ (lyx_is hy 49 9 rfl) (sx_buyf hy hrI14051 hI14066 v14082 v14084 v13922 da (by omega) (by omega) (by omega) (by omega) (by omega) (by omega) (by omega) (by omega)) (Nat.le_of_ble_eq_true rfl) ?_
    intro r I14085 J14086 Ra hq
    obtain ⟨⟨hI14085, ec, fiI14085, fjI14085⟩, v14087, rfl, av14087, bv14087, cv14087⟩ := hq
    show WP _ _ _ _ (.int _ :: _) _ _ _ _
    rw [ec]
    clear ec Ra
    have fr14088 : fz 74 g [43, 44, 47, 48, 50, 51, 52, 53, 55] I I14085 := fz_tr fr14069 (fz_mono fiI14085 (by decide))
    have fr14089 : fz 74 g [45, 46, 53] J J14086 := fz_tr fr14070 (fz_mono fjI14085 (by decide))
    have e14090 : I14085 (ad g 53) 0 = w13918 := by rw [fz_at fiI14085 53 (by decide) (by decide)]; exact e14071
    have e14091 : I14085 (ad g 53) 1 = w13919 := by rw [fz_at fiI14085 53 (by decide) (by decide)]; exact e14072
    have e14092 : I14085 (ad g 50) 3 = w14061 := by rw [fz_at fiI14085 50 (by decide) (by decide)]; exact e14073
    have e14093 : I14085 (ad g 50) 4 = w14062 := by rw [fz_at fiI14085 50 (by decide) (by decide)]; exact e14074
    have e14094 : I14085 (ad g 50) 0 = v14063 := by rw [fz_at fiI14085 50 (by decide) (by decide)]; exact e14075
    have e14095 : I14085 (ad g 6) 4 = v14082 := by rw [fz_at fiI14085 6 (by decide) (by decide)]; exact ev14082
    have e14096 : I14085 (ad g 1) 1 = L := hI14085.2
    have b14097 := BT_get hI14085.1 1 1 2 (0) (0) (900) (by decide) 1 (by decide) (by decide)
    rw [e14096] at b14097
    refine WP_istore (ls' := [(0, _), (1, _), (2, _), (3, _), (4, _), (5, _), (6, _), (7, _), (8, _), (9, _), (10, _), (11, _), (12, _)]) dX9_serve_160 (by decide) rfl ?_
    refine WP_aload_n dX9_serve_162 rfl ?_
    refine WP_getr dX9_serve_163 fX9_12 rfl (lyx_is hy 49 9 rfl) (rfx hrI14051 49 0 50 (by decide)) ?_
    refine WP_iload dX9_serve_166 rfl ?_
    refine WP_iload dX9_serve_168 rfl ?_
    refine WP_callV2 (k := 6) dX9_serve_170 ⟨⟨⟨by decide, by decide⟩, zX6_priceOf⟩, lX9_111, by decide, rfl, vX6_priceOf.1, vX6_priceOf.2⟩ (lyx_is hy 50 6 rfl) (sx_pricex hy hrI14051 hI14085 v14068 v14087 (by omega) (by omega) (by omega) (by omega)) (Nat.le_of_ble_eq_true rfl) ?_
    intro r Ia Ja Ra hq
    obtain ⟨⟨ea, eb, ec⟩, v14098, rfl, av14098, bv14098, cv14098⟩ := hq
    show WP _ _ _ _ (.int _ :: _) _ _ _ _
    rw [ea, eb, ec]
    clear ea eb ec Ia Ja Ra
    rw [e14092] at cv14098
    rw [e14093] at cv14098
    have k1 : v14068.toInt * w14061.toInt ≤ (v14054.toInt % 4) * w14061.toInt := Int.mul_le_mul_of_nonneg_right (by omega) (by omega)
    have k2 : v14087.toInt * w14062.toInt ≤ (v14054.toInt / 16) * w14062.toInt := Int.mul_le_mul_of_nonneg_right (by omega) (by omega)
    have kp : v14098.toInt ≤ v13929.toInt := by omega
    refine WP_istore (ls' := [(0, _), (1, _), (2, _), (3, _), (4, _), (5, _), (6, _), (7, _), (8, _), (9, _), (10, _), (11, _), (12, _), (13, _)]) dX9_serve_173 (by decide) rfl ?_
    refine WP_aload_n dX9_serve_175 rfl ?_
    refine WP_dup dX9_serve_176 rfl ?_
    refine WQ_getiu dX9_serve_177 fX9_114 rfl (lyx_is hy 53 4 rfl) (fun v14099 ev14099 => ?_)
    refine WP_iload dX9_serve_180 rfl ?_
    refine WP_iload dX9_serve_182 rfl ?_
    refine WP_iload dX9_serve_184 rfl ?_
    refine WQ_iadd dX9_serve_186 (by omega) (by omega) (fun v14100 hv14100 => ?_)
    refine WQ_imulb (99) (6) dX9_serve_187 ⟨by omega, by omega⟩ ⟨by omega, by omega⟩ (by decide) (fun v14101 pv14101 av14101 bv14101 cv14101 => ?_)
    refine WQ_iaddu dX9_serve_188 (fun v14102 => ?_)
    refine WQ_puti dX9_serve_189 fX9_114 rfl rfl (lyx_is hy 53 4 rfl) (fun I14103 eI14103 => ?_)
    have hI14103 : XI g n L I14103 := by rw [eI14103]; exact (xi_f0 hy hI14085 (c := 53) (by decide) (Or.inl (by decide)) (by decide))
    have e14104 : I14103 (ad g 53) 0 = w13918 := by rw [eI14103, pp_ne _ _ (Or.inr (by decide))]; exact e14090
    have e14105 : I14103 (ad g 53) 1 = w13919 := by rw [eI14103, pp_ne _ _ (Or.inr (by decide))]; exact e14091
    have e14106 : I14103 (ad g 50) 3 = w14061 := by rw [eI14103, pp_ne _ _ (Or.inl (lyx_ne hy (by decide) (by decide) (by decide)))]; exact e14092
    have e14107 : I14103 (ad g 50) 4 = w14062 := by rw [eI14103, pp_ne _ _ (Or.inl (lyx_ne hy (by decide) (by decide) (by decide)))]; exact e14093
    have e14108 : I14103 (ad g 50) 0 = v14063 := by rw [eI14103, pp_ne _ _ (Or.inl (lyx_ne hy (by decide) (by decide) (by decide)))]; exact e14094
    have e14109 : I14103 (ad g 6) 4 = v14082 := by rw [eI14103, pp_ne _ _ (Or.inl (lyx_ne hy (by decide) (by decide) (by decide)))]; exact e14095
    have e14110 : I14103 (ad g 1) 1 = L := by rw [eI14103, pp_ne _ _ (Or.inl (lyx_ne hy (by decide) (by decide) (by decide)))]; exact e14096
    have e14111 : I14103 (ad g 53) 2 = v14102 := by rw [eI14103, pp_self]
    have fr14112 : fz 74 g [43, 44, 47, 48, 50, 51, 52, 53, 55] I I14103 := by rw [eI14103]; exact fzx_pp hy fr14088 (by decide) (by decide)
    clear eI14103
    refine WP_aload_n dX9_serve_192 rfl ?_
    refine WP_dup dX9_serve_193 rfl ?_
    refine WQ_getl dX9_serve_194 fX9_117 rfl (lyx_is hy 53 4 rfl) (fun l14113 el14113 => ?_)
    refine WP_iload dX9_serve_197 rfl ?_
    refine WP_iload dX9_serve_199 rfl ?_
    refine WP_iload dX9_serve_201 rfl ?_
    refine WQ_isub dX9_serve_203 (by omega) (by omega) (fun v14114 hv14114 => ?_)
    refine WQ_imulu dX9_serve_204 (fun v14115 => ?_)
    refine WQ_i2l dX9_serve_205 (fun l14116 hl14116 => ?_)
    refine WQ_ladd dX9_serve_206 (fun l14117 => ?_)
    refine WQ_putl dX9_serve_207 fX9_117 rfl rfl (lyx_is hy 53 4 rfl) (fun J14118 eJ14118 => ?_)
    have fr14119 : fz 74 g [45, 46, 53] J J14118 := by rw [eJ14118]; exact fzx_pp hy fr14089 (by decide) (by decide)
    clear eJ14118
    refine WP_aload_n dX9_serve_210 rfl ?_
    refine WP_getr dX9_serve_211 fX9_75 rfl (lyx_is hy 53 4 rfl) (rfx hrI14051 53 5 55 (by decide)) ?_
    refine WP_iload dX9_serve_214 rfl ?_
    refine WQ_iconst (2) (2) dX9_serve_216 rfl rfl (fun v14120 hv14120 => ?_)
    refine WQ_iadd dX9_serve_217 (by omega) (by omega) (fun v14121 hv14121 => ?_)
    refine WP_dup2 dX9_serve_218 rfl rfl ?_
    refine WQ_ialdu dX9_serve_219 (lyx_is hy 55 13 rfl) (lyx_n hy 55 28 rfl) (by omega) (by omega) (fun v14122 => ?_)
    refine WP_iload dX9_serve_220 rfl ?_
    refine WP_iload dX9_serve_222 rfl ?_
    refine WQ_imulb (99) (60) dX9_serve_224 ⟨by omega, by omega⟩ ⟨by omega, by omega⟩ (by decide) (fun v14123 pv14123 av14123 bv14123 cv14123 => ?_)
    refine WQ_iaddu dX9_serve_225 (fun v14124 => ?_)
    refine WQ_iast dX9_serve_226 (lyx_is hy 55 13 rfl) (lyx_n hy 55 28 rfl) (by omega) (by omega) (fun I14125 eI14125 => ?_)
    have hI14125 : XI g n L I14125 := by rw [eI14125]; exact (fa_put hy hI14103 (c := 55) (k := 2) (s := so.toInt.toNat) (by decide) (by omega) (by decide) (by rw [cl (n := 7 * so.toInt.toNat + 2) (by omega)]) (fun h => absurd h (by decide)) (fun h => absurd h (by decide)))
    have e14126 : I14125 (ad g 53) 0 = w13918 := by rw [eI14125, pp_ne _ _ (Or.inl (lyx_ne hy (by decide) (by decide) (by decide)))]; exact e14104
    have e14127 : I14125 (ad g 53) 1 = w13919 := by rw [eI14125, pp_ne _ _ (Or.inl (lyx_ne hy (by decide) (by decide) (by decide)))]; exact e14105
    have e14128 : I14125 (ad g 50) 3 = w14061 := by rw [eI14125, pp_ne _ _ (Or.inl (lyx_ne hy (by decide) (by decide) (by decide)))]; exact e14106
    have e14129 : I14125 (ad g 50) 4 = w14062 := by rw [eI14125, pp_ne _ _ (Or.inl (lyx_ne hy (by decide) (by decide) (by decide)))]; exact e14107
    have e14130 : I14125 (ad g 50) 0 = v14063 := by rw [eI14125, pp_ne _ _ (Or.inl (lyx_ne hy (by decide) (by decide) (by decide)))]; exact e14108
    have e14131 : I14125 (ad g 6) 4 = v14082 := by rw [eI14125, pp_ne _ _ (Or.inl (lyx_ne hy (by decide) (by decide) (by decide)))]; exact e14109
    have e14132 : I14125 (ad g 1) 1 = L := by rw [eI14125, pp_ne _ _ (Or.inl (lyx_ne hy (by decide) (by decide) (by decide)))]; exact e14110
    have e14133 : I14125 (ad g 53) 2 = v14102 := by rw [eI14125, pp_ne _ _ (Or.inl (lyx_ne hy (by decide) (by decide) (by decide)))]; exact e14111
    have fr14134 : fz 74 g [43, 44, 47, 48, 50, 51, 52, 53, 55] I I14125 := by rw [eI14125]; exact fzx_pp hy fr14112 (by decide) (by decide)
    clear eI14125
    refine WP_aload_n dX9_serve_227 rfl ?_
    refine WP_getr dX9_serve_228 fX9_75 rfl (lyx_is hy 53 4 rfl) (rfx hrI14051 53 5 55 (by decide)) ?_
    refine WP_iload dX9_serve_231 rfl ?_
    refine WQ_iconst (4) (4) dX9_serve_233 rfl rfl (fun v14135 hv14135 => ?_)
    refine WQ_iadd dX9_serve_234 (by omega) (by omega) (fun v14136 hv14136 => ?_)
    refine WP_dup2 dX9_serve_235 rfl rfl ?_
    refine WQ_ialdu dX9_serve_236 (lyx_is hy 55 13 rfl) (lyx_n hy 55 28 rfl) (by omega) (by omega) (fun v14137 => ?_)
    refine WP_iload dX9_serve_237 rfl ?_
    refine WP_aload_n dX9_serve_239 rfl ?_
    refine WP_getr dX9_serve_240 fX9_12 rfl (lyx_is hy 49 9 rfl) (rfx hrI14051 49 0 50 (by decide)) ?_
    refine WQ_geti dX9_serve_243 fX9_121 rfl (lyx_is hy 50 6 rfl) (BT_get hI14125.1 50 2 3 (0) (0) (99) (by decide) 2 (by decide) (by decide)) (fun v14138 ev14138 av14138 bv14138 => ?_)
    refine WQ_imulb (99) (99) dX9_serve_246 ⟨by omega, by omega⟩ ⟨by omega, by omega⟩ (by decide) (fun v14139 pv14139 av14139 bv14139 cv14139 => ?_)
    refine WP_iload dX9_serve_247 rfl ?_
    refine WP_iload dX9_serve_249 rfl ?_
    refine WQ_iadd dX9_serve_251 (by omega) (by omega) (fun v14140 hv14140 => ?_)
    refine WQ_imulb (9801) (6) dX9_serve_252 ⟨by omega, by omega⟩ ⟨by omega, by omega⟩ (by decide) (fun v14141 pv14141 av14141 bv14141 cv14141 => ?_)
    refine WQ_iaddu dX9_serve_253 (fun v14142 => ?_)
    refine WQ_iast dX9_serve_254 (lyx_is hy 55 13 rfl) (lyx_n hy 55 28 rfl) (by omega) (by omega) (fun I14143 eI14143 => ?_)
    have hI14143 : XI g n L I14143 := by rw [eI14143]; exact (fa_put hy hI14125 (c := 55) (k := 4) (s := so.toInt.toNat) (by decide) (by omega) (by decide) (by rw [cl (n := 7 * so.toInt.toNat + 4) (by omega)]) (fun h => absurd h (by decide)) (fun h => absurd h (by decide)))
    have e14144 : I14143 (ad g 53) 0 = w13918 := by rw [eI14143, pp_ne _ _ (Or.inl (lyx_ne hy (by decide) (by decide) (by decide)))]; exact e14126
    have e14145 : I14143 (ad g 53) 1 = w13919 := by rw [eI14143, pp_ne _ _ (Or.inl (lyx_ne hy (by decide) (by decide) (by decide)))]; exact e14127
    have e14146 : I14143 (ad g 50) 3 = w14061 := by rw [eI14143, pp_ne _ _ (Or.inl (lyx_ne hy (by decide) (by decide) (by decide)))]; exact e14128
    have e14147 : I14143 (ad g 50) 4 = w14062 := by rw [eI14143, pp_ne _ _ (Or.inl (lyx_ne hy (by decide) (by decide) (by decide)))]; exact e14129
    have e14148 : I14143 (ad g 50) 0 = v14063 := by rw [eI14143, pp_ne _ _ (Or.inl (lyx_ne hy (by decide) (by decide) (by decide)))]; exact e14130
    have e14149 : I14143 (ad g 6) 4 = v14082 := by rw [eI14143, pp_ne _ _ (Or.inl (lyx_ne hy (by decide) (by decide) (by decide)))]; exact e14131
    have e14150 : I14143 (ad g 1) 1 = L := by rw [eI14143, pp_ne _ _ (Or.inl (lyx_ne hy (by decide) (by decide) (by decide)))]; exact e14132
    have e14151 : I14143 (ad g 53) 2 = v14102 := by rw [eI14143, pp_ne _ _ (Or.inl (lyx_ne hy (by decide) (by decide) (by decide)))]; exact e14133
    have e14152 : I14143 (ad g 50) 2 = v14138 := by rw [eI14143, pp_ne _ _ (Or.inl (lyx_ne hy (by decide) (by decide) (by decide)))]; exact ev14138
    have fr14153 : fz 74 g [43, 44, 47, 48, 50, 51, 52, 53, 55] I I14143 := by rw [eI14143]; exact fzx_pp hy fr14134 (by decide) (by decide)
    clear eI14143
    refine WP_aload_n dX9_serve_255 rfl ?_
    refine WP_aload_n dX9_serve_256 rfl ?_
    refine WP_iload_n dX9_serve_257 rfl ?_
    refine WP_iload_n dX9_serve_258 rfl ?_
    refine WP_iload dX9_serve_259 rfl ?_
    refine WP_iload dX9_serve_261 rfl ?_
    refine WQ_isub dX9_serve_263 (by omega) (by omega) (fun v14154 hv14154 => ?_)
    refine WP_iload dX9_serve_264 rfl ?_
    refine WP_iload dX9_serve_266 rfl ?_
    refine WQ_isub dX9_serve_268 (by omega) (by omega) (fun v14155 hv14155 => ?_)
    refine WP_iload dX9_serve_269 rfl ?_
    refine WQ_iadd dX9_serve_271 (by omega) (by omega) (fun v14156 hv14156 => ?_)
    refine WP_callV5 (k := 9) dX9_serve_272 ⟨⟨⟨by decide, by decide⟩, zX9_sleep⟩, lX9_124, by decide, rfl, vX9_sleep.1, vX9_sleep.2⟩ (lyx_is hy 49 9 rfl) (sx_wsleepf_53_6 hy hrI14051 ht_I14051 hI14143 so da v14154 v14156 (by omega) (by omega) (by omega) (by omega) (by omega) (by omega) (by omega) (by omega) (by omega) (by rw [e14145]; omega)) (Nat.le_of_ble_eq_true rfl) ?_
    intro r I14157 J14158 Ra hq
    obtain ⟨⟨hI14157, ec, fiI14157, fjI14157, ⟨pI14157, sI14157_53_0⟩⟩, rfl⟩ := hq
    rw [ec]
    clear ec Ra
    have fr14159 : fz 74 g [43, 44, 47, 48, 50, 51, 52, 53, 55] I I14157 := fz_tr fr14153 (fz_mono fiI14157 (by decide))
    have fr14160 : fz 74 g [45, 46, 53] J J14158 := fz_tr fr14119 (fz_mono fjI14157 (by decide))
    have e14161 : I14157 (ad g 53) 0 = w13918 := by rw [sI14157_53_0]; exact e14144
    have e14162 : I14157 (ad g 50) 3 = w14061 := by rw [fz_at fiI14157 50 (by decide) (by decide)]; exact e14146
    have e14163 : I14157 (ad g 50) 4 = w14062 := by rw [fz_at fiI14157 50 (by decide) (by decide)]; exact e14147
    have e14164 : I14157 (ad g 50) 0 = v14063 := by rw [fz_at fiI14157 50 (by decide) (by decide)]; exact e14148
    have e14165 : I14157 (ad g 6) 4 = v14082 := by rw [fz_at fiI14157 6 (by decide) (by decide)]; exact e14149
    have e14166 : I14157 (ad g 50) 2 = v14138 := by rw [fz_at fiI14157 50 (by decide) (by decide)]; exact e14152
    have e14167 : I14157 (ad g 1) 1 = L := hI14157.2
    have b14168 := BT_get hI14157.1 1 1 2 (0) (0) (900) (by decide) 1 (by decide) (by decide)
    rw [e14167] at b14168
    obtain ⟨w14169, ew14169⟩ : ∃ w : Int32, I14157 (ad g 53) 1 = w := ⟨_, rfl⟩
    have bw14169 := BT_get hI14157.1 53 1 2 (0) (23760) (0) (by decide) 1 (by decide) (by decide)
    rw [ew14169] at bw14169
    rw [ew14169, e14145] at pI14157
    exact WP_vret dX9_serve_275 rfl ⟨⟨hI14157, ⟨hrI14051, ⟨ht_I14051.trans hT.symm, hs_I14051⟩, hpI14051⟩, fr14159, fr14160, ⟨(by rw [ew14169, ew13919]; omega), (by rw [e14161, ew13918] <;> exact (eq32 _ _).mpr (by omega))⟩⟩, rfl⟩
set_option maxHeartbeats 4000000 in
set_option maxRecDepth 100000 in
theorem sx_serve_53_27 {g : GG} {n : Int} {L : Int32} (hy : LyX g)  {I : pI} {J : pJ} {R : pR} (hr : RfX g R) (hP : NL g R) (hT : R (ad g 5) 0 = some (ad g 27)) (hI : XI g n L I) (so : Int32) (da : Int32) (so_lo : 0 ≤ so.toInt) (so_hi : so.toInt ≤ 3) (da_lo : 0 ≤ da.toInt) (da_hi : da.toInt ≤ 6) (hn : 0 ≤ n ∧ n ≤ 40000) (hb : (I (ad g 53) 1).toInt ≤ 23760 * n + 0 - 5940) : SP g mX9_serve [.ref (ad g 49), .ref (ad g 53), .int so, .int da] I J R (fun r I' J' R' => (XI g n L I' ∧ (RfX g R' ∧ (R' (ad g 5) 0 = R (ad g 5) 0 ∧ R' (ad g 0) 10 = R (ad g 0) 10) ∧ NL g R') ∧ fz 74 g [43, 44, 47, 48, 50, 51, 52, 53, 55] I I' ∧ fz 74 g [45, 46, 53] J J' ∧ (I' (ad g 53) 1).toInt ≤ (I (ad g 53) 1).toInt + 5940 ∧ I' (ad g 53) 0 = I (ad g 53) 0) ∧ r = none) := by
  refine SP_of ⟨by decide, rfl⟩ (Nat.le_of_ble_eq_true rfl) ?_
  have e14170 : I (ad g 1) 1 = L := hI.2
  have b14171 := BT_get hI.1 1 1 2 (0) (0) (900) (by decide) 1 (by decide) (by decide)
  rw [e14170] at b14171
  have fr0 : fz 74 g [43, 44, 47, 48, 50, 51, 52, 53, 55] I I := fz_rf
  have frj0 : fz 74 g [45, 46, 53] J J := fz_rf
  obtain ⟨w14172, ew14172⟩ : ∃ w : Int32, I (ad g 53) 0 = w := ⟨_, rfl⟩
  obtain ⟨w14173, ew14173⟩ : ∃ w : Int32, I (ad g 53) 1 = w := ⟨_, rfl⟩
  have bw14173 := BT_get hI.1 53 1 2 (0) (23760) (0) (by decide) 1 (by decide) (by decide)
  rw [ew14173] at bw14173
  rw [ew14173] at hb
  refine WP_iload_n dX9_serve_0 rfl ?_
  refine WQ_bipush (7) (7) dX9_serve_1 rfl rfl (fun v14174 hv14174 => ?_)
  refine WQ_imulk (7) dX9_serve_3 hv14174 (by omega) (by omega) (fun v14175 hv14175 => ?_)
  refine WP_istore (ls' := [(0, _), (1, _), (2, _), (3, _), (4, _)]) dX9_serve_4 (by decide) rfl ?_
  refine WP_aload_n dX9_serve_6 rfl ?_
  refine WP_getr dX9_serve_7 fX9_25 rfl (lyx_is hy 49 9 rfl) (rfx hr 49 2 5 (by decide)) ?_
  refine WP_getr dX9_serve_10 fX9_49 rfl (lyx_is hy 5 0 rfl) hT ?_
  refine WP_getr dX9_serve_13 fX9_71 rfl (lyx_is hy 27 7 rfl) (rfx hr 27 6 29 (by decide)) ?_
  refine WP_iload_n dX9_serve_16 rfl ?_
  refine WQ_iald dX9_serve_17 (lyx_is hy 29 13 rfl) (lyx_n hy 29 4 rfl) (by omega) (by omega) (fun q hq => BT_get hI.1 29 0 4 (0) (0) (99) (by decide) q (Nat.zero_le _) hq) (fun v14176 av14176 bv14176 ev14176 => ?_)
  clear ev14176
  refine WP_istore (ls' := [(0, _), (1, _), (2, _), (3, _), (4, _), (5, _)]) dX9_serve_18 (by decide) rfl ?_
  refine WP_aload_n dX9_serve_20 rfl ?_
  refine WP_getr dX9_serve_21 fX9_75 rfl (lyx_is hy 53 4 rfl) (rfx hr 53 5 55 (by decide)) ?_
  refine WP_iload dX9_serve_24 rfl ?_
  refine WQ_iconst (1) (1) dX9_serve_26 rfl rfl (fun v14177 hv14177 => ?_)
  refine WQ_iadd dX9_serve_27 (by omega) (by omega) (fun v14178 hv14178 => ?_)
  refine WQ_ialdf (q := 7 * so.toInt.toNat + 1) dX9_serve_28 (lyx_is hy 55 13 rfl) (lyx_n hy 55 28 rfl) (by omega) (by omega) (by omega) (fa_get1 hI (c := 55) (by decide) (by omega)) (fun v14179 av14179 bv14179 => ?_)
  refine WP_istore (ls' := [(0, _), (1, _), (2, _), (3, _), (4, _), (5, _), (6, _)]) dX9_serve_29 (by decide) rfl ?_
  refine WP_aload_n dX9_serve_31 rfl ?_
  refine WP_getr dX9_serve_32 fX9_25 rfl (lyx_is hy 49 9 rfl) (rfx hr 49 2 5 (by decide)) ?_
  refine WP_iload_n dX9_serve_35 rfl ?_
  refine WP_iload_n dX9_serve_36 rfl ?_
  refine WP_aload_n dX9_serve_37 rfl ?_
  refine WP_getr dX9_serve_38 fX9_75 rfl (lyx_is hy 53 4 rfl) (rfx hr 53 5 55 (by decide)) ?_
  refine WP_iload dX9_serve_41 rfl ?_
  refine WQ_iconst (0) (0) dX9_serve_43 rfl rfl (fun v14180 hv14180 => ?_)
  refine WQ_iadd dX9_serve_44 (by omega) (by omega) (fun v14181 hv14181 => ?_)
  refine WQ_ialdf (q := 7 * so.toInt.toNat) dX9_serve_45 (lyx_is hy 55 13 rfl) (lyx_n hy 55 28 rfl) (by omega) (by omega) (by omega) (fa_get0 hI (c := 55) (by decide) (by omega)) (fun v14182 av14182 bv14182 => ?_)
  refine WP_callV3 (k := 0) dX9_serve_46 ⟨⟨⟨by decide, by decide⟩, zX0_earned⟩, lX9_81, by decide, rfl, vX0_earned.1, vX0_earned.2⟩ (lyx_is hy 5 0 rfl) (sx_earned_27 hy hr hT hI so da v14182 (by omega) (by omega) (by omega) (by omega) (by omega) (by omega)) (Nat.le_of_ble_eq_true rfl) ?_
  intro r Ia Ja Ra hq
  obtain ⟨⟨ea, eb, ec⟩, v14183, rfl, av14183, bv14183, cv14183⟩ := hq
  show WP _ _ _ _ (.int _ :: _) _ _ _ _
  rw [ea, eb, ec]
  clear ea eb ec Ia Ja Ra
  refine WP_istore (ls' := [(0, _), (1, _), (2, _), (3, _), (4, _), (5, _), (6, _), (7, _)]) dX9_serve_49 (by decide) rfl ?_
  refine WP_aload_n dX9_serve_51 rfl ?_
  refine WP_getr dX9_serve_52 fX9_85 rfl (lyx_is hy 53 4 rfl) (rfx hr 53 4 54 (by decide)) ?_
  refine WP_iload_n dX9_serve_55 rfl ?_
  refine WQ_ialdu dX9_serve_56 (lyx_is hy 54 13 rfl) (lyx_n hy 54 4 rfl) (by omega) (by omega) (fun v14184 => ?_)
  refine WP_istore (ls' := [(0, _), (1, _), (2, _), (3, _), (4, _), (5, _), (6, _), (7, _), (8, _)]) dX9_serve_57 (by decide) rfl ?_
  refine WP_aload_n dX9_serve_59 rfl ?_
  refine WP_getr dX9_serve_60 fX9_12 rfl (lyx_is hy 49 9 rfl) (rfx hr 49 0 50 (by decide)) ?_
  refine WP_aload_n dX9_serve_63 rfl ?_
  refine WP_getr dX9_serve_64 fX9_25 rfl (lyx_is hy 49 9 rfl) (rfx hr 49 2 5 (by decide)) ?_
  refine WP_iload_n dX9_serve_67 rfl ?_
  refine WP_iload_n dX9_serve_68 rfl ?_
  refine WP_callV3 (k := 6) dX9_serve_69 ⟨⟨⟨by decide, by decide⟩, zX6_load⟩, lX9_88, by decide, rfl, vX6_load.1, vX6_load.2⟩ (lyx_is hy 50 6 rfl) (sx_loadx_50_27 hy hr hT hI so da (by omega) (by omega) (by omega) (by omega)) (Nat.le_of_ble_eq_true rfl) ?_
  intro r I14185 J14186 Ra hq
  obtain ⟨⟨hI14185, ec, fiI14185, ejI14185, pI14185⟩, rfl⟩ := hq
  rw [ec]
  clear ec Ra
  have fr14187 : fz 74 g [43, 44, 47, 48, 50, 51, 52, 53, 55] I I14185 := fz_tr fr0 (fz_mono fiI14185 (by decide))
  rw [ejI14185]
  clear ejI14185 J14186
  have e14188 : I14185 (ad g 53) 0 = w14172 := by rw [fz_at fiI14185 53 (by decide) (by decide)]; exact ew14172
  have e14189 : I14185 (ad g 53) 1 = w14173 := by rw [fz_at fiI14185 53 (by decide) (by decide)]; exact ew14173
  have e14190 : I14185 (ad g 1) 1 = L := hI14185.2
  have b14191 := BT_get hI14185.1 1 1 2 (0) (0) (900) (by decide) 1 (by decide) (by decide)
  rw [e14190] at b14191
  refine WP_iload dX9_serve_72 rfl ?_
  refine WQ_iconst (3) (3) dX9_serve_74 rfl rfl (fun v14192 hv14192 => ?_)
  refine WQ_icmp_ne 96 dX9_serve_75 rfl (fun c14192 => ?_) (fun c14192 => ?_)
  · refine WP_aload_n dX9_serve_96 rfl ?_
    refine WP_getr dX9_serve_97 fX9_12 rfl (lyx_is hy 49 9 rfl) (rfx hr 49 0 50 (by decide)) ?_
    refine WP_iload dX9_serve_100 rfl ?_
    refine WP_iload dX9_serve_102 rfl ?_
    refine WP_iload dX9_serve_104 rfl ?_
    refine WP_callV3 (k := 6) dX9_serve_106 ⟨⟨⟨by decide, by decide⟩, zX6_habit⟩, lX9_98, by decide, rfl, vX6_habit.1, vX6_habit.2⟩ (lyx_is hy 50 6 rfl) (sx_habita hy hr hI14185 v14184 v14183 v14179  (by omega) (by omega) (by omega) (by omega)) (Nat.le_of_ble_eq_true rfl) ?_
    intro r Ia Ja Ra hq
    obtain ⟨⟨ea, eb, ec⟩, v14194, rfl, av14194, bv14194, cv14194⟩ := hq
    show WP _ _ _ _ (.int _ :: _) _ _ _ _
    rw [ea, eb, ec]
    clear ea eb ec Ia Ja Ra
    have acv14194 : AOKd (I14185 (ad g 50)) v14183.toInt v14179.toInt v14194.toInt := by unfold AOKd; exact ⟨by omega, by omega, cv14194.1, cv14194.2.1, cv14194.2.2⟩
    obtain ⟨w14195, ew14195⟩ : ∃ w : Int32, I14185 (ad g 50) 3 = w := ⟨_, rfl⟩
    have bw14195 := BT_get hI14185.1 50 3 4 (0) (0) (20) (by decide) 3 (by decide) (by decide)
    rw [ew14195] at bw14195
    obtain ⟨w14196, ew14196⟩ : ∃ w : Int32, I14185 (ad g 50) 4 = w := ⟨_, rfl⟩
    have bw14196 := BT_get hI14185.1 50 4 5 (0) (0) (20) (by decide) 4 (by decide) (by decide)
    rw [ew14196] at bw14196
    have adv14194 := acv14194
    unfold AOKd at adv14194
    rw [ew14195, ew14196] at adv14194
    obtain ⟨rav14194, rbv14194, rcv14194, rdv14194, rev14194⟩ := adv14194
    refine WP_istore (ls' := [(0, _), (1, _), (2, _), (3, _), (4, _), (5, _), (6, _), (7, _), (8, _), (9, _)]) dX9_serve_109 (by decide) rfl ?_
    refine WP_aload_n dX9_serve_111 rfl ?_
    refine WP_aload_n dX9_serve_112 rfl ?_
    refine WP_getr dX9_serve_113 fX9_12 rfl (lyx_is hy 49 9 rfl) (rfx hr 49 0 50 (by decide)) ?_
    refine WQ_geti dX9_serve_116 fX9_101 rfl (lyx_is hy 50 6 rfl) (BT_get hI14185.1 50 0 1 (-1) (0) (2) (by decide) 0 (by decide) (by decide)) (fun v14197 ev14197 av14197 bv14197 => ?_)
    refine WP_iload dX9_serve_119 rfl ?_
    refine WQ_iconst (3) (3) dX9_serve_121 rfl rfl (fun v14198 hv14198 => ?_)
    refine WQ_iand3 dX9_serve_122 hv14198 (by omega) (by omega) (fun v14199 hv14199 => ?_)
    refine WP_iload dX9_serve_123 rfl ?_
    refine WP_iload_n dX9_serve_125 rfl ?_
    refine WP_callV4 (k := 9) dX9_serve_126 ⟨⟨⟨by decide, by decide⟩, zX9_buy⟩, lX9_104, by decide, rfl, vX9_buy.1, vX9_buy.2⟩ (lyx_is hy 49 9 rfl) (sx_buyf hy hr hI14185 v14197 v14199 v14176 da (by omega) (by omega) (by omega) (by omega) (by omega) (by omega) (by omega) (by omega)) (Nat.le_of_ble_eq_true rfl) ?_
    intro r I14200 J14201 Ra hq
    obtain ⟨⟨hI14200, ec, fiI14200, fjI14200⟩, v14202, rfl, av14202, bv14202, cv14202⟩ := hq
    show WP _ _ _ _ (.int _ :: _) _ _ _ _
    rw [ec]
    clear ec Ra
    have fr14203 : fz 74 g [43, 44, 47, 48, 50, 51, 52, 53, 55] I I14200 := fz_tr fr14187 (fz_mono fiI14200 (by decide))
    have fr14204 : fz 74 g [45, 46, 53] J J14201 := fz_tr frj0 (fz_mono fjI14200 (by decide))
    have e14205 : I14200 (ad g 53) 0 = w14172 := by rw [fz_at fiI14200 53 (by decide) (by decide)]; exact e14188
    have e14206 : I14200 (ad g 53) 1 = w14173 := by rw [fz_at fiI14200 53 (by decide) (by decide)]; exact e14189
    have e14207 : I14200 (ad g 50) 3 = w14195 := by rw [fz_at fiI14200 50 (by decide) (by decide)]; exact ew14195
    have e14208 : I14200 (ad g 50) 4 = w14196 := by rw [fz_at fiI14200 50 (by decide) (by decide)]; exact ew14196
    have e14209 : I14200 (ad g 50) 0 = v14197 := by rw [fz_at fiI14200 50 (by decide) (by decide)]; exact ev14197
    have e14210 : I14200 (ad g 1) 1 = L := hI14200.2
    have b14211 := BT_get hI14200.1 1 1 2 (0) (0) (900) (by decide) 1 (by decide) (by decide)
    rw [e14210] at b14211
    refine WP_istore (ls' := [(0, _), (1, _), (2, _), (3, _), (4, _), (5, _), (6, _), (7, _), (8, _), (9, _), (10, _)]) dX9_serve_129 (by decide) rfl ?_
    refine WP_iload dX9_serve_131 rfl ?_
    refine WQ_iconst (2) (2) dX9_serve_133 rfl rfl (fun v14212 hv14212 => ?_)
    refine WQ_ishr2 dX9_serve_134 hv14212 (by omega) (by omega) (fun v14213 hv14213 => ?_)
    refine WQ_iconst (3) (3) dX9_serve_135 rfl rfl (fun v14214 hv14214 => ?_)
    refine WQ_iand3 dX9_serve_136 hv14214 (by omega) (by omega) (fun v14215 hv14215 => ?_)
    refine WP_istore (ls' := [(0, _), (1, _), (2, _), (3, _), (4, _), (5, _), (6, _), (7, _), (8, _), (9, _), (10, _), (11, _)]) dX9_serve_137 (by decide) rfl ?_
    refine WP_aload_n dX9_serve_139 rfl ?_
    refine WP_aload_n dX9_serve_140 rfl ?_
    refine WP_getr dX9_serve_141 fX9_25 rfl (lyx_is hy 49 9 rfl) (rfx hr 49 2 5 (by decide)) ?_
    refine WP_getr dX9_serve_144 fX9_49 rfl (lyx_is hy 5 0 rfl) hT ?_
    refine WQ_geti dX9_serve_147 fX9_108 rfl (lyx_is hy 27 7 rfl) (BT_get hI14200.1 27 4 5 (-1) (0) (2) (by decide) 4 (by decide) (by decide)) (fun v14216 ev14216 av14216 bv14216 => ?_)
    refine WP_iload dX9_serve_150 rfl ?_
    refine WQ_iconst (4) (4) dX9_serve_152 rfl rfl (fun v14217 hv14217 => ?_)
    refine WQ_ishr4 dX9_serve_153 hv14217 (by omega) (by omega) (fun v14218 hv14218 => ?_)
    refine WP_iload dX9_serve_154 rfl ?_
    refine WP_iload_n dX9_serve_156 rfl ?_
    refine WP_callV4 (k := 9) dX9_serve_157 ⟨⟨⟨by decide, by decide⟩, zX9_buy⟩, lX9_104, by decide, rfl, vX9_buy.1, vX9_buy.2⟩ (lyx_is hy 49 9 rfl) (sx_buyf hy hr hI14200 v14216 v14218 v14176 da (by omega) (by omega) (by omega) (by omega) (by omega) (by omega) (by omega) (by omega)) (Nat.le_of_ble_eq_true rfl) ?_
    intro r I14219 J14220 Ra hq
    obtain ⟨⟨hI14219, ec, fiI14219, fjI14219⟩, v14221, rfl, av14221, bv14221, cv14221⟩ := hq
    show WP _ _ _ _ (.int _ :: _) _ _ _ _
    rw [ec]
    clear ec Ra
    have fr14222 : fz 74 g [43, 44, 47, 48, 50, 51, 52, 53, 55] I I14219 := fz_tr fr14203 (fz_mono fiI14219 (by decide))
    have fr14223 : fz 74 g [45, 46, 53] J J14220 := fz_tr fr14204 (fz_mono fjI14219 (by decide))
    have e14224 : I14219 (ad g 53) 0 = w14172 := by rw [fz_at fiI14219 53 (by decide) (by decide)]; exact e14205
    have e14225 : I14219 (ad g 53) 1 = w14173 := by rw [fz_at fiI14219 53 (by decide) (by decide)]; exact e14206
    have e14226 : I14219 (ad g 50) 3 = w14195 := by rw [fz_at fiI14219 50 (by decide) (by decide)]; exact e14207
    have e14227 : I14219 (ad g 50) 4 = w14196 := by rw [fz_at fiI14219 50 (by decide) (by decide)]; exact e14208
    have e14228 : I14219 (ad g 50) 0 = v14197 := by rw [fz_at fiI14219 50 (by decide) (by decide)]; exact e14209
    have e14229 : I14219 (ad g 27) 4 = v14216 := by rw [fz_at fiI14219 27 (by decide) (by decide)]; exact ev14216
    have e14230 : I14219 (ad g 1) 1 = L := hI14219.2
    have b14231 := BT_get hI14219.1 1 1 2 (0) (0) (900) (by decide) 1 (by decide) (by decide)
    rw [e14230] at b14231
    refine WP_istore (ls' := [(0, _), (1, _), (2, _), (3, _), (4, _), (5, _), (6, _), (7, _), (8, _), (9, _), (10, _), (11, _), (12, _)]) dX9_serve_160 (by decide) rfl ?_
    refine WP_aload_n dX9_serve_162 rfl ?_
    refine WP_getr dX9_serve_163 fX9_12 rfl (lyx_is hy 49 9 rfl) (rfx hr 49 0 50 (by decide)) ?_
    refine WP_iload dX9_serve_166 rfl ?_
    refine WP_iload dX9_serve_168 rfl ?_
    refine WP_callV2 (k := 6) dX9_serve_170 ⟨⟨⟨by decide, by decide⟩, zX6_priceOf⟩, lX9_111, by decide, rfl, vX6_priceOf.1, vX6_priceOf.2⟩ (lyx_is hy 50 6 rfl) (sx_pricex hy hr hI14219 v14202 v14221 (by omega) (by omega) (by omega) (by omega)) (Nat.le_of_ble_eq_true rfl) ?_
    intro r Ia Ja Ra hq
    obtain ⟨⟨ea, eb, ec⟩, v14232, rfl, av14232, bv14232, cv14232⟩ := hq
    show WP _ _ _ _ (.int _ :: _) _ _ _ _
    rw [ea, eb, ec]
    clear ea eb ec Ia Ja Ra
    rw [e14226] at cv14232
    rw [e14227] at cv14232
    have k1 : v14202.toInt * w14195.toInt ≤ (v14194.toInt % 4) * w14195.toInt := Int.mul_le_mul_of_nonneg_right (by omega) (by omega)
    have k2 : v14221.toInt * w14196.toInt ≤ (v14194.toInt / 16) * w14196.toInt := Int.mul_le_mul_of_nonneg_right (by omega) (by omega)
    have kp : v14232.toInt ≤ v14183.toInt := by omega
    refine WP_istore (ls' := [(0, _), (1, _), (2, _), (3, _), (4, _), (5, _), (6, _), (7, _), (8, _), (9, _), (10, _), (11, _), (12, _), (13, _)]) dX9_serve_173 (by decide) rfl ?_
    refine WP_aload_n dX9_serve_175 rfl ?_
    refine WP_dup dX9_serve_176 rfl ?_
    refine WQ_getiu dX9_serve_177 fX9_114 rfl (lyx_is hy 53 4 rfl) (fun v14233 ev14233 => ?_)
    refine WP_iload dX9_serve_180 rfl ?_
    refine WP_iload dX9_serve_182 rfl ?_
    refine WP_iload dX9_serve_184 rfl ?_
    refine WQ_iadd dX9_serve_186 (by omega) (by omega) (fun v14234 hv14234 => ?_)
    refine WQ_imulb (99) (6) dX9_serve_187 ⟨by omega, by omega⟩ ⟨by omega, by omega⟩ (by decide) (fun v14235 pv14235 av14235 bv14235 cv14235 => ?_)
    refine WQ_iaddu dX9_serve_188 (fun v14236 => ?_)
    refine WQ_puti dX9_serve_189 fX9_114 rfl rfl (lyx_is hy 53 4 rfl) (fun I14237 eI14237 => ?_)
    have hI14237 : XI g n L I14237 := by rw [eI14237]; exact (xi_f0 hy hI14219 (c := 53) (by decide) (Or.inl (by decide)) (by decide))
    have e14238 : I14237 (ad g 53) 0 = w14172 := by rw [eI14237, pp_ne _ _ (Or.inr (by decide))]; exact e14224
    have e14239 : I14237 (ad g 53) 1 = w14173 := by rw [eI14237, pp_ne _ _ (Or.inr (by decide))]; exact e14225
    have e14240 : I14237 (ad g 50) 3 = w14195 := by rw [eI14237, pp_ne _ _ (Or.inl (lyx_ne hy (by decide) (by decide) (by decide)))]; exact e14226
    have e14241 : I14237 (ad g 50) 4 = w14196 := by rw [eI14237, pp_ne _ _ (Or.inl (lyx_ne hy (by decide) (by decide) (by decide)))]; exact e14227
    have e14242 : I14237 (ad g 50) 0 = v14197 := by rw [eI14237, pp_ne _ _ (Or.inl (lyx_ne hy (by decide) (by decide) (by decide)))]; exact e14228
    have e14243 : I14237 (ad g 27) 4 = v14216 := by rw [eI14237, pp_ne _ _ (Or.inl (lyx_ne hy (by decide) (by decide) (by decide)))]; exact e14229
    have e14244 : I14237 (ad g 1) 1 = L := by rw [eI14237, pp_ne _ _ (Or.inl (lyx_ne hy (by decide) (by decide) (by decide)))]; exact e14230
    have e14245 : I14237 (ad g 53) 2 = v14236 := by rw [eI14237, pp_self]
    have fr14246 : fz 74 g [43, 44, 47, 48, 50, 51, 52, 53, 55] I I14237 := by rw [eI14237]; exact fzx_pp hy fr14222 (by decide) (by decide)
    clear eI14237
    refine WP_aload_n dX9_serve_192 rfl ?_
    refine WP_dup dX9_serve_193 rfl ?_
    refine WQ_getl dX9_serve_194 fX9_117 rfl (lyx_is hy 53 4 rfl) (fun l14247 el14247 => ?_)
    refine WP_iload dX9_serve_197 rfl ?_
    refine WP_iload dX9_serve_199 rfl ?_
    refine WP_iload dX9_serve_201 rfl ?_
    refine WQ_isub dX9_serve_203 (by omega) (by omega) (fun v14248 hv14248 => ?_)
    refine WQ_imulu dX9_serve_204 (fun v14249 => ?_)
    refine WQ_i2l dX9_serve_205 (fun l14250 hl14250 => ?_)
    refine WQ_ladd dX9_serve_206 (fun l14251 => ?_)
    refine WQ_putl dX9_serve_207 fX9_117 rfl rfl (lyx_is hy 53 4 rfl) (fun J14252 eJ14252 => ?_)
    have fr14253 : fz 74 g [45, 46, 53] J J14252 := by rw [eJ14252]; exact fzx_pp hy fr14223 (by decide) (by decide)
    clear eJ14252
    refine WP_aload_n dX9_serve_210 rfl ?_
    refine WP_getr dX9_serve_211 fX9_75 rfl (lyx_is hy 53 4 rfl) (rfx hr 53 5 55 (by decide)) ?_
    refine WP_iload dX9_serve_214 rfl ?_
    refine WQ_iconst (2) (2) dX9_serve_216 rfl rfl (fun v14254 hv14254 => ?_)
    refine WQ_iadd dX9_serve_217 (by omega) (by omega) (fun v14255 hv14255 => ?_)
    refine WP_dup2 dX9_serve_218 rfl rfl ?_
    refine WQ_ialdu dX9_serve_219 (lyx_is hy 55 13 rfl) (lyx_n hy 55 28 rfl) (by omega) (by omega) (fun v14256 => ?_)
    refine WP_iload dX9_serve_220 rfl ?_
    refine WP_iload dX9_serve_222 rfl ?_
    refine WQ_imulb (99) (60) dX9_serve_224 ⟨by omega, by omega⟩ ⟨by omega, by omega⟩ (by decide) (fun v14257 pv14257 av14257 bv14257 cv14257 => ?_)
    refine WQ_iaddu dX9_serve_225 (fun v14258 => ?_)
    refine WQ_iast dX9_serve_226 (lyx_is hy 55 13 rfl) (lyx_n hy 55 28 rfl) (by omega) (by omega) (fun I14259 eI14259 => ?_)
    have hI14259 : XI g n L I14259 := by rw [eI14259]; exact (fa_put hy hI14237 (c := 55) (k := 2) (s := so.toInt.toNat) (by decide) (by omega) (by decide) (by rw [cl (n := 7 * so.toInt.toNat + 2) (by omega)]) (fun h => absurd h (by decide)) (fun h => absurd h (by decide)))
    have e14260 : I14259 (ad g 53) 0 = w14172 := by rw [eI14259, pp_ne _ _ (Or.inl (lyx_ne hy (by decide) (by decide) (by decide)))]; exact e14238
    have e14261 : I14259 (ad g 53) 1 = w14173 := by rw [eI14259, pp_ne _ _ (Or.inl (lyx_ne hy (by decide) (by decide) (by decide)))]; exact e14239
    have e14262 : I14259 (ad g 50) 3 = w14195 := by rw [eI14259, pp_ne _ _ (Or.inl (lyx_ne hy (by decide) (by decide) (by decide)))]; exact e14240
    have e14263 : I14259 (ad g 50) 4 = w14196 := by rw [eI14259, pp_ne _ _ (Or.inl (lyx_ne hy (by decide) (by decide) (by decide)))]; exact e14241
    have e14264 : I14259 (ad g 50) 0 = v14197 := by rw [eI14259, pp_ne _ _ (Or.inl (lyx_ne hy (by decide) (by decide) (by decide)))]; exact e14242
    have e14265 : I14259 (ad g 27) 4 = v14216 := by rw [eI14259, pp_ne _ _ (Or.inl (lyx_ne hy (by decide) (by decide) (by decide)))]; exact e14243
    have e14266 : I14259 (ad g 1) 1 = L := by rw [eI14259, pp_ne _ _ (Or.inl (lyx_ne hy (by decide) (by decide) (by decide)))]; exact e14244
    have e14267 : I14259 (ad g 53) 2 = v14236 := by rw [eI14259, pp_ne _ _ (Or.inl (lyx_ne hy (by decide) (by decide) (by decide)))]; exact e14245
    have fr14268 : fz 74 g [43, 44, 47, 48, 50, 51, 52, 53, 55] I I14259 := by rw [eI14259]; exact fzx_pp hy fr14246 (by decide) (by decide)
    clear eI14259
    refine WP_aload_n dX9_serve_227 rfl ?_
    refine WP_getr dX9_serve_228 fX9_75 rfl (lyx_is hy 53 4 rfl) (rfx hr 53 5 55 (by decide)) ?_
    refine WP_iload dX9_serve_231 rfl ?_
    refine WQ_iconst (4) (4) dX9_serve_233 rfl rfl (fun v14269 hv14269 => ?_)
    refine WQ_iadd dX9_serve_234 (by omega) (by omega) (fun v14270 hv14270 => ?_)
    refine WP_dup2 dX9_serve_235 rfl rfl ?_
    refine WQ_ialdu dX9_serve_236 (lyx_is hy 55 13 rfl) (lyx_n hy 55 28 rfl) (by omega) (by omega) (fun v14271 => ?_)
    refine WP_iload dX9_serve_237 rfl ?_
    refine WP_aload_n dX9_serve_239 rfl ?_
    refine WP_getr dX9_serve_240 fX9_12 rfl (lyx_is hy 49 9 rfl) (rfx hr 49 0 50 (by decide)) ?_
    refine WQ_geti dX9_serve_243 fX9_121 rfl (lyx_is hy 50 6 rfl) (BT_get hI14259.1 50 2 3 (0) (0) (99) (by decide) 2 (by decide) (by decide)) (fun v14272 ev14272 av14272 bv14272 => ?_)
    refine WQ_imulb (99) (99) dX9_serve_246 ⟨by omega, by omega⟩ ⟨by omega, by omega⟩ (by decide) (fun v14273 pv14273 av14273 bv14273 cv14273 => ?_)
    refine WP_iload dX9_serve_247 rfl ?_
    refine WP_iload dX9_serve_249 rfl ?_
    refine WQ_iadd dX9_serve_251 (by omega) (by omega) (fun v14274 hv14274 => ?_)
    refine WQ_imulb (9801) (6) dX9_serve_252 ⟨by omega, by omega⟩ ⟨by omega, by omega⟩ (by decide) (fun v14275 pv14275 av14275 bv14275 cv14275 => ?_)
    refine WQ_iaddu dX9_serve_253 (fun v14276 => ?_)
    refine WQ_iast dX9_serve_254 (lyx_is hy 55 13 rfl) (lyx_n hy 55 28 rfl) (by omega) (by omega) (fun I14277 eI14277 => ?_)
    have hI14277 : XI g n L I14277 := by rw [eI14277]; exact (fa_put hy hI14259 (c := 55) (k := 4) (s := so.toInt.toNat) (by decide) (by omega) (by decide) (by rw [cl (n := 7 * so.toInt.toNat + 4) (by omega)]) (fun h => absurd h (by decide)) (fun h => absurd h (by decide)))
    have e14278 : I14277 (ad g 53) 0 = w14172 := by rw [eI14277, pp_ne _ _ (Or.inl (lyx_ne hy (by decide) (by decide) (by decide)))]; exact e14260
    have e14279 : I14277 (ad g 53) 1 = w14173 := by rw [eI14277, pp_ne _ _ (Or.inl (lyx_ne hy (by decide) (by decide) (by decide)))]; exact e14261
    have e14280 : I14277 (ad g 50) 3 = w14195 := by rw [eI14277, pp_ne _ _ (Or.inl (lyx_ne hy (by decide) (by decide) (by decide)))]; exact e14262
    have e14281 : I14277 (ad g 50) 4 = w14196 := by rw [eI14277, pp_ne _ _ (Or.inl (lyx_ne hy (by decide) (by decide) (by decide)))]; exact e14263
    have e14282 : I14277 (ad g 50) 0 = v14197 := by rw [eI14277, pp_ne _ _ (Or.inl (lyx_ne hy (by decide) (by decide) (by decide)))]; exact e14264
    have e14283 : I14277 (ad g 27) 4 = v14216 := by rw [eI14277, pp_ne _ _ (Or.inl (lyx_ne hy (by decide) (by decide) (by decide)))]; exact e14265
    have e14284 : I14277 (ad g 1) 1 = L := by rw [eI14277, pp_ne _ _ (Or.inl (lyx_ne hy (by decide) (by decide) (by decide)))]; exact e14266
    have e14285 : I14277 (ad g 53) 2 = v14236 := by rw [eI14277, pp_ne _ _ (Or.inl (lyx_ne hy (by decide) (by decide) (by decide)))]; exact e14267
    have e14286 : I14277 (ad g 50) 2 = v14272 := by rw [eI14277, pp_ne _ _ (Or.inl (lyx_ne hy (by decide) (by decide) (by decide)))]; exact ev14272
    have fr14287 : fz 74 g [43, 44, 47, 48, 50, 51, 52, 53, 55] I I14277 := by rw [eI14277]; exact fzx_pp hy fr14268 (by decide) (by decide)
    clear eI14277
    refine WP_aload_n dX9_serve_255 rfl ?_
    refine WP_aload_n dX9_serve_256 rfl ?_
    refine WP_iload_n dX9_serve_257 rfl ?_
    refine WP_iload_n dX9_serve_258 rfl ?_
    refine WP_iload dX9_serve_259 rfl ?_
    refine WP_iload dX9_serve_261 rfl ?_
    refine WQ_isub dX9_serve_263 (by omega) (by omega) (fun v14288 hv14288 => ?_)
    refine WP_iload dX9_serve_264 rfl ?_
    refine WP_iload dX9_serve_266 rfl ?_
    refine WQ_isub dX9_serve_268 (by omega) (by omega) (fun v14289 hv14289 => ?_)
    refine WP_iload dX9_serve_269 rfl ?_
    refine WQ_iadd dX9_serve_271 (by omega) (by omega) (fun v14290 hv14290 => ?_)
    refine WP_callV5 (k := 9) dX9_serve_272 ⟨⟨⟨by decide, by decide⟩, zX9_sleep⟩, lX9_124, by decide, rfl, vX9_sleep.1, vX9_sleep.2⟩ (lyx_is hy 49 9 rfl) (sx_wsleepf_53_27 hy hr hT hI14277 so da v14288 v14290 (by omega) (by omega) (by omega) (by omega) (by omega) (by omega) (by omega) (by omega) (by omega) (by rw [e14279]; omega)) (Nat.le_of_ble_eq_true rfl) ?_
    intro r I14291 J14292 Ra hq
    obtain ⟨⟨hI14291, ec, fiI14291, fjI14291, ⟨pI14291, sI14291_53_0⟩⟩, rfl⟩ := hq
    rw [ec]
    clear ec Ra
    have fr14293 : fz 74 g [43, 44, 47, 48, 50, 51, 52, 53, 55] I I14291 := fz_tr fr14287 (fz_mono fiI14291 (by decide))
    have fr14294 : fz 74 g [45, 46, 53] J J14292 := fz_tr fr14253 (fz_mono fjI14291 (by decide))
    have e14295 : I14291 (ad g 53) 0 = w14172 := by rw [sI14291_53_0]; exact e14278
    have e14296 : I14291 (ad g 50) 3 = w14195 := by rw [fz_at fiI14291 50 (by decide) (by decide)]; exact e14280
    have e14297 : I14291 (ad g 50) 4 = w14196 := by rw [fz_at fiI14291 50 (by decide) (by decide)]; exact e14281
    have e14298 : I14291 (ad g 50) 0 = v14197 := by rw [fz_at fiI14291 50 (by decide) (by decide)]; exact e14282
    have e14299 : I14291 (ad g 27) 4 = v14216 := by rw [fz_at fiI14291 27 (by decide) (by decide)]; exact e14283
    have e14300 : I14291 (ad g 50) 2 = v14272 := by rw [fz_at fiI14291 50 (by decide) (by decide)]; exact e14286
    have e14301 : I14291 (ad g 1) 1 = L := hI14291.2
    have b14302 := BT_get hI14291.1 1 1 2 (0) (0) (900) (by decide) 1 (by decide) (by decide)
    rw [e14301] at b14302
    obtain ⟨w14303, ew14303⟩ : ∃ w : Int32, I14291 (ad g 53) 1 = w := ⟨_, rfl⟩
    have bw14303 := BT_get hI14291.1 53 1 2 (0) (23760) (0) (by decide) 1 (by decide) (by decide)
    rw [ew14303] at bw14303
    rw [ew14303, e14279] at pI14291
    exact WP_vret dX9_serve_275 rfl ⟨⟨hI14291, ⟨hr, ⟨hT.trans hT.symm, rfl⟩, hP⟩, fr14293, fr14294, ⟨(by rw [ew14303, ew14173]; omega), (by rw [e14295, ew14172] <;> exact (eq32 _ _).mpr (by omega))⟩⟩, rfl⟩
  · refine WP_aload_n dX9_serve_78 rfl ?_
    refine WP_getr dX9_serve_79 fX9_29 rfl (lyx_is hy 49 9 rfl) (rfx hr 49 3 43 (by decide)) ?_
    refine WP_iload_n dX9_serve_82 rfl ?_
    refine WP_iload_n dX9_serve_83 rfl ?_
    refine WP_iload dX9_serve_84 rfl ?_
    refine WP_iload dX9_serve_86 rfl ?_
    refine WQ_bipush (7) (7) dX9_serve_88 rfl rfl (fun v14304 hv14304 => ?_)
    refine WP_callV5 (k := 2) dX9_serve_90 ⟨⟨⟨by decide, by decide⟩, zX2_search⟩, lX9_92, by decide, rfl, vX2_search.1, vX2_search.2⟩ (lyx_is hy 43 2 rfl) (sx_searchx_27 hy hr hP hT hI14185 so da v14183 v14179 v14304 (by omega) (by omega) (by omega) (by omega) (by omega) (by omega) (by omega) (by omega) (by omega) (by omega)) (Nat.le_of_ble_eq_true rfl) ?_
    intro r I14305 J14306 R14307 hq
    obtain ⟨⟨hI14305, ⟨hrI14305, ⟨htI14305, hsI14305⟩, hpI14305⟩, fiI14305, fjI14305⟩, v14308, rfl, av14308, bv14308, cv14308⟩ := hq
    show WP _ _ _ _ (.int _ :: _) _ _ _ _
    have ht_I14305 := htI14305.trans hT
    have hs_I14305 : R14307 (ad g 0) 10 = R (ad g 0) 10 := hsI14305.trans rfl
    have fr14309 : fz 74 g [43, 44, 47, 48, 50, 51, 52, 53, 55] I I14305 := fz_tr fr14187 (fz_mono fiI14305 (by decide))
    have fr14310 : fz 74 g [45, 46, 53] J J14306 := fz_tr frj0 (fz_mono fjI14305 (by decide))
    have e14311 : I14305 (ad g 53) 0 = w14172 := by rw [fz_at fiI14305 53 (by decide) (by decide)]; exact e14188
    have e14312 : I14305 (ad g 53) 1 = w14173 := by rw [fz_at fiI14305 53 (by decide) (by decide)]; exact e14189
    have e14313 : I14305 (ad g 1) 1 = L := hI14305.2
    have b14314 := BT_get hI14305.1 1 1 2 (0) (0) (900) (by decide) 1 (by decide) (by decide)
    rw [e14313] at b14314
    refine WP_goto 109 dX9_serve_93 rfl ?_
    obtain ⟨T9, t1, t2⟩ := cv14308
    have acv14308 : AOKd (I14185 (ad g 50)) v14183.toInt v14179.toInt v14308.toInt := AOK_eq (LD_un t1 (LD_fr pI14185 (fz_at fiI14185 27 (by decide) (by decide)).symm (fz_at fiI14185 32 (by decide) (by decide)).symm (fz_at fiI14185 34 (by decide) (by decide)).symm (fz_at fiI14185 35 (by decide) (by decide)).symm (fz_at fiI14185 36 (by decide) (by decide)).symm (fz_at fiI14185 22 (by decide) (by decide)).symm)) t2
    obtain ⟨w14315, ew14315⟩ : ∃ w : Int32, I14305 (ad g 50) 3 = w := ⟨_, rfl⟩
    have bw14315 := BT_get hI14305.1 50 3 4 (0) (0) (20) (by decide) 3 (by decide) (by decide)
    rw [ew14315] at bw14315
    obtain ⟨w14316, ew14316⟩ : ∃ w : Int32, I14305 (ad g 50) 4 = w := ⟨_, rfl⟩
    have bw14316 := BT_get hI14305.1 50 4 5 (0) (0) (20) (by decide) 4 (by decide) (by decide)
    rw [ew14316] at bw14316
    have adv14308 := acv14308
    unfold AOKd at adv14308
    rw [← fz_at fiI14305 50 (by decide) (by decide)] at adv14308
    rw [ew14315, ew14316] at adv14308
    obtain ⟨rav14308, rbv14308, rcv14308, rdv14308, rev14308⟩ := adv14308
    refine WP_istore (ls' := [(0, _), (1, _), (2, _), (3, _), (4, _), (5, _), (6, _), (7, _), (8, _), (9, _)]) dX9_serve_109 (by decide) rfl ?_
    refine WP_aload_n dX9_serve_111 rfl ?_
    refine WP_aload_n dX9_serve_112 rfl ?_
    refine WP_getr dX9_serve_113 fX9_12 rfl (lyx_is hy 49 9 rfl) (rfx hrI14305 49 0 50 (by decide)) ?_
    refine WQ_geti dX9_serve_116 fX9_101 rfl (lyx_is hy 50 6 rfl) (BT_get hI14305.1 50 0 1 (-1) (0) (2) (by decide) 0 (by decide) (by decide)) (fun v14317 ev14317 av14317 bv14317 => ?_)
    refine WP_iload dX9_serve_119 rfl ?_
    refine WQ_iconst (3) (3) dX9_serve_121 rfl rfl (fun v14318 hv14318 => ?_)
    refine WQ_iand3 dX9_serve_122 hv14318 (by omega) (by omega) (fun v14319 hv14319 => ?_)
    refine WP_iload dX9_serve_123 rfl ?_
    refine WP_iload_n dX9_serve_125 rfl ?_
    refine WP_callV4 (k := 9) dX9_serve_126 ⟨⟨⟨by decide, by decide⟩, zX9_buy⟩, lX9_104, by decide, rfl, vX9_buy.1, vX9_buy.2⟩ (lyx_is hy 49 9 rfl) (sx_buyf hy hrI14305 hI14305 v14317 v14319 v14176 da (by omega) (by omega) (by omega) (by omega) (by omega) (by omega) (by omega) (by omega)) (Nat.le_of_ble_eq_true rfl) ?_
    intro r I14320 J14321 Ra hq
    obtain ⟨⟨hI14320, ec, fiI14320, fjI14320⟩, v14322, rfl, av14322, bv14322, cv14322⟩ := hq
    show WP _ _ _ _ (.int _ :: _) _ _ _ _
    rw [ec]
    clear ec Ra
    have fr14323 : fz 74 g [43, 44, 47, 48, 50, 51, 52, 53, 55] I I14320 := fz_tr fr14309 (fz_mono fiI14320 (by decide))
    have fr14324 : fz 74 g [45, 46, 53] J J14321 := fz_tr fr14310 (fz_mono fjI14320 (by decide))
    have e14325 : I14320 (ad g 53) 0 = w14172 := by rw [fz_at fiI14320 53 (by decide) (by decide)]; exact e14311
    have e14326 : I14320 (ad g 53) 1 = w14173 := by rw [fz_at fiI14320 53 (by decide) (by decide)]; exact e14312
    have e14327 : I14320 (ad g 50) 3 = w14315 := by rw [fz_at fiI14320 50 (by decide) (by decide)]; exact ew14315
    have e14328 : I14320 (ad g 50) 4 = w14316 := by rw [fz_at fiI14320 50 (by decide) (by decide)]; exact ew14316
    have e14329 : I14320 (ad g 50) 0 = v14317 := by rw [fz_at fiI14320 50 (by decide) (by decide)]; exact ev14317
    have e14330 : I14320 (ad g 1) 1 = L := hI14320.2
    have b14331 := BT_get hI14320.1 1 1 2 (0) (0) (900) (by decide) 1 (by decide) (by decide)
    rw [e14330] at b14331
    refine WP_istore (ls' := [(0, _), (1, _), (2, _), (3, _), (4, _), (5, _), (6, _), (7, _), (8, _), (9, _), (10, _)]) dX9_serve_129 (by decide) rfl ?_
    refine WP_iload dX9_serve_131 rfl ?_
    refine WQ_iconst (2) (2) dX9_serve_133 rfl rfl (fun v14332 hv14332 => ?_)
    refine WQ_ishr2 dX9_serve_134 hv14332 (by omega) (by omega) (fun v14333 hv14333 => ?_)
    refine WQ_iconst (3) (3) dX9_serve_135 rfl rfl (fun v14334 hv14334 => ?_)
    refine WQ_iand3 dX9_serve_136 hv14334 (by omega) (by omega) (fun v14335 hv14335 => ?_)
    refine WP_istore (ls' := [(0, _), (1, _), (2, _), (3, _), (4, _), (5, _), (6, _), (7, _), (8, _), (9, _), (10, _), (11, _)]) dX9_serve_137 (by decide) rfl ?_
    refine WP_aload_n dX9_serve_139 rfl ?_
    refine WP_aload_n dX9_serve_140 rfl ?_
    refine WP_getr dX9_serve_141 fX9_25 rfl (lyx_is hy 49 9 rfl) (rfx hrI14305 49 2 5 (by decide)) ?_
    refine WP_getr dX9_serve_144 fX9_49 rfl (lyx_is hy 5 0 rfl) ht_I14305 ?_
    refine WQ_geti dX9_serve_147 fX9_108 rfl (lyx_is hy 27 7 rfl) (BT_get hI14320.1 27 4 5 (-1) (0) (2) (by decide) 4 (by decide) (by decide)) (fun v14336 ev14336 av14336 bv14336 => ?_)
    refine WP_iload dX9_serve_150 rfl ?_
    refine WQ_iconst (4) (4) dX9_serve_152 rfl rfl (fun v14337 hv14337 => ?_)
    refine WQ_ishr4 dX9_serve_153 hv14337 (by omega) (by omega) (fun v14338 hv14338 => ?_)
    refine WP_iload dX9_serve_154 rfl ?_
    refine WP_iload_n dX9_serve_156 rfl ?_
    refine WP_callV4 (k := 9) dX9_serve_157 ⟨⟨⟨by decide, by decide⟩, zX9_buy⟩, lX9_104, by decide, rfl, vX9_buy.1, vX9_buy.2⟩ (lyx_is hy 49 9 rfl) (sx_buyf hy hrI14305 hI14320 v14336 v14338 v14176 da (by omega) (by omega) (by omega) (by omega) (by omega) (by omega) (by omega) (by omega)) (Nat.le_of_ble_eq_true rfl) ?_
    intro r I14339 J14340 Ra hq
    obtain ⟨⟨hI14339, ec, fiI14339, fjI14339⟩, v14341, rfl, av14341, bv14341, cv14341⟩ := hq
    show WP _ _ _ _ (.int _ :: _) _ _ _ _
    rw [ec]
    clear ec Ra
    have fr14342 : fz 74 g [43, 44, 47, 48, 50, 51, 52, 53, 55] I I14339 := fz_tr fr14323 (fz_mono fiI14339 (by decide))
    have fr14343 : fz 74 g [45, 46, 53] J J14340 := fz_tr fr14324 (fz_mono fjI14339 (by decide))
    have e14344 : I14339 (ad g 53) 0 = w14172 := by rw [fz_at fiI14339 53 (by decide) (by decide)]; exact e14325
    have e14345 : I14339 (ad g 53) 1 = w14173 := by rw [fz_at fiI14339 53 (by decide) (by decide)]; exact e14326
    have e14346 : I14339 (ad g 50) 3 = w14315 := by rw [fz_at fiI14339 50 (by decide) (by decide)]; exact e14327
    have e14347 : I14339 (ad g 50) 4 = w14316 := by rw [fz_at fiI14339 50 (by decide) (by decide)]; exact e14328
    have e14348 : I14339 (ad g 50) 0 = v14317 := by rw [fz_at fiI14339 50 (by decide) (by decide)]; exact e14329
    have e14349 : I14339 (ad g 27) 4 = v14336 := by rw [fz_at fiI14339 27 (by decide) (by decide)]; exact ev14336
    have e14350 : I14339 (ad g 1) 1 = L := hI14339.2
    have b14351 := BT_get hI14339.1 1 1 2 (0) (0) (900) (by decide) 1 (by decide) (by decide)
    rw [e14350] at b14351
    refine WP_istore (ls' := [(0, _), (1, _), (2, _), (3, _), (4, _), (5, _), (6, _), (7, _), (8, _), (9, _), (10, _), (11, _), (12, _)]) dX9_serve_160 (by decide) rfl ?_
    refine WP_aload_n dX9_serve_162 rfl ?_
    refine WP_getr dX9_serve_163 fX9_12 rfl (lyx_is hy 49 9 rfl) (rfx hrI14305 49 0 50 (by decide)) ?_
    refine WP_iload dX9_serve_166 rfl ?_
    refine WP_iload dX9_serve_168 rfl ?_
    refine WP_callV2 (k := 6) dX9_serve_170 ⟨⟨⟨by decide, by decide⟩, zX6_priceOf⟩, lX9_111, by decide, rfl, vX6_priceOf.1, vX6_priceOf.2⟩ (lyx_is hy 50 6 rfl) (sx_pricex hy hrI14305 hI14339 v14322 v14341 (by omega) (by omega) (by omega) (by omega)) (Nat.le_of_ble_eq_true rfl) ?_
    intro r Ia Ja Ra hq
    obtain ⟨⟨ea, eb, ec⟩, v14352, rfl, av14352, bv14352, cv14352⟩ := hq
    show WP _ _ _ _ (.int _ :: _) _ _ _ _
    rw [ea, eb, ec]
    clear ea eb ec Ia Ja Ra
    rw [e14346] at cv14352
    rw [e14347] at cv14352
    have k1 : v14322.toInt * w14315.toInt ≤ (v14308.toInt % 4) * w14315.toInt := Int.mul_le_mul_of_nonneg_right (by omega) (by omega)
    have k2 : v14341.toInt * w14316.toInt ≤ (v14308.toInt / 16) * w14316.toInt := Int.mul_le_mul_of_nonneg_right (by omega) (by omega)
    have kp : v14352.toInt ≤ v14183.toInt := by omega
    refine WP_istore (ls' := [(0, _), (1, _), (2, _), (3, _), (4, _), (5, _), (6, _), (7, _), (8, _), (9, _), (10, _), (11, _), (12, _), (13, _)]) dX9_serve_173 (by decide) rfl ?_
    refine WP_aload_n dX9_serve_175 rfl ?_
    refine WP_dup dX9_serve_176 rfl ?_
    refine WQ_getiu dX9_serve_177 fX9_114 rfl (lyx_is hy 53 4 rfl) (fun v14353 ev14353 => ?_)
    refine WP_iload dX9_serve_180 rfl ?_
    refine WP_iload dX9_serve_182 rfl ?_
    refine WP_iload dX9_serve_184 rfl ?_
    refine WQ_iadd dX9_serve_186 (by omega) (by omega) (fun v14354 hv14354 => ?_)
    refine WQ_imulb (99) (6) dX9_serve_187 ⟨by omega, by omega⟩ ⟨by omega, by omega⟩ (by decide) (fun v14355 pv14355 av14355 bv14355 cv14355 => ?_)
    refine WQ_iaddu dX9_serve_188 (fun v14356 => ?_)
    refine WQ_puti dX9_serve_189 fX9_114 rfl rfl (lyx_is hy 53 4 rfl) (fun I14357 eI14357 => ?_)
    have hI14357 : XI g n L I14357 := by rw [eI14357]; exact (xi_f0 hy hI14339 (c := 53) (by decide) (Or.inl (by decide)) (by decide))
    have e14358 : I14357 (ad g 53) 0 = w14172 := by rw [eI14357, pp_ne _ _ (Or.inr (by decide))]; exact e14344
    have e14359 : I14357 (ad g 53) 1 = w14173 := by rw [eI14357, pp_ne _ _ (Or.inr (by decide))]; exact e14345
    have e14360 : I14357 (ad g 50) 3 = w14315 := by rw [eI14357, pp_ne _ _ (Or.inl (lyx_ne hy (by decide) (by decide) (by decide)))]; exact e14346
    have e14361 : I14357 (ad g 50) 4 = w14316 := by rw [eI14357, pp_ne _ _ (Or.inl (lyx_ne hy (by decide) (by decide) (by decide)))]; exact e14347
    have e14362 : I14357 (ad g 50) 0 = v14317 := by rw [eI14357, pp_ne _ _ (Or.inl (lyx_ne hy (by decide) (by decide) (by decide)))]; exact e14348
    have e14363 : I14357 (ad g 27) 4 = v14336 := by rw [eI14357, pp_ne _ _ (Or.inl (lyx_ne hy (by decide) (by decide) (by decide)))]; exact e14349
    have e14364 : I14357 (ad g 1) 1 = L := by rw [eI14357, pp_ne _ _ (Or.inl (lyx_ne hy (by decide) (by decide) (by decide)))]; exact e14350
    have e14365 : I14357 (ad g 53) 2 = v14356 := by rw [eI14357, pp_self]
    have fr14366 : fz 74 g [43, 44, 47, 48, 50, 51, 52, 53, 55] I I14357 := by rw [eI14357]; exact fzx_pp hy fr14342 (by decide) (by decide)
    clear eI14357
    refine WP_aload_n dX9_serve_192 rfl ?_
    refine WP_dup dX9_serve_193 rfl ?_
    refine WQ_getl dX9_serve_194 fX9_117 rfl (lyx_is hy 53 4 rfl) (fun l14367 el14367 => ?_)
    refine WP_iload dX9_serve_197 rfl ?_
    refine WP_iload dX9_serve_199 rfl ?_
    refine WP_iload dX9_serve_201 rfl ?_
    refine WQ_isub dX9_serve_203 (by omega) (by omega) (fun v14368 hv14368 => ?_)
    refine WQ_imulu dX9_serve_204 (fun v14369 => ?_)
    refine WQ_i2l dX9_serve_205 (fun l14370 hl14370 => ?_)
    refine WQ_ladd dX9_serve_206 (fun l14371 => ?_)
    refine WQ_putl dX9_serve_207 fX9_117 rfl rfl (lyx_is hy 53 4 rfl) (fun J14372 eJ14372 => ?_)
    have fr14373 : fz 74 g [45, 46, 53] J J14372 := by rw [eJ14372]; exact fzx_pp hy fr14343 (by decide) (by decide)
    clear eJ14372
    refine WP_aload_n dX9_serve_210 rfl ?_
    refine WP_getr dX9_serve_211 fX9_75 rfl (lyx_is hy 53 4 rfl) (rfx hrI14305 53 5 55 (by decide)) ?_
    refine WP_iload dX9_serve_214 rfl ?_
    refine WQ_iconst (2) (2) dX9_serve_216 rfl rfl (fun v14374 hv14374 => ?_)
    refine WQ_iadd dX9_serve_217 (by omega) (by omega) (fun v14375 hv14375 => ?_)
    refine WP_dup2 dX9_serve_218 rfl rfl ?_
    refine WQ_ialdu dX9_serve_219 (lyx_is hy 55 13 rfl) (lyx_n hy 55 28 rfl) (by omega) (by omega) (fun v14376 => ?_)
    refine WP_iload dX9_serve_220 rfl ?_
    refine WP_iload dX9_serve_222 rfl ?_
    refine WQ_imulb (99) (60) dX9_serve_224 ⟨by omega, by omega⟩ ⟨by omega, by omega⟩ (by decide) (fun v14377 pv14377 av14377 bv14377 cv14377 => ?_)
    refine WQ_iaddu dX9_serve_225 (fun v14378 => ?_)
    refine WQ_iast dX9_serve_226 (lyx_is hy 55 13 rfl) (lyx_n hy 55 28 rfl) (by omega) (by omega) (fun I14379 eI14379 => ?_)
    have hI14379 : XI g n L I14379 := by rw [eI14379]; exact (fa_put hy hI14357 (c := 55) (k := 2) (s := so.toInt.toNat) (by decide) (by omega) (by decide) (by rw [cl (n := 7 * so.toInt.toNat + 2) (by omega)]) (fun h => absurd h (by decide)) (fun h => absurd h (by decide)))
    have e14380 : I14379 (ad g 53) 0 = w14172 := by rw [eI14379, pp_ne _ _ (Or.inl (lyx_ne hy (by decide) (by decide) (by decide)))]; exact e14358
    have e14381 : I14379 (ad g 53) 1 = w14173 := by rw [eI14379, pp_ne _ _ (Or.inl (lyx_ne hy (by decide) (by decide) (by decide)))]; exact e14359
    have e14382 : I14379 (ad g 50) 3 = w14315 := by rw [eI14379, pp_ne _ _ (Or.inl (lyx_ne hy (by decide) (by decide) (by decide)))]; exact e14360
    have e14383 : I14379 (ad g 50) 4 = w14316 := by rw [eI14379, pp_ne _ _ (Or.inl (lyx_ne hy (by decide) (by decide) (by decide)))]; exact e14361
    have e14384 : I14379 (ad g 50) 0 = v14317 := by rw [eI14379, pp_ne _ _ (Or.inl (lyx_ne hy (by decide) (by decide) (by decide)))]; exact e14362
    have e14385 : I14379 (ad g 27) 4 = v14336 := by rw [eI14379, pp_ne _ _ (Or.inl (lyx_ne hy (by decide) (by decide) (by decide)))]; exact e14363
    have e14386 : I14379 (ad g 1) 1 = L := by rw [eI14379, pp_ne _ _ (Or.inl (lyx_ne hy (by decide) (by decide) (by decide)))]; exact e14364
    have e14387 : I14379 (ad g 53) 2 = v14356 := by rw [eI14379, pp_ne _ _ (Or.inl (lyx_ne hy (by decide) (by decide) (by decide)))]; exact e14365
    have fr14388 : fz 74 g [43, 44, 47, 48, 50, 51, 52, 53, 55] I I14379 := by rw [eI14379]; exact fzx_pp hy fr14366 (by decide) (by decide)
    clear eI14379
    refine WP_aload_n dX9_serve_227 rfl ?_
    refine WP_getr dX9_serve_228 fX9_75 rfl (lyx_is hy 53 4 rfl) (rfx hrI14305 53 5 55 (by decide)) ?_
    refine WP_iload dX9_serve_231 rfl ?_
    refine WQ_iconst (4) (4) dX9_serve_233 rfl rfl (fun v14389 hv14389 => ?_)
    refine WQ_iadd dX9_serve_234 (by omega) (by omega) (fun v14390 hv14390 => ?_)
    refine WP_dup2 dX9_serve_235 rfl rfl ?_
    refine WQ_ialdu dX9_serve_236 (lyx_is hy 55 13 rfl) (lyx_n hy 55 28 rfl) (by omega) (by omega) (fun v14391 => ?_)
    refine WP_iload dX9_serve_237 rfl ?_
    refine WP_aload_n dX9_serve_239 rfl ?_
    refine WP_getr dX9_serve_240 fX9_12 rfl (lyx_is hy 49 9 rfl) (rfx hrI14305 49 0 50 (by decide)) ?_
    refine WQ_geti dX9_serve_243 fX9_121 rfl (lyx_is hy 50 6 rfl) (BT_get hI14379.1 50 2 3 (0) (0) (99) (by decide) 2 (by decide) (by decide)) (fun v14392 ev14392 av14392 bv14392 => ?_)
    refine WQ_imulb (99) (99) dX9_serve_246 ⟨by omega, by omega⟩ ⟨by omega, by omega⟩ (by decide) (fun v14393 pv14393 av14393 bv14393 cv14393 => ?_)
    refine WP_iload dX9_serve_247 rfl ?_
    refine WP_iload dX9_serve_249 rfl ?_
    refine WQ_iadd dX9_serve_251 (by omega) (by omega) (fun v14394 hv14394 => ?_)
    refine WQ_imulb (9801) (6) dX9_serve_252 ⟨by omega, by omega⟩ ⟨by omega, by omega⟩ (by decide) (fun v14395 pv14395 av14395 bv14395 cv14395 => ?_)
    refine WQ_iaddu dX9_serve_253 (fun v14396 => ?_)
    refine WQ_iast dX9_serve_254 (lyx_is hy 55 13 rfl) (lyx_n hy 55 28 rfl) (by omega) (by omega) (fun I14397 eI14397 => ?_)
    have hI14397 : XI g n L I14397 := by rw [eI14397]; exact (fa_put hy hI14379 (c := 55) (k := 4) (s := so.toInt.toNat) (by decide) (by omega) (by decide) (by rw [cl (n := 7 * so.toInt.toNat + 4) (by omega)]) (fun h => absurd h (by decide)) (fun h => absurd h (by decide)))
    have e14398 : I14397 (ad g 53) 0 = w14172 := by rw [eI14397, pp_ne _ _ (Or.inl (lyx_ne hy (by decide) (by decide) (by decide)))]; exact e14380
    have e14399 : I14397 (ad g 53) 1 = w14173 := by rw [eI14397, pp_ne _ _ (Or.inl (lyx_ne hy (by decide) (by decide) (by decide)))]; exact e14381
    have e14400 : I14397 (ad g 50) 3 = w14315 := by rw [eI14397, pp_ne _ _ (Or.inl (lyx_ne hy (by decide) (by decide) (by decide)))]; exact e14382
    have e14401 : I14397 (ad g 50) 4 = w14316 := by rw [eI14397, pp_ne _ _ (Or.inl (lyx_ne hy (by decide) (by decide) (by decide)))]; exact e14383
    have e14402 : I14397 (ad g 50) 0 = v14317 := by rw [eI14397, pp_ne _ _ (Or.inl (lyx_ne hy (by decide) (by decide) (by decide)))]; exact e14384
    have e14403 : I14397 (ad g 27) 4 = v14336 := by rw [eI14397, pp_ne _ _ (Or.inl (lyx_ne hy (by decide) (by decide) (by decide)))]; exact e14385
    have e14404 : I14397 (ad g 1) 1 = L := by rw [eI14397, pp_ne _ _ (Or.inl (lyx_ne hy (by decide) (by decide) (by decide)))]; exact e14386
    have e14405 : I14397 (ad g 53) 2 = v14356 := by rw [eI14397, pp_ne _ _ (Or.inl (lyx_ne hy (by decide) (by decide) (by decide)))]; exact e14387
    have e14406 : I14397 (ad g 50) 2 = v14392 := by rw [eI14397, pp_ne _ _ (Or.inl (lyx_ne hy (by decide) (by decide) (by decide)))]; exact ev14392
    have fr14407 : fz 74 g [43, 44, 47, 48, 50, 51, 52, 53, 55] I I14397 := by rw [eI14397]; exact fzx_pp hy fr14388 (by decide) (by decide)
    clear eI14397
    refine WP_aload_n dX9_serve_255 rfl ?_
    refine WP_aload_n dX9_serve_256 rfl ?_
    refine WP_iload_n dX9_serve_257 rfl ?_
    refine WP_iload_n dX9_serve_258 rfl ?_
    refine WP_iload dX9_serve_259 rfl ?_
    refine WP_iload dX9_serve_261 rfl ?_
    refine WQ_isub dX9_serve_263 (by omega) (by omega) (fun v14408 hv14408 => ?_)
    refine WP_iload dX9_serve_264 rfl ?_
    refine WP_iload dX9_serve_266 rfl ?_
    refine WQ_isub dX9_serve_268 (by omega) (by omega) (fun v14409 hv14409 => ?_)
    refine WP_iload dX9_serve_269 rfl ?_
    refine WQ_iadd dX9_serve_271 (by omega) (by omega) (fun v14410 hv14410 => ?_)
    refine WP_callV5 (k := 9) dX9_serve_272 ⟨⟨⟨by decide, by decide⟩, zX9_sleep⟩, lX9_124, by decide, rfl, vX9_sleep.1, vX9_sleep.2⟩ (lyx_is hy 49 9 rfl) (sx_wsleepf_53_27 hy hrI14305 ht_I14305 hI14397 so da v14408 v14410 (by omega) (by omega) (by omega) (by omega) (by omega) (by omega) (by omega) (by omega) (by omega) (by rw [e14399]; omega)) (Nat.le_of_ble_eq_true rfl) ?_
    intro r I14411 J14412 Ra hq
    obtain ⟨⟨hI14411, ec, fiI14411, fjI14411, ⟨pI14411, sI14411_53_0⟩⟩, rfl⟩ := hq
    rw [ec]
    clear ec Ra
    have fr14413 : fz 74 g [43, 44, 47, 48, 50, 51, 52, 53, 55] I I14411 := fz_tr fr14407 (fz_mono fiI14411 (by decide))
    have fr14414 : fz 74 g [45, 46, 53] J J14412 := fz_tr fr14373 (fz_mono fjI14411 (by decide))
    have e14415 : I14411 (ad g 53) 0 = w14172 := by rw [sI14411_53_0]; exact e14398
    have e14416 : I14411 (ad g 50) 3 = w14315 := by rw [fz_at fiI14411 50 (by decide) (by decide)]; exact e14400
    have e14417 : I14411 (ad g 50) 4 = w14316 := by rw [fz_at fiI14411 50 (by decide) (by decide)]; exact e14401
    have e14418 : I14411 (ad g 50) 0 = v14317 := by rw [fz_at fiI14411 50 (by decide) (by decide)]; exact e14402
    have e14419 : I14411 (ad g 27) 4 = v14336 := by rw [fz_at fiI14411 27 (by decide) (by decide)]; exact e14403
    have e14420 : I14411 (ad g 50) 2 = v14392 := by rw [fz_at fiI14411 50 (by decide) (by decide)]; exact e14406
    have e14421 : I14411 (ad g 1) 1 = L := hI14411.2
    have b14422 := BT_get hI14411.1 1 1 2 (0) (0) (900) (by decide) 1 (by decide) (by decide)
    rw [e14421] at b14422
    obtain ⟨w14423, ew14423⟩ : ∃ w : Int32, I14411 (ad g 53) 1 = w := ⟨_, rfl⟩
    have bw14423 := BT_get hI14411.1 53 1 2 (0) (23760) (0) (by decide) 1 (by decide) (by decide)
    rw [ew14423] at bw14423
    rw [ew14423, e14399] at pI14411
    exact WP_vret dX9_serve_275 rfl ⟨⟨hI14411, ⟨hrI14305, ⟨ht_I14305.trans hT.symm, hs_I14305⟩, hpI14305⟩, fr14413, fr14414, ⟨(by rw [ew14423, ew14173]; omega), (by rw [e14415, ew14172] <;> exact (eq32 _ _).mpr (by omega))⟩⟩, rfl⟩
set_option maxHeartbeats 4000000 in
set_option maxRecDepth 100000 in
theorem sx_serve_56_6 {g : GG} {n : Int} {L : Int32} (hy : LyX g)  {I : pI} {J : pJ} {R : pR} (hr : RfX g R) (hP : NL g R) (hT : R (ad g 5) 0 = some (ad g 6)) (hI : XI g n L I) (so : Int32) (da : Int32) (so_lo : 0 ≤ so.toInt) (so_hi : so.toInt ≤ 3) (da_lo : 0 ≤ da.toInt) (da_hi : da.toInt ≤ 6) (hn : 0 ≤ n ∧ n ≤ 40000) (hb : (I (ad g 56) 1).toInt ≤ 23760 * n + 700000 - 5940) : SP g mX9_serve [.ref (ad g 49), .ref (ad g 56), .int so, .int da] I J R (fun r I' J' R' => (XI g n L I' ∧ (RfX g R' ∧ (R' (ad g 5) 0 = R (ad g 5) 0 ∧ R' (ad g 0) 10 = R (ad g 0) 10) ∧ NL g R') ∧ fz 74 g [43, 44, 47, 48, 50, 51, 52, 56, 58] I I' ∧ fz 74 g [45, 46, 56] J J' ∧ (I' (ad g 56) 1).toInt ≤ (I (ad g 56) 1).toInt + 5940) ∧ r = none) := by
  refine SP_of ⟨by decide, rfl⟩ (Nat.le_of_ble_eq_true rfl) ?_
  have e14424 : I (ad g 1) 1 = L := hI.2
  have b14425 := BT_get hI.1 1 1 2 (0) (0) (900) (by decide) 1 (by decide) (by decide)
  rw [e14424] at b14425
  have fr0 : fz 74 g [43, 44, 47, 48, 50, 51, 52, 56, 58] I I := fz_rf
  have frj0 : fz 74 g [45, 46, 56] J J := fz_rf
  obtain ⟨w14426, ew14426⟩ : ∃ w : Int32, I (ad g 56) 1 = w := ⟨_, rfl⟩
  have bw14426 := BT_get hI.1 56 1 2 (0) (23760) (700000) (by decide) 1 (by decide) (by decide)
  rw [ew14426] at bw14426
  rw [ew14426] at hb
  refine WP_iload_n dX9_serve_0 rfl ?_
  refine WQ_bipush (7) (7) dX9_serve_1 rfl rfl (fun v14427 hv14427 => ?_)
  refine WQ_imulk (7) dX9_serve_3 hv14427 (by omega) (by omega) (fun v14428 hv14428 => ?_)
  refine WP_istore (ls' := [(0, _), (1, _), (2, _), (3, _), (4, _)]) dX9_serve_4 (by decide) rfl ?_
  refine WP_aload_n dX9_serve_6 rfl ?_
  refine WP_getr dX9_serve_7 fX9_25 rfl (lyx_is hy 49 9 rfl) (rfx hr 49 2 5 (by decide)) ?_
  refine WP_getr dX9_serve_10 fX9_49 rfl (lyx_is hy 5 0 rfl) hT ?_
  refine WP_getr dX9_serve_13 fX9_71 rfl (lyx_is hy 6 7 rfl) (rfx hr 6 6 8 (by decide)) ?_
  refine WP_iload_n dX9_serve_16 rfl ?_
  refine WQ_iald dX9_serve_17 (lyx_is hy 8 13 rfl) (lyx_n hy 8 4 rfl) (by omega) (by omega) (fun q hq => BT_get hI.1 8 0 4 (0) (0) (99) (by decide) q (Nat.zero_le _) hq) (fun v14429 av14429 bv14429 ev14429 => ?_)
  clear ev14429
  refine WP_istore (ls' := [(0, _), (1, _), (2, _), (3, _), (4, _), (5, _)]) dX9_serve_18 (by decide) rfl ?_
  refine WP_aload_n dX9_serve_20 rfl ?_
  refine WP_getr dX9_serve_21 fX9_75 rfl (lyx_is hy 56 4 rfl) (rfx hr 56 5 58 (by decide)) ?_
  refine WP_iload dX9_serve_24 rfl ?_
  refine WQ_iconst (1) (1) dX9_serve_26 rfl rfl (fun v14430 hv14430 => ?_)
  refine WQ_iadd dX9_serve_27 (by omega) (by omega) (fun v14431 hv14431 => ?_)
  refine WQ_ialdf (q := 7 * so.toInt.toNat + 1) dX9_serve_28 (lyx_is hy 58 13 rfl) (lyx_n hy 58 28 rfl) (by omega) (by omega) (by omega) (fa_get1 hI (c := 58) (by decide) (by omega)) (fun v14432 av14432 bv14432 => ?_)
  refine WP_istore (ls' := [(0, _), (1, _), (2, _), (3, _), (4, _), (5, _), (6, _)]) dX9_serve_29 (by decide) rfl ?_
  refine WP_aload_n dX9_serve_31 rfl ?_
  refine WP_getr dX9_serve_32 fX9_25 rfl (lyx_is hy 49 9 rfl) (rfx hr 49 2 5 (by decide)) ?_
  refine WP_iload_n dX9_serve_35 rfl ?_
  refine WP_iload_n dX9_serve_36 rfl ?_
  refine WP_aload_n dX9_serve_37 rfl ?_
  refine WP_getr dX9_serve_38 fX9_75 rfl (lyx_is hy 56 4 rfl) (rfx hr 56 5 58 (by decide)) ?_
  refine WP_iload dX9_serve_41 rfl ?_
  refine WQ_iconst (0) (0) dX9_serve_43 rfl rfl (fun v14433 hv14433 => ?_)
  refine WQ_iadd dX9_serve_44 (by omega) (by omega) (fun v14434 hv14434 => ?_)
  refine WQ_ialdf (q := 7 * so.toInt.toNat) dX9_serve_45 (lyx_is hy 58 13 rfl) (lyx_n hy 58 28 rfl) (by omega) (by omega) (by omega) (fa_get0 hI (c := 58) (by decide) (by omega)) (fun v14435 av14435 bv14435 => ?_)
  refine WP_callV3 (k := 0) dX9_serve_46 ⟨⟨⟨by decide, by decide⟩, zX0_earned⟩, lX9_81, by decide, rfl, vX0_earned.1, vX0_earned.2⟩ (lyx_is hy 5 0 rfl) (sx_earned_6 hy hr hT hI so da v14435 (by omega) (by omega) (by omega) (by omega) (by omega) (by omega)) (Nat.le_of_ble_eq_true rfl) ?_
  intro r Ia Ja Ra hq
  obtain ⟨⟨ea, eb, ec⟩, v14436, rfl, av14436, bv14436, cv14436⟩ := hq
  show WP _ _ _ _ (.int _ :: _) _ _ _ _
  rw [ea, eb, ec]
  clear ea eb ec Ia Ja Ra
  refine WP_istore (ls' := [(0, _), (1, _), (2, _), (3, _), (4, _), (5, _), (6, _), (7, _)]) dX9_serve_49 (by decide) rfl ?_
  refine WP_aload_n dX9_serve_51 rfl ?_
  refine WP_getr dX9_serve_52 fX9_85 rfl (lyx_is hy 56 4 rfl) (rfx hr 56 4 57 (by decide)) ?_
  refine WP_iload_n dX9_serve_55 rfl ?_
  refine WQ_ialdu dX9_serve_56 (lyx_is hy 57 13 rfl) (lyx_n hy 57 4 rfl) (by omega) (by omega) (fun v14437 => ?_)
  refine WP_istore (ls' := [(0, _), (1, _), (2, _), (3, _), (4, _), (5, _), (6, _), (7, _), (8, _)]) dX9_serve_57 (by decide) rfl ?_
  refine WP_aload_n dX9_serve_59 rfl ?_
  refine WP_getr dX9_serve_60 fX9_12 rfl (lyx_is hy 49 9 rfl) (rfx hr 49 0 50 (by decide)) ?_
  refine WP_aload_n dX9_serve_63 rfl ?_
  refine WP_getr dX9_serve_64 fX9_25 rfl (lyx_is hy 49 9 rfl) (rfx hr 49 2 5 (by decide)) ?_
  refine WP_iload_n dX9_serve_67 rfl ?_
  refine WP_iload_n dX9_serve_68 rfl ?_
  refine WP_callV3 (k := 6) dX9_serve_69 ⟨⟨⟨by decide, by decide⟩, zX6_load⟩, lX9_88, by decide, rfl, vX6_load.1, vX6_load.2⟩ (lyx_is hy 50 6 rfl) (sx_loadx_50_6 hy hr hT hI so da (by omega) (by omega) (by omega) (by omega)) (Nat.le_of_ble_eq_true rfl) ?_
  intro r I14438 J14439 Ra hq
  obtain ⟨⟨hI14438, ec, fiI14438, ejI14438, pI14438⟩, rfl⟩ := hq
  rw [ec]
  clear ec Ra
  have fr14440 : fz 74 g [43, 44, 47, 48, 50, 51, 52, 56, 58] I I14438 := fz_tr fr0 (fz_mono fiI14438 (by decide))
  rw [ejI14438]
  clear ejI14438 J14439
  have e14441 : I14438 (ad g 56) 1 = w14426 := by rw [fz_at fiI14438 56 (by decide) (by decide)]; exact ew14426
  have e14442 : I14438 (ad g 1) 1 = L := hI14438.2
  have b14443 := BT_get hI14438.1 1 1 2 (0) (0) (900) (by decide) 1 (by decide) (by decide)
  rw [e14442] at b14443
  refine WP_iload dX9_serve_72 rfl ?_
  refine WQ_iconst (3) (3) dX9_serve_74 rfl rfl (fun v14444 hv14444 => ?_)
  refine WQ_icmp_ne 96 dX9_serve_75 rfl (fun c14444 => ?_) (fun c14444 => ?_)
  · refine WP_aload_n dX9_serve_96 rfl ?_
    refine WP_getr dX9_serve_97 fX9_12 rfl (lyx_is hy 49 9 rfl) (rfx hr 49 0 50 (by decide)) ?_
    refine WP_iload dX9_serve_100 rfl ?_
    refine WP_iload dX9_serve_102 rfl ?_
    refine WP_iload dX9_serve_104 rfl ?_
    refine WP_callV3 (k := 6) dX9_serve_106 ⟨⟨⟨by decide, by decide⟩, zX6_habit⟩, lX9_98, by decide, rfl, vX6_habit.1, vX6_habit.2⟩ (lyx_is hy 50 6 rfl) (sx_habita hy hr hI14438 v14437 v14436 v14432  (by omega) (by omega) (by omega) (by omega)) (Nat.le_of_ble_eq_true rfl) ?_
    intro r Ia Ja Ra hq
    obtain ⟨⟨ea, eb, ec⟩, v14446, rfl, av14446, bv14446, cv14446⟩ := hq
    show WP _ _ _ _ (.int _ :: _) _ _ _ _
    rw [ea, eb, ec]
    clear ea eb ec Ia Ja Ra
    have acv14446 : AOKd (I14438 (ad g 50)) v14436.toInt v14432.toInt v14446.toInt := by unfold AOKd; exact ⟨by omega, by omega, cv14446.1, cv14446.2.1, cv14446.2.2⟩
    obtain ⟨w14447, ew14447⟩ : ∃ w : Int32, I14438 (ad g 50) 3 = w := ⟨_, rfl⟩
    have bw14447 := BT_get hI14438.1 50 3 4 (0) (0) (20) (by decide) 3 (by decide) (by decide)
    rw [ew14447] at bw14447
    obtain ⟨w14448, ew14448⟩ : ∃ w : Int32, I14438 (ad g 50) 4 = w := ⟨_, rfl⟩
    have bw14448 := BT_get hI14438.1 50 4 5 (0) (0) (20) (by decide) 4 (by decide) (by decide)
    rw [ew14448] at bw14448
    have adv14446 := acv14446
    unfold AOKd at adv14446
    rw [ew14447, ew14448] at adv14446
    obtain ⟨rav14446, rbv14446, rcv14446, rdv14446, rev14446⟩ := adv14446
    refine WP_istore (ls' := [(0, _), (1, _), (2, _), (3, _), (4, _), (5, _), (6, _), (7, _), (8, _), (9, _)]) dX9_serve_109 (by decide) rfl ?_
    refine WP_aload_n dX9_serve_111 rfl ?_
    refine WP_aload_n dX9_serve_112 rfl ?_
    refine WP_getr dX9_serve_113 fX9_12 rfl (lyx_is hy 49 9 rfl) (rfx hr 49 0 50 (by decide)) ?_
    refine WQ_geti dX9_serve_116 fX9_101 rfl (lyx_is hy 50 6 rfl) (BT_get hI14438.1 50 0 1 (-1) (0) (2) (by decide) 0 (by decide) (by decide)) (fun v14449 ev14449 av14449 bv14449 => ?_)
    refine WP_iload dX9_serve_119 rfl ?_
    refine WQ_iconst (3) (3) dX9_serve_121 rfl rfl (fun v14450 hv14450 => ?_)
    refine WQ_iand3 dX9_serve_122 hv14450 (by omega) (by omega) (fun v14451 hv14451 => ?_)
    refine WP_iload dX9_serve_123 rfl ?_
    refine WP_iload_n dX9_serve_125 rfl ?_
    refine WP_callV4 (k := 9) dX9_serve_126 ⟨⟨⟨by decide, by decide⟩, zX9_buy⟩, lX9_104, by decide, rfl, vX9_buy.1, vX9_buy.2⟩ (lyx_is hy 49 9 rfl) (sx_buyf hy hr hI14438 v14449 v14451 v14429 da (by omega) (by omega) (by omega) (by omega) (by omega) (by omega) (by omega) (by omega)) (Nat.le_of_ble_eq_true rfl) ?_
    intro r I14452 J14453 Ra hq
    obtain ⟨⟨hI14452, ec, fiI14452, fjI14452⟩, v14454, rfl, av14454, bv14454, cv14454⟩ := hq
    show WP _ _ _ _ (.int _ :: _) _ _ _ _
    rw [ec]
    clear ec Ra
    have fr14455 : fz 74 g [43, 44, 47, 48, 50, 51, 52, 56, 58] I I14452 := fz_tr fr14440 (fz_mono fiI14452 (by decide))
    have fr14456 : fz 74 g [45, 46, 56] J J14453 := fz_tr frj0 (fz_mono fjI14452 (by decide))
    have e14457 : I14452 (ad g 56) 1 = w14426 := by rw [fz_at fiI14452 56 (by decide) (by decide)]; exact e14441
    have e14458 : I14452 (ad g 50) 3 = w14447 := by rw [fz_at fiI14452 50 (by decide) (by decide)]; exact ew14447
    have e14459 : I14452 (ad g 50) 4 = w14448 := by rw [fz_at fiI14452 50 (by decide) (by decide)]; exact ew14448
    have e14460 : I14452 (ad g 50) 0 = v14449 := by rw [fz_at fiI14452 50 (by decide) (by decide)]; exact ev14449
    have e14461 : I14452 (ad g 1) 1 = L := hI14452.2
    have b14462 := BT_get hI14452.1 1 1 2 (0) (0) (900) (by decide) 1 (by decide) (by decide)
    rw [e14461] at b14462
    refine WP_istore (ls' := [(0, _), (1, _), (2, _), (3, _), (4, _), (5, _), (6, _), (7, _), (8, _), (9, _), (10, _)]) dX9_serve_129 (by decide) rfl ?_
    refine WP_iload dX9_serve_131 rfl ?_
    refine WQ_iconst (2) (2) dX9_serve_133 rfl rfl (fun v14463 hv14463 => ?_)
    refine WQ_ishr2 dX9_serve_134 hv14463 (by omega) (by omega) (fun v14464 hv14464 => ?_)
    refine WQ_iconst (3) (3) dX9_serve_135 rfl rfl (fun v14465 hv14465 => ?_)
    refine WQ_iand3 dX9_serve_136 hv14465 (by omega) (by omega) (fun v14466 hv14466 => ?_)
    refine WP_istore (ls' := [(0, _), (1, _), (2, _), (3, _), (4, _), (5, _), (6, _), (7, _), (8, _), (9, _), (10, _), (11, _)]) dX9_serve_137 (by decide) rfl ?_
    refine WP_aload_n dX9_serve_139 rfl ?_
    refine WP_aload_n dX9_serve_140 rfl ?_
    refine WP_getr dX9_serve_141 fX9_25 rfl (lyx_is hy 49 9 rfl) (rfx hr 49 2 5 (by decide)) ?_
    refine WP_getr dX9_serve_144 fX9_49 rfl (lyx_is hy 5 0 rfl) hT ?_
    refine WQ_geti dX9_serve_147 fX9_108 rfl (lyx_is hy 6 7 rfl) (BT_get hI14452.1 6 4 5 (-1) (0) (2) (by decide) 4 (by decide) (by decide)) (fun v14467 ev14467 av14467 bv14467 => ?_)
    refine WP_iload dX9_serve_150 rfl ?_
    refine WQ_iconst (4) (4) dX9_serve_152 rfl rfl (fun v14468 hv14468 => ?_)
    refine WQ_ishr4 dX9_serve_153 hv14468 (by omega) (by omega) (fun v14469 hv14469 => ?_)
    refine WP_iload dX9_serve_154 rfl ?_
    refine WP_iload_n dX9_serve_156 rfl ?_
    refine WP_callV4 (k := 9) dX9_serve_157 ⟨⟨⟨by decide, by decide⟩, zX9_buy⟩, lX9_104, by decide, rfl, vX9_buy.1, vX9_buy.2⟩ (lyx_is hy 49 9 rfl) (sx_buyf hy hr hI14452 v14467 v14469 v14429 da (by omega) (by omega) (by omega) (by omega) (by omega) (by omega) (by omega) (by omega)) (Nat.le_of_ble_eq_true rfl) ?_
    intro r I14470 J14471 Ra hq
    obtain ⟨⟨hI14470, ec, fiI14470, fjI14470⟩, v14472, rfl, av14472, bv14472, cv14472⟩ := hq
    show WP _ _ _ _ (.int _ :: _) _ _ _ _
    rw [ec]
    clear ec Ra
    have fr14473 : fz 74 g [43, 44, 47, 48, 50, 51, 52, 56, 58] I I14470 := fz_tr fr14455 (fz_mono fiI14470 (by decide))
    have fr14474 : fz 74 g [45, 46, 56] J J14471 := fz_tr fr14456 (fz_mono fjI14470 (by decide))
    have e14475 : I14470 (ad g 56) 1 = w14426 := by rw [fz_at fiI14470 56 (by decide) (by decide)]; exact e14457
    have e14476 : I14470 (ad g 50) 3 = w14447 := by rw [fz_at fiI14470 50 (by decide) (by decide)]; exact e14458
    have e14477 : I14470 (ad g 50) 4 = w14448 := by rw [fz_at fiI14470 50 (by decide) (by decide)]; exact e14459
    have e14478 : I14470 (ad g 50) 0 = v14449 := by rw [fz_at fiI14470 50 (by decide) (by decide)]; exact e14460
    have e14479 : I14470 (ad g 6) 4 = v14467 := by rw [fz_at fiI14470 6 (by decide) (by decide)]; exact ev14467
    have e14480 : I14470 (ad g 1) 1 = L := hI14470.2
    have b14481 := BT_get hI14470.1 1 1 2 (0) (0) (900) (by decide) 1 (by decide) (by decide)
    rw [e14480] at b14481
    refine WP_istore (ls' := [(0, _), (1, _), (2, _), (3, _), (4, _), (5, _), (6, _), (7, _), (8, _), (9, _), (10, _), (11, _), (12, _)]) dX9_serve_160 (by decide) rfl ?_
    refine WP_aload_n dX9_serve_162 rfl ?_
    refine WP_getr dX9_serve_163 fX9_12 rfl (lyx_is hy 49 9 rfl) (rfx hr 49 0 50 (by decide)) ?_
    refine WP_iload dX9_serve_166 rfl ?_
    refine WP_iload dX9_serve_168 rfl ?_
    refine WP_callV2 (k := 6) dX9_serve_170 ⟨⟨⟨by decide, by decide⟩, zX6_priceOf⟩, lX9_111, by decide, rfl, vX6_priceOf.1, vX6_priceOf.2⟩ (lyx_is hy 50 6 rfl) (sx_pricex hy hr hI14470 v14454 v14472 (by omega) (by omega) (by omega) (by omega)) (Nat.le_of_ble_eq_true rfl) ?_
    intro r Ia Ja Ra hq
    obtain ⟨⟨ea, eb, ec⟩, v14482, rfl, av14482, bv14482, cv14482⟩ := hq
    show WP _ _ _ _ (.int _ :: _) _ _ _ _
    rw [ea, eb, ec]
    clear ea eb ec Ia Ja Ra
    rw [e14476] at cv14482
    rw [e14477] at cv14482
    have k1 : v14454.toInt * w14447.toInt ≤ (v14446.toInt % 4) * w14447.toInt := Int.mul_le_mul_of_nonneg_right (by omega) (by omega)
    have k2 : v14472.toInt * w14448.toInt ≤ (v14446.toInt / 16) * w14448.toInt := Int.mul_le_mul_of_nonneg_right (by omega) (by omega)
    have kp : v14482.toInt ≤ v14436.toInt := by omega
    refine WP_istore (ls' := [(0, _), (1, _), (2, _), (3, _), (4, _), (5, _), (6, _), (7, _), (8, _), (9, _), (10, _), (11, _), (12, _), (13, _)]) dX9_serve_173 (by decide) rfl ?_
    refine WP_aload_n dX9_serve_175 rfl ?_
    refine WP_dup dX9_serve_176 rfl ?_
    refine WQ_getiu dX9_serve_177 fX9_114 rfl (lyx_is hy 56 4 rfl) (fun v14483 ev14483 => ?_)
    refine WP_iload dX9_serve_180 rfl ?_
    refine WP_iload dX9_serve_182 rfl ?_
    refine WP_iload dX9_serve_184 rfl ?_
    refine WQ_iadd dX9_serve_186 (by omega) (by omega) (fun v14484 hv14484 => ?_)
    refine WQ_imulb (99) (6) dX9_serve_187 ⟨by omega, by omega⟩ ⟨by omega, by omega⟩ (by decide) (fun v14485 pv14485 av14485 bv14485 cv14485 => ?_)
    refine WQ_iaddu dX9_serve_188 (fun v14486 => ?_)
    refine WQ_puti dX9_serve_189 fX9_114 rfl rfl (lyx_is hy 56 4 rfl) (fun I14487 eI14487 => ?_)
    have hI14487 : XI g n L I14487 := by rw [eI14487]; exact (xi_f0 hy hI14470 (c := 56) (by decide) (Or.inl (by decide)) (by decide))
    have e14488 : I14487 (ad g 56) 1 = w14426 := by rw [eI14487, pp_ne _ _ (Or.inr (by decide))]; exact e14475
    have e14489 : I14487 (ad g 50) 3 = w14447 := by rw [eI14487, pp_ne _ _ (Or.inl (lyx_ne hy (by decide) (by decide) (by decide)))]; exact e14476
    have e14490 : I14487 (ad g 50) 4 = w14448 := by rw [eI14487, pp_ne _ _ (Or.inl (lyx_ne hy (by decide) (by decide) (by decide)))]; exact e14477
    have e14491 : I14487 (ad g 50) 0 = v14449 := by rw [eI14487, pp_ne _ _ (Or.inl (lyx_ne hy (by decide) (by decide) (by decide)))]; exact e14478
    have e14492 : I14487 (ad g 6) 4 = v14467 := by rw [eI14487, pp_ne _ _ (Or.inl (lyx_ne hy (by decide) (by decide) (by decide)))]; exact e14479
    have e14493 : I14487 (ad g 1) 1 = L := by rw [eI14487, pp_ne _ _ (Or.inl (lyx_ne hy (by decide) (by decide) (by decide)))]; exact e14480
    have e14494 : I14487 (ad g 56) 2 = v14486 := by rw [eI14487, pp_self]
    have fr14495 : fz 74 g [43, 44, 47, 48, 50, 51, 52, 56, 58] I I14487 := by rw [eI14487]; exact fzx_pp hy fr14473 (by decide) (by decide)
    clear eI14487
    refine WP_aload_n dX9_serve_192 rfl ?_
    refine WP_dup dX9_serve_193 rfl ?_
    refine WQ_getl dX9_serve_194 fX9_117 rfl (lyx_is hy 56 4 rfl) (fun l14496 el14496 => ?_)
    refine WP_iload dX9_serve_197 rfl ?_
    refine WP_iload dX9_serve_199 rfl ?_
    refine WP_iload dX9_serve_201 rfl ?_
    refine WQ_isub dX9_serve_203 (by omega) (by omega) (fun v14497 hv14497 => ?_)
    refine WQ_imulu dX9_serve_204 (fun v14498 => ?_)
    refine WQ_i2l dX9_serve_205 (fun l14499 hl14499 => ?_)
    refine WQ_ladd dX9_serve_206 (fun l14500 => ?_)
    refine WQ_putl dX9_serve_207 fX9_117 rfl rfl (lyx_is hy 56 4 rfl) (fun J14501 eJ14501 => ?_)
    have fr14502 : fz 74 g [45, 46, 56] J J14501 := by rw [eJ14501]; exact fzx_pp hy fr14474 (by decide) (by decide)
    clear eJ14501
    refine WP_aload_n dX9_serve_210 rfl ?_
    refine WP_getr dX9_serve_211 fX9_75 rfl (lyx_is hy 56 4 rfl) (rfx hr 56 5 58 (by decide)) ?_
    refine WP_iload dX9_serve_214 rfl ?_
    refine WQ_iconst (2) (2) dX9_serve_216 rfl rfl (fun v14503 hv14503 => ?_)
    refine WQ_iadd dX9_serve_217 (by omega) (by omega) (fun v14504 hv14504 => ?_)
    refine WP_dup2 dX9_serve_218 rfl rfl ?_
    refine WQ_ialdu dX9_serve_219 (lyx_is hy 58 13 rfl) (lyx_n hy 58 28 rfl) (by omega) (by omega) (fun v14505 => ?_)
    refine WP_iload dX9_serve_220 rfl ?_
    refine WP_iload dX9_serve_222 rfl ?_
    refine WQ_imulb (99) (60) dX9_serve_224 ⟨by omega, by omega⟩ ⟨by omega, by omega⟩ (by decide) (fun v14506 pv14506 av14506 bv14506 cv14506 => ?_)
    refine WQ_iaddu dX9_serve_225 (fun v14507 => ?_)
    refine WQ_iast dX9_serve_226 (lyx_is hy 58 13 rfl) (lyx_n hy 58 28 rfl) (by omega) (by omega) (fun I14508 eI14508 => ?_)
    have hI14508 : XI g n L I14508 := by rw [eI14508]; exact (fa_put hy hI14487 (c := 58) (k := 2) (s := so.toInt.toNat) (by decide) (by omega) (by decide) (by rw [cl (n := 7 * so.toInt.toNat + 2) (by omega)]) (fun h => absurd h (by decide)) (fun h => absurd h (by decide)))
    have e14509 : I14508 (ad g 56) 1 = w14426 := by rw [eI14508, pp_ne _ _ (Or.inl (lyx_ne hy (by decide) (by decide) (by decide)))]; exact e14488
    have e14510 : I14508 (ad g 50) 3 = w14447 := by rw [eI14508, pp_ne _ _ (Or.inl (lyx_ne hy (by decide) (by decide) (by decide)))]; exact e14489
    have e14511 : I14508 (ad g 50) 4 = w14448 := by rw [eI14508, pp_ne _ _ (Or.inl (lyx_ne hy (by decide) (by decide) (by decide)))]; exact e14490
    have e14512 : I14508 (ad g 50) 0 = v14449 := by rw [eI14508, pp_ne _ _ (Or.inl (lyx_ne hy (by decide) (by decide) (by decide)))]; exact e14491
    have e14513 : I14508 (ad g 6) 4 = v14467 := by rw [eI14508, pp_ne _ _ (Or.inl (lyx_ne hy (by decide) (by decide) (by decide)))]; exact e14492
    have e14514 : I14508 (ad g 1) 1 = L := by rw [eI14508, pp_ne _ _ (Or.inl (lyx_ne hy (by decide) (by decide) (by decide)))]; exact e14493
    have e14515 : I14508 (ad g 56) 2 = v14486 := by rw [eI14508, pp_ne _ _ (Or.inl (lyx_ne hy (by decide) (by decide) (by decide)))]; exact e14494
    have fr14516 : fz 74 g [43, 44, 47, 48, 50, 51, 52, 56, 58] I I14508 := by rw [eI14508]; exact fzx_pp hy fr14495 (by decide) (by decide)
    clear eI14508
    refine WP_aload_n dX9_serve_227 rfl ?_
    refine WP_getr dX9_serve_228 fX9_75 rfl (lyx_is hy 56 4 rfl) (rfx hr 56 5 58 (by decide)) ?_
    refine WP_iload dX9_serve_231 rfl ?_
    refine WQ_iconst (4) (4) dX9_serve_233 rfl rfl (fun v14517 hv14517 => ?_)
    refine WQ_iadd dX9_serve_234 (by omega) (by omega) (fun v14518 hv14518 => ?_)
    refine WP_dup2 dX9_serve_235 rfl rfl ?_
    refine WQ_ialdu dX9_serve_236 (lyx_is hy 58 13 rfl) (lyx_n hy 58 28 rfl) (by omega) (by omega) (fun v14519 => ?_)
    refine WP_iload dX9_serve_237 rfl ?_
    refine WP_aload_n dX9_serve_239 rfl ?_
    refine WP_getr dX9_serve_240 fX9_12 rfl (lyx_is hy 49 9 rfl) (rfx hr 49 0 50 (by decide)) ?_
    refine WQ_geti dX9_serve_243 fX9_121 rfl (lyx_is hy 50 6 rfl) (BT_get hI14508.1 50 2 3 (0) (0) (99) (by decide) 2 (by decide) (by decide)) (fun v14520 ev14520 av14520 bv14520 => ?_)
    refine WQ_imulb (99) (99) dX9_serve_246 ⟨by omega, by omega⟩ ⟨by omega, by omega⟩ (by decide) (fun v14521 pv14521 av14521 bv14521 cv14521 => ?_)
    refine WP_iload dX9_serve_247 rfl ?_
    refine WP_iload dX9_serve_249 rfl ?_
    refine WQ_iadd dX9_serve_251 (by omega) (by omega) (fun v14522 hv14522 => ?_)
    refine WQ_imulb (9801) (6) dX9_serve_252 ⟨by omega, by omega⟩ ⟨by omega, by omega⟩ (by decide) (fun v14523 pv14523 av14523 bv14523 cv14523 => ?_)
    refine WQ_iaddu dX9_serve_253 (fun v14524 => ?_)
    refine WQ_iast dX9_serve_254 (lyx_is hy 58 13 rfl) (lyx_n hy 58 28 rfl) (by omega) (by omega) (fun I14525 eI14525 => ?_)
    have hI14525 : XI g n L I14525 := by rw [eI14525]; exact (fa_put hy hI14508 (c := 58) (k := 4) (s := so.toInt.toNat) (by decide) (by omega) (by decide) (by rw [cl (n := 7 * so.toInt.toNat + 4) (by omega)]) (fun h => absurd h (by decide)) (fun h => absurd h (by decide)))
    have e14526 : I14525 (ad g 56) 1 = w14426 := by rw [eI14525, pp_ne _ _ (Or.inl (lyx_ne hy (by decide) (by decide) (by decide)))]; exact e14509
    have e14527 : I14525 (ad g 50) 3 = w14447 := by rw [eI14525, pp_ne _ _ (Or.inl (lyx_ne hy (by decide) (by decide) (by decide)))]; exact e14510
    have e14528 : I14525 (ad g 50) 4 = w14448 := by rw [eI14525, pp_ne _ _ (Or.inl (lyx_ne hy (by decide) (by decide) (by decide)))]; exact e14511
    have e14529 : I14525 (ad g 50) 0 = v14449 := by rw [eI14525, pp_ne _ _ (Or.inl (lyx_ne hy (by decide) (by decide) (by decide)))]; exact e14512
    have e14530 : I14525 (ad g 6) 4 = v14467 := by rw [eI14525, pp_ne _ _ (Or.inl (lyx_ne hy (by decide) (by decide) (by decide)))]; exact e14513
    have e14531 : I14525 (ad g 1) 1 = L := by rw [eI14525, pp_ne _ _ (Or.inl (lyx_ne hy (by decide) (by decide) (by decide)))]; exact e14514
    have e14532 : I14525 (ad g 56) 2 = v14486 := by rw [eI14525, pp_ne _ _ (Or.inl (lyx_ne hy (by decide) (by decide) (by decide)))]; exact e14515
    have e14533 : I14525 (ad g 50) 2 = v14520 := by rw [eI14525, pp_ne _ _ (Or.inl (lyx_ne hy (by decide) (by decide) (by decide)))]; exact ev14520
    have fr14534 : fz 74 g [43, 44, 47, 48, 50, 51, 52, 56, 58] I I14525 := by rw [eI14525]; exact fzx_pp hy fr14516 (by decide) (by decide)
    clear eI14525
    refine WP_aload_n dX9_serve_255 rfl ?_
    refine WP_aload_n dX9_serve_256 rfl ?_
    refine WP_iload_n dX9_serve_257 rfl ?_
    refine WP_iload_n dX9_serve_258 rfl ?_
    refine WP_iload dX9_serve_259 rfl ?_
    refine WP_iload dX9_serve_261 rfl ?_
    refine WQ_isub dX9_serve_263 (by omega) (by omega) (fun v14535 hv14535 => ?_)
    refine WP_iload dX9_serve_264 rfl ?_
    refine WP_iload dX9_serve_266 rfl ?_
    refine WQ_isub dX9_serve_268 (by omega) (by omega) (fun v14536 hv14536 => ?_)
    refine WP_iload dX9_serve_269 rfl ?_
    refine WQ_iadd dX9_serve_271 (by omega) (by omega) (fun v14537 hv14537 => ?_)
    refine WP_callV5 (k := 9) dX9_serve_272 ⟨⟨⟨by decide, by decide⟩, zX9_sleep⟩, lX9_124, by decide, rfl, vX9_sleep.1, vX9_sleep.2⟩ (lyx_is hy 49 9 rfl) (sx_wsleepf_56_6 hy hr hT hI14525 so da v14535 v14537 (by omega) (by omega) (by omega) (by omega) (by omega) (by omega) (by omega) (by omega) (by omega) (by rw [e14526]; omega)) (Nat.le_of_ble_eq_true rfl) ?_
    intro r I14538 J14539 Ra hq
    obtain ⟨⟨hI14538, ec, fiI14538, fjI14538, pI14538⟩, rfl⟩ := hq
    rw [ec]
    clear ec Ra
    have fr14540 : fz 74 g [43, 44, 47, 48, 50, 51, 52, 56, 58] I I14538 := fz_tr fr14534 (fz_mono fiI14538 (by decide))
    have fr14541 : fz 74 g [45, 46, 56] J J14539 := fz_tr fr14502 (fz_mono fjI14538 (by decide))
    have e14542 : I14538 (ad g 50) 3 = w14447 := by rw [fz_at fiI14538 50 (by decide) (by decide)]; exact e14527
    have e14543 : I14538 (ad g 50) 4 = w14448 := by rw [fz_at fiI14538 50 (by decide) (by decide)]; exact e14528
    have e14544 : I14538 (ad g 50) 0 = v14449 := by rw [fz_at fiI14538 50 (by decide) (by decide)]; exact e14529
    have e14545 : I14538 (ad g 6) 4 = v14467 := by rw [fz_at fiI14538 6 (by decide) (by decide)]; exact e14530
    have e14546 : I14538 (ad g 50) 2 = v14520 := by rw [fz_at fiI14538 50 (by decide) (by decide)]; exact e14533
    have e14547 : I14538 (ad g 1) 1 = L := hI14538.2
    have b14548 := BT_get hI14538.1 1 1 2 (0) (0) (900) (by decide) 1 (by decide) (by decide)
    rw [e14547] at b14548
    obtain ⟨w14549, ew14549⟩ : ∃ w : Int32, I14538 (ad g 56) 1 = w := ⟨_, rfl⟩
    have bw14549 := BT_get hI14538.1 56 1 2 (0) (23760) (700000) (by decide) 1 (by decide) (by decide)
    rw [ew14549] at bw14549
    rw [ew14549, e14526] at pI14538
    exact WP_vret dX9_serve_275 rfl ⟨⟨hI14538, ⟨hr, ⟨hT.trans hT.symm, rfl⟩, hP⟩, fr14540, fr14541, (by rw [ew14549, ew14426]; omega)⟩, rfl⟩
  · refine WP_aload_n dX9_serve_78 rfl ?_
    refine WP_getr dX9_serve_79 fX9_29 rfl (lyx_is hy 49 9 rfl) (rfx hr 49 3 43 (by decide)) ?_
    refine WP_iload_n dX9_serve_82 rfl ?_
    refine WP_iload_n dX9_serve_83 rfl ?_
    refine WP_iload dX9_serve_84 rfl ?_
    refine WP_iload dX9_serve_86 rfl ?_
    refine WQ_bipush (7) (7) dX9_serve_88 rfl rfl (fun v14550 hv14550 => ?_)
    refine WP_callV5 (k := 2) dX9_serve_90 ⟨⟨⟨by decide, by decide⟩, zX2_search⟩, lX9_92, by decide, rfl, vX2_search.1, vX2_search.2⟩ (lyx_is hy 43 2 rfl) (sx_searchx_6 hy hr hP hT hI14438 so da v14436 v14432 v14550 (by omega) (by omega) (by omega) (by omega) (by omega) (by omega) (by omega) (by omega) (by omega) (by omega)) (Nat.le_of_ble_eq_true rfl) ?_
    intro r I14551 J14552 R14553 hq
    obtain ⟨⟨hI14551, ⟨hrI14551, ⟨htI14551, hsI14551⟩, hpI14551⟩, fiI14551, fjI14551⟩, v14554, rfl, av14554, bv14554, cv14554⟩ := hq
    show WP _ _ _ _ (.int _ :: _) _ _ _ _
    have ht_I14551 := htI14551.trans hT
    have hs_I14551 : R14553 (ad g 0) 10 = R (ad g 0) 10 := hsI14551.trans rfl
    have fr14555 : fz 74 g [43, 44, 47, 48, 50, 51, 52, 56, 58] I I14551 := fz_tr fr14440 (fz_mono fiI14551 (by decide))
    have fr14556 : fz 74 g [45, 46, 56] J J14552 := fz_tr frj0 (fz_mono fjI14551 (by decide))
    have e14557 : I14551 (ad g 56) 1 = w14426 := by rw [fz_at fiI14551 56 (by decide) (by decide)]; exact e14441
    have e14558 : I14551 (ad g 1) 1 = L := hI14551.2
    have b14559 := BT_get hI14551.1 1 1 2 (0) (0) (900) (by decide) 1 (by decide) (by decide)
    rw [e14558] at b14559
    refine WP_goto 109 dX9_serve_93 rfl ?_
    obtain ⟨T9, t1, t2⟩ := cv14554
    have acv14554 : AOKd (I14438 (ad g 50)) v14436.toInt v14432.toInt v14554.toInt := AOK_eq (LD_un t1 (LD_fr pI14438 (fz_at fiI14438 6 (by decide) (by decide)).symm (fz_at fiI14438 11 (by decide) (by decide)).symm (fz_at fiI14438 13 (by decide) (by decide)).symm (fz_at fiI14438 14 (by decide) (by decide)).symm (fz_at fiI14438 15 (by decide) (by decide)).symm (fz_at fiI14438 22 (by decide) (by decide)).symm)) t2
    obtain ⟨w14560, ew14560⟩ : ∃ w : Int32, I14551 (ad g 50) 3 = w := ⟨_, rfl⟩
    have bw14560 := BT_get hI14551.1 50 3 4 (0) (0) (20) (by decide) 3 (by decide) (by decide)
    rw [ew14560] at bw14560
    obtain ⟨w14561, ew14561⟩ : ∃ w : Int32, I14551 (ad g 50) 4 = w := ⟨_, rfl⟩
    have bw14561 := BT_get hI14551.1 50 4 5 (0) (0) (20) (by decide) 4 (by decide) (by decide)
    rw [ew14561] at bw14561
    have adv14554 := acv14554
    unfold AOKd at adv14554
    rw [← fz_at fiI14551 50 (by decide) (by decide)] at adv14554
    rw [ew14560, ew14561] at adv14554
    obtain ⟨rav14554, rbv14554, rcv14554, rdv14554, rev14554⟩ := adv14554
    refine WP_istore (ls' := [(0, _), (1, _), (2, _), (3, _), (4, _), (5, _), (6, _), (7, _), (8, _), (9, _)]) dX9_serve_109 (by decide) rfl ?_
    refine WP_aload_n dX9_serve_111 rfl ?_
    refine WP_aload_n dX9_serve_112 rfl ?_
    refine WP_getr dX9_serve_113 fX9_12 rfl (lyx_is hy 49 9 rfl) (rfx hrI14551 49 0 50 (by decide)) ?_
    refine WQ_geti dX9_serve_116 fX9_101 rfl (lyx_is hy 50 6 rfl) (BT_get hI14551.1 50 0 1 (-1) (0) (2) (by decide) 0 (by decide) (by decide)) (fun v14562 ev14562 av14562 bv14562 => ?_)
    refine WP_iload dX9_serve_119 rfl ?_
    refine WQ_iconst (3) (3) dX9_serve_121 rfl rfl (fun v14563 hv14563 => ?_)
    refine WQ_iand3 dX9_serve_122 hv14563 (by omega) (by omega) (fun v14564 hv14564 => ?_)
    refine WP_iload dX9_serve_123 rfl ?_
    refine WP_iload_n dX9_serve_125 rfl ?_
    refine WP_callV4 (k := 9) dX9_serve_126 ⟨⟨⟨by decide, by decide⟩, zX9_buy⟩, lX9_104, by decide, rfl, vX9_buy.1, vX9_buy.2⟩ (lyx_is hy 49 9 rfl) (sx_buyf hy hrI14551 hI14551 v14562 v14564 v14429 da (by omega) (by omega) (by omega) (by omega) (by omega) (by omega) (by omega) (by omega)) (Nat.le_of_ble_eq_true rfl) ?_
    intro r I14565 J14566 Ra hq
    obtain ⟨⟨hI14565, ec, fiI14565, fjI14565⟩, v14567, rfl, av14567, bv14567, cv14567⟩ := hq
    show WP _ _ _ _ (.int _ :: _) _ _ _ _
    rw [ec]
    clear ec Ra
    have fr14568 : fz 74 g [43, 44, 47, 48, 50, 51, 52, 56, 58] I I14565 := fz_tr fr14555 (fz_mono fiI14565 (by decide))
    have fr14569 : fz 74 g [45, 46, 56] J J14566 := fz_tr fr14556 (fz_mono fjI14565 (by decide))
    have e14570 : I14565 (ad g 56) 1 = w14426 := by rw [fz_at fiI14565 56 (by decide) (by decide)]; exact e14557
    have e14571 : I14565 (ad g 50) 3 = w14560 := by rw [fz_at fiI14565 50 (by decide) (by decide)]; exact ew14560
    have e14572 : I14565 (ad g 50) 4 = w14561 := by rw [fz_at fiI14565 50 (by decide) (by decide)]; exact ew14561
    have e14573 : I14565 (ad g 50) 0 = v14562 := by rw [fz_at fiI14565 50 (by decide) (by decide)]; exact ev14562
    have e14574 : I14565 (ad g 1) 1 = L := hI14565.2
    have b14575 := BT_get hI14565.1 1 1 2 (0) (0) (900) (by decide) 1 (by decide) (by decide)
    rw [e14574] at b14575
    refine WP_istore (ls' := [(0, _), (1, _), (2, _), (3, _), (4, _), (5, _), (6, _), (7, _), (8, _), (9, _), (10, _)]) dX9_serve_129 (by decide) rfl ?_
    refine WP_iload dX9_serve_131 rfl ?_
    refine WQ_iconst (2) (2) dX9_serve_133 rfl rfl (fun v14576 hv14576 => ?_)
    refine WQ_ishr2 dX9_serve_134 hv14576 (by omega) (by omega) (fun v14577 hv14577 => ?_)
    refine WQ_iconst (3) (3) dX9_serve_135 rfl rfl (fun v14578 hv14578 => ?_)
    refine WQ_iand3 dX9_serve_136 hv14578 (by omega) (by omega) (fun v14579 hv14579 => ?_)
    refine WP_istore (ls' := [(0, _), (1, _), (2, _), (3, _), (4, _), (5, _), (6, _), (7, _), (8, _), (9, _), (10, _), (11, _)]) dX9_serve_137 (by decide) rfl ?_
    refine WP_aload_n dX9_serve_139 rfl ?_
    refine WP_aload_n dX9_serve_140 rfl ?_
    refine WP_getr dX9_serve_141 fX9_25 rfl (lyx_is hy 49 9 rfl) (rfx hrI14551 49 2 5 (by decide)) ?_
    refine WP_getr dX9_serve_144 fX9_49 rfl (lyx_is hy 5 0 rfl) ht_I14551 ?_
    refine WQ_geti dX9_serve_147 fX9_108 rfl (lyx_is hy 6 7 rfl) (BT_get hI14565.1 6 4 5 (-1) (0) (2) (by decide) 4 (by decide) (by decide)) (fun v14580 ev14580 av14580 bv14580 => ?_)
    refine WP_iload dX9_serve_150 rfl ?_
    refine WQ_iconst (4) (4) dX9_serve_152 rfl rfl (fun v14581 hv14581 => ?_)
    refine WQ_ishr4 dX9_serve_153 hv14581 (by omega) (by omega) (fun v14582 hv14582 => ?_)
    refine WP_iload dX9_serve_154 rfl ?_
    refine WP_iload_n dX9_serve_156 rfl ?_
    refine WP_callV4 (k := 9) dX9_serve_157 ⟨⟨⟨by decide, by decide⟩, zX9_buy⟩, lX9_104, by decide, rfl, vX9_buy.1, vX9_buy.2⟩ (lyx_is hy 49 9 rfl) (sx_buyf hy hrI14551 hI14565 v14580 v14582 v14429 da (by omega) (by omega) (by omega) (by omega) (by omega) (by omega) (by omega) (by omega)) (Nat.le_of_ble_eq_true rfl) ?_
    intro r I14583 J14584 Ra hq
    obtain ⟨⟨hI14583, ec, fiI14583, fjI14583⟩, v14585, rfl, av14585, bv14585, cv14585⟩ := hq
    show WP _ _ _ _ (.int _ :: _) _ _ _ _
    rw [ec]
    clear ec Ra
    have fr14586 : fz 74 g [43, 44, 47, 48, 50, 51, 52, 56, 58] I I14583 := fz_tr fr14568 (fz_mono fiI14583 (by decide))
    have fr14587 : fz 74 g [45, 46, 56] J J14584 := fz_tr fr14569 (fz_mono fjI14583 (by decide))
    have e14588 : I14583 (ad g 56) 1 = w14426 := by rw [fz_at fiI14583 56 (by decide) (by decide)]; exact e14570
    have e14589 : I14583 (ad g 50) 3 = w14560 := by rw [fz_at fiI14583 50 (by decide) (by decide)]; exact e14571
    have e14590 : I14583 (ad g 50) 4 = w14561 := by rw [fz_at fiI14583 50 (by decide) (by decide)]; exact e14572
    have e14591 : I14583 (ad g 50) 0 = v14562 := by rw [fz_at fiI14583 50 (by decide) (by decide)]; exact e14573
    have e14592 : I14583 (ad g 6) 4 = v14580 := by rw [fz_at fiI14583 6 (by decide) (by decide)]; exact ev14580
    have e14593 : I14583 (ad g 1) 1 = L := hI14583.2
    have b14594 := BT_get hI14583.1 1 1 2 (0) (0) (900) (by decide) 1 (by decide) (by decide)
    rw [e14593] at b14594
    refine WP_istore (ls' := [(0, _), (1, _), (2, _), (3, _), (4, _), (5, _), (6, _), (7, _), (8, _), (9, _), (10, _), (11, _), (12, _)]) dX9_serve_160 (by decide) rfl ?_
    refine WP_aload_n dX9_serve_162 rfl ?_
    refine WP_getr dX9_serve_163 fX9_12 rfl (lyx_is hy 49 9 rfl) (rfx hrI14551 49 0 50 (by decide)) ?_
    refine WP_iload dX9_serve_166 rfl ?_
    refine WP_iload dX9_serve_168 rfl ?_
    refine WP_callV2 (k := 6) dX9_serve_170 ⟨⟨⟨by decide, by decide⟩, zX6_priceOf⟩, lX9_111, by decide, rfl, vX6_priceOf.1, vX6_priceOf.2⟩ (lyx_is hy 50 6 rfl) (sx_pricex hy hrI14551 hI14583 v14567 v14585 (by omega) (by omega) (by omega) (by omega)) (Nat.le_of_ble_eq_true rfl) ?_
    intro r Ia Ja Ra hq
    obtain ⟨⟨ea, eb, ec⟩, v14595, rfl, av14595, bv14595, cv14595⟩ := hq
    show WP _ _ _ _ (.int _ :: _) _ _ _ _
    rw [ea, eb, ec]
    clear ea eb ec Ia Ja Ra
    rw [e14589] at cv14595
    rw [e14590] at cv14595
    have k1 : v14567.toInt * w14560.toInt ≤ (v14554.toInt % 4) * w14560.toInt := Int.mul_le_mul_of_nonneg_right (by omega) (by omega)
    have k2 : v14585.toInt * w14561.toInt ≤ (v14554.toInt / 16) * w14561.toInt := Int.mul_le_mul_of_nonneg_right (by omega) (by omega)
    have kp : v14595.toInt ≤ v14436.toInt := by omega
    refine WP_istore (ls' := [(0, _), (1, _), (2, _), (3, _), (4, _), (5, _), (6, _), (7, _), (8, _), (9, _), (10, _), (11, _), (12, _), (13, _)]) dX9_serve_173 (by decide) rfl ?_
    refine WP_aload_n dX9_serve_175 rfl ?_
    refine WP_dup dX9_serve_176 rfl ?_
    refine WQ_getiu dX9_serve_177 fX9_114 rfl (lyx_is hy 56 4 rfl) (fun v14596 ev14596 => ?_)
    refine WP_iload dX9_serve_180 rfl ?_
    refine WP_iload dX9_serve_182 rfl ?_
    refine WP_iload dX9_serve_184 rfl ?_
    refine WQ_iadd dX9_serve_186 (by omega) (by omega) (fun v14597 hv14597 => ?_)
    refine WQ_imulb (99) (6) dX9_serve_187 ⟨by omega, by omega⟩ ⟨by omega, by omega⟩ (by decide) (fun v14598 pv14598 av14598 bv14598 cv14598 => ?_)
    refine WQ_iaddu dX9_serve_188 (fun v14599 => ?_)
    refine WQ_puti dX9_serve_189 fX9_114 rfl rfl (lyx_is hy 56 4 rfl) (fun I14600 eI14600 => ?_)
    have hI14600 : XI g n L I14600 := by rw [eI14600]; exact (xi_f0 hy hI14583 (c := 56) (by decide) (Or.inl (by decide)) (by decide))
    have e14601 : I14600 (ad g 56) 1 = w14426 := by rw [eI14600, pp_ne _ _ (Or.inr (by decide))]; exact e14588
    have e14602 : I14600 (ad g 50) 3 = w14560 := by rw [eI14600, pp_ne _ _ (Or.inl (lyx_ne hy (by decide) (by decide) (by decide)))]; exact e14589
    have e14603 : I14600 (ad g 50) 4 = w14561 := by rw [eI14600, pp_ne _ _ (Or.inl (lyx_ne hy (by decide) (by decide) (by decide)))]; exact e14590
    have e14604 : I14600 (ad g 50) 0 = v14562 := by rw [eI14600, pp_ne _ _ (Or.inl (lyx_ne hy (by decide) (by decide) (by decide)))]; exact e14591
    have e14605 : I14600 (ad g 6) 4 = v14580 := by rw [eI14600, pp_ne _ _ (Or.inl (lyx_ne hy (by decide) (by decide) (by decide)))]; exact e14592
    have e14606 : I14600 (ad g 1) 1 = L := by rw [eI14600, pp_ne _ _ (Or.inl (lyx_ne hy (by decide) (by decide) (by decide)))]; exact e14593
    have e14607 : I14600 (ad g 56) 2 = v14599 := by rw [eI14600, pp_self]
    have fr14608 : fz 74 g [43, 44, 47, 48, 50, 51, 52, 56, 58] I I14600 := by rw [eI14600]; exact fzx_pp hy fr14586 (by decide) (by decide)
    clear eI14600
    refine WP_aload_n dX9_serve_192 rfl ?_
    refine WP_dup dX9_serve_193 rfl ?_
    refine WQ_getl dX9_serve_194 fX9_117 rfl (lyx_is hy 56 4 rfl) (fun l14609 el14609 => ?_)
    refine WP_iload dX9_serve_197 rfl ?_
    refine WP_iload dX9_serve_199 rfl ?_
    refine WP_iload dX9_serve_201 rfl ?_
    refine WQ_isub dX9_serve_203 (by omega) (by omega) (fun v14610 hv14610 => ?_)
    refine WQ_imulu dX9_serve_204 (fun v14611 => ?_)
    refine WQ_i2l dX9_serve_205 (fun l14612 hl14612 => ?_)
    refine WQ_ladd dX9_serve_206 (fun l14613 => ?_)
    refine WQ_putl dX9_serve_207 fX9_117 rfl rfl (lyx_is hy 56 4 rfl) (fun J14614 eJ14614 => ?_)
    have fr14615 : fz 74 g [45, 46, 56] J J14614 := by rw [eJ14614]; exact fzx_pp hy fr14587 (by decide) (by decide)
    clear eJ14614
    refine WP_aload_n dX9_serve_210 rfl ?_
    refine WP_getr dX9_serve_211 fX9_75 rfl (lyx_is hy 56 4 rfl) (rfx hrI14551 56 5 58 (by decide)) ?_
    refine WP_iload dX9_serve_214 rfl ?_
    refine WQ_iconst (2) (2) dX9_serve_216 rfl rfl (fun v14616 hv14616 => ?_)
    refine WQ_iadd dX9_serve_217 (by omega) (by omega) (fun v14617 hv14617 => ?_)
    refine WP_dup2 dX9_serve_218 rfl rfl ?_
    refine WQ_ialdu dX9_serve_219 (lyx_is hy 58 13 rfl) (lyx_n hy 58 28 rfl) (by omega) (by omega) (fun v14618 => ?_)
    refine WP_iload dX9_serve_220 rfl ?_
    refine WP_iload dX9_serve_222 rfl ?_
    refine WQ_imulb (99) (60) dX9_serve_224 ⟨by omega, by omega⟩ ⟨by omega, by omega⟩ (by decide) (fun v14619 pv14619 av14619 bv14619 cv14619 => ?_)
    refine WQ_iaddu dX9_serve_225 (fun v14620 => ?_)
    refine WQ_iast dX9_serve_226 (lyx_is hy 58 13 rfl) (lyx_n hy 58 28 rfl) (by omega) (by omega) (fun I14621 eI14621 => ?_)
    have hI14621 : XI g n L I14621 := by rw [eI14621]; exact (fa_put hy hI14600 (c := 58) (k := 2) (s := so.toInt.toNat) (by decide) (by omega) (by decide) (by rw [cl (n := 7 * so.toInt.toNat + 2) (by omega)]) (fun h => absurd h (by decide)) (fun h => absurd h (by decide)))
    have e14622 : I14621 (ad g 56) 1 = w14426 := by rw [eI14621, pp_ne _ _ (Or.inl (lyx_ne hy (by decide) (by decide) (by decide)))]; exact e14601
    have e14623 : I14621 (ad g 50) 3 = w14560 := by rw [eI14621, pp_ne _ _ (Or.inl (lyx_ne hy (by decide) (by decide) (by decide)))]; exact e14602
    have e14624 : I14621 (ad g 50) 4 = w14561 := by rw [eI14621, pp_ne _ _ (Or.inl (lyx_ne hy (by decide) (by decide) (by decide)))]; exact e14603
    have e14625 : I14621 (ad g 50) 0 = v14562 := by rw [eI14621, pp_ne _ _ (Or.inl (lyx_ne hy (by decide) (by decide) (by decide)))]; exact e14604
    have e14626 : I14621 (ad g 6) 4 = v14580 := by rw [eI14621, pp_ne _ _ (Or.inl (lyx_ne hy (by decide) (by decide) (by decide)))]; exact e14605
    have e14627 : I14621 (ad g 1) 1 = L := by rw [eI14621, pp_ne _ _ (Or.inl (lyx_ne hy (by decide) (by decide) (by decide)))]; exact e14606
    have e14628 : I14621 (ad g 56) 2 = v14599 := by rw [eI14621, pp_ne _ _ (Or.inl (lyx_ne hy (by decide) (by decide) (by decide)))]; exact e14607
    have fr14629 : fz 74 g [43, 44, 47, 48, 50, 51, 52, 56, 58] I I14621 := by rw [eI14621]; exact fzx_pp hy fr14608 (by decide) (by decide)
    clear eI14621
    refine WP_aload_n dX9_serve_227 rfl ?_
    refine WP_getr dX9_serve_228 fX9_75 rfl (lyx_is hy 56 4 rfl) (rfx hrI14551 56 5 58 (by decide)) ?_
    refine WP_iload dX9_serve_231 rfl ?_
    refine WQ_iconst (4) (4) dX9_serve_233 rfl rfl (fun v14630 hv14630 => ?_)
    refine WQ_iadd dX9_serve_234 (by omega) (by omega) (fun v14631 hv14631 => ?_)
    refine WP_dup2 dX9_serve_235 rfl rfl ?_
    refine WQ_ialdu dX9_serve_236 (lyx_is hy 58 13 rfl) (lyx_n hy 58 28 rfl) (by omega) (by omega) (fun v14632 => ?_)
    refine WP_iload dX9_serve_237 rfl ?_
    refine WP_aload_n dX9_serve_239 rfl ?_
    refine WP_getr dX9_serve_240 fX9_12 rfl (lyx_is hy 49 9 rfl) (rfx hrI14551 49 0 50 (by decide)) ?_
    refine WQ_geti dX9_serve_243 fX9_121 rfl (lyx_is hy 50 6 rfl) (BT_get hI14621.1 50 2 3 (0) (0) (99) (by decide) 2 (by decide) (by decide)) (fun v14633 ev14633 av14633 bv14633 => ?_)
    refine WQ_imulb (99) (99) dX9_serve_246 ⟨by omega, by omega⟩ ⟨by omega, by omega⟩ (by decide) (fun v14634 pv14634 av14634 bv14634 cv14634 => ?_)
    refine WP_iload dX9_serve_247 rfl ?_
    refine WP_iload dX9_serve_249 rfl ?_
    refine WQ_iadd dX9_serve_251 (by omega) (by omega) (fun v14635 hv14635 => ?_)
    refine WQ_imulb (9801) (6) dX9_serve_252 ⟨by omega, by omega⟩ ⟨by omega, by omega⟩ (by decide) (fun v14636 pv14636 av14636 bv14636 cv14636 => ?_)
    refine WQ_iaddu dX9_serve_253 (fun v14637 => ?_)
    refine WQ_iast dX9_serve_254 (lyx_is hy 58 13 rfl) (lyx_n hy 58 28 rfl) (by omega) (by omega) (fun I14638 eI14638 => ?_)
    have hI14638 : XI g n L I14638 := by rw [eI14638]; exact (fa_put hy hI14621 (c := 58) (k := 4) (s := so.toInt.toNat) (by decide) (by omega) (by decide) (by rw [cl (n := 7 * so.toInt.toNat + 4) (by omega)]) (fun h => absurd h (by decide)) (fun h => absurd h (by decide)))
    have e14639 : I14638 (ad g 56) 1 = w14426 := by rw [eI14638, pp_ne _ _ (Or.inl (lyx_ne hy (by decide) (by decide) (by decide)))]; exact e14622
    have e14640 : I14638 (ad g 50) 3 = w14560 := by rw [eI14638, pp_ne _ _ (Or.inl (lyx_ne hy (by decide) (by decide) (by decide)))]; exact e14623
    have e14641 : I14638 (ad g 50) 4 = w14561 := by rw [eI14638, pp_ne _ _ (Or.inl (lyx_ne hy (by decide) (by decide) (by decide)))]; exact e14624
    have e14642 : I14638 (ad g 50) 0 = v14562 := by rw [eI14638, pp_ne _ _ (Or.inl (lyx_ne hy (by decide) (by decide) (by decide)))]; exact e14625
    have e14643 : I14638 (ad g 6) 4 = v14580 := by rw [eI14638, pp_ne _ _ (Or.inl (lyx_ne hy (by decide) (by decide) (by decide)))]; exact e14626
    have e14644 : I14638 (ad g 1) 1 = L := by rw [eI14638, pp_ne _ _ (Or.inl (lyx_ne hy (by decide) (by decide) (by decide)))]; exact e14627
    have e14645 : I14638 (ad g 56) 2 = v14599 := by rw [eI14638, pp_ne _ _ (Or.inl (lyx_ne hy (by decide) (by decide) (by decide)))]; exact e14628
    have e14646 : I14638 (ad g 50) 2 = v14633 := by rw [eI14638, pp_ne _ _ (Or.inl (lyx_ne hy (by decide) (by decide) (by decide)))]; exact ev14633
    have fr14647 : fz 74 g [43, 44, 47, 48, 50, 51, 52, 56, 58] I I14638 := by rw [eI14638]; exact fzx_pp hy fr14629 (by decide) (by decide)
    clear eI14638
    refine WP_aload_n dX9_serve_255 rfl ?_
    refine WP_aload_n dX9_serve_256 rfl ?_
    refine WP_iload_n dX9_serve_257 rfl ?_
    refine WP_iload_n dX9_serve_258 rfl ?_
    refine WP_iload dX9_serve_259 rfl ?_
    refine WP_iload dX9_serve_261 rfl ?_
    refine WQ_isub dX9_serve_263 (by omega) (by omega) (fun v14648 hv14648 => ?_)
    refine WP_iload dX9_serve_264 rfl ?_
    refine WP_iload dX9_serve_266 rfl ?_
    refine WQ_isub dX9_serve_268 (by omega) (by omega) (fun v14649 hv14649 => ?_)
    refine WP_iload dX9_serve_269 rfl ?_
    refine WQ_iadd dX9_serve_271 (by omega) (by omega) (fun v14650 hv14650 => ?_)
    refine WP_callV5 (k := 9) dX9_serve_272 ⟨⟨⟨by decide, by decide⟩, zX9_sleep⟩, lX9_124, by decide, rfl, vX9_sleep.1, vX9_sleep.2⟩ (lyx_is hy 49 9 rfl) (sx_wsleepf_56_6 hy hrI14551 ht_I14551 hI14638 so da v14648 v14650 (by omega) (by omega) (by omega) (by omega) (by omega) (by omega) (by omega) (by omega) (by omega) (by rw [e14639]; omega)) (Nat.le_of_ble_eq_true rfl) ?_
    intro r I14651 J14652 Ra hq
    obtain ⟨⟨hI14651, ec, fiI14651, fjI14651, pI14651⟩, rfl⟩ := hq
    rw [ec]
    clear ec Ra
    have fr14653 : fz 74 g [43, 44, 47, 48, 50, 51, 52, 56, 58] I I14651 := fz_tr fr14647 (fz_mono fiI14651 (by decide))
    have fr14654 : fz 74 g [45, 46, 56] J J14652 := fz_tr fr14615 (fz_mono fjI14651 (by decide))
    have e14655 : I14651 (ad g 50) 3 = w14560 := by rw [fz_at fiI14651 50 (by decide) (by decide)]; exact e14640
    have e14656 : I14651 (ad g 50) 4 = w14561 := by rw [fz_at fiI14651 50 (by decide) (by decide)]; exact e14641
    have e14657 : I14651 (ad g 50) 0 = v14562 := by rw [fz_at fiI14651 50 (by decide) (by decide)]; exact e14642
    have e14658 : I14651 (ad g 6) 4 = v14580 := by rw [fz_at fiI14651 6 (by decide) (by decide)]; exact e14643
    have e14659 : I14651 (ad g 50) 2 = v14633 := by rw [fz_at fiI14651 50 (by decide) (by decide)]; exact e14646
    have e14660 : I14651 (ad g 1) 1 = L := hI14651.2
    have b14661 := BT_get hI14651.1 1 1 2 (0) (0) (900) (by decide) 1 (by decide) (by decide)
    rw [e14660] at b14661
    obtain ⟨w14662, ew14662⟩ : ∃ w : Int32, I14651 (ad g 56) 1 = w := ⟨_, rfl⟩
    have bw14662 := BT_get hI14651.1 56 1 2 (0) (23760) (700000) (by decide) 1 (by decide) (by decide)
    rw [ew14662] at bw14662
    rw [ew14662, e14639] at pI14651
    exact WP_vret dX9_serve_275 rfl ⟨⟨hI14651, ⟨hrI14551, ⟨ht_I14551.trans hT.symm, hs_I14551⟩, hpI14551⟩, fr14653, fr14654, (by rw [ew14662, ew14426]; omega)⟩, rfl⟩
set_option maxHeartbeats 4000000 in
set_option maxRecDepth 100000 in
theorem sx_serve_56_27 {g : GG} {n : Int} {L : Int32} (hy : LyX g)  {I : pI} {J : pJ} {R : pR} (hr : RfX g R) (hP : NL g R) (hT : R (ad g 5) 0 = some (ad g 27)) (hI : XI g n L I) (so : Int32) (da : Int32) (so_lo : 0 ≤ so.toInt) (so_hi : so.toInt ≤ 3) (da_lo : 0 ≤ da.toInt) (da_hi : da.toInt ≤ 6) (hn : 0 ≤ n ∧ n ≤ 40000) (hb : (I (ad g 56) 1).toInt ≤ 23760 * n + 700000 - 5940) : SP g mX9_serve [.ref (ad g 49), .ref (ad g 56), .int so, .int da] I J R (fun r I' J' R' => (XI g n L I' ∧ (RfX g R' ∧ (R' (ad g 5) 0 = R (ad g 5) 0 ∧ R' (ad g 0) 10 = R (ad g 0) 10) ∧ NL g R') ∧ fz 74 g [43, 44, 47, 48, 50, 51, 52, 56, 58] I I' ∧ fz 74 g [45, 46, 56] J J' ∧ (I' (ad g 56) 1).toInt ≤ (I (ad g 56) 1).toInt + 5940) ∧ r = none) := by
  refine SP_of ⟨by decide, rfl⟩ (Nat.le_of_ble_eq_true rfl) ?_
  have e14663 : I (ad g 1) 1 = L := hI.2
  have b14664 := BT_get hI.1 1 1 2 (0) (0) (900) (by decide) 1 (by decide) (by decide)
  rw [e14663] at b14664
  have fr0 : fz 74 g [43, 44, 47, 48, 50, 51, 52, 56, 58] I I := fz_rf
  have frj0 : fz 74 g [45, 46, 56] J J := fz_rf
  obtain ⟨w14665, ew14665⟩ : ∃ w : Int32, I (ad g 56) 1 = w := ⟨_, rfl⟩
  have bw14665 := BT_get hI.1 56 1 2 (0) (23760) (700000) (by decide) 1 (by decide) (by decide)
  rw [ew14665] at bw14665
  rw [ew14665] at hb
  refine WP_iload_n dX9_serve_0 rfl ?_
  refine WQ_bipush (7) (7) dX9_serve_1 rfl rfl (fun v14666 hv14666 => ?_)
  refine WQ_imulk (7) dX9_serve_3 hv14666 (by omega) (by omega) (fun v14667 hv14667 => ?_)
  refine WP_istore (ls' := [(0, _), (1, _), (2, _), (3, _), (4, _)]) dX9_serve_4 (by decide) rfl ?_
  refine WP_aload_n dX9_serve_6 rfl ?_
  refine WP_getr dX9_serve_7 fX9_25 rfl (lyx_is hy 49 9 rfl) (rfx hr 49 2 5 (by decide)) ?_
  refine WP_getr dX9_serve_10 fX9_49 rfl (lyx_is hy 5 0 rfl) hT ?_
  refine WP_getr dX9_serve_13 fX9_71 rfl (lyx_is hy 27 7 rfl) (rfx hr 27 6 29 (by decide)) ?_
  refine WP_iload_n dX9_serve_16 rfl ?_
  refine WQ_iald dX9_serve_17 (lyx_is hy 29 13 rfl) (lyx_n hy 29 4 rfl) (by omega) (by omega) (fun q hq => BT_get hI.1 29 0 4 (0) (0) (99) (by decide) q (Nat.zero_le _) hq) (fun v14668 av14668 bv14668 ev14668 => ?_)
  clear ev14668
  refine WP_istore (ls' := [(0, _), (1, _), (2, _), (3, _), (4, _), (5, _)]) dX9_serve_18 (by decide) rfl ?_
  refine WP_aload_n dX9_serve_20 rfl ?_
  refine WP_getr dX9_serve_21 fX9_75 rfl (lyx_is hy 56 4 rfl) (rfx hr 56 5 58 (by decide)) ?_
  refine WP_iload dX9_serve_24 rfl ?_
  refine WQ_iconst (1) (1) dX9_serve_26 rfl rfl (fun v14669 hv14669 => ?_)
  refine WQ_iadd dX9_serve_27 (by omega) (by omega) (fun v14670 hv14670 => ?_)
  refine WQ_ialdf (q := 7 * so.toInt.toNat + 1) dX9_serve_28 (lyx_is hy 58 13 rfl) (lyx_n hy 58 28 rfl) (by omega) (by omega) (by omega) (fa_get1 hI (c := 58) (by decide) (by omega)) (fun v14671 av14671 bv14671 => ?_)
  refine WP_istore (ls' := [(0, _), (1, _), (2, _), (3, _), (4, _), (5, _), (6, _)]) dX9_serve_29 (by decide) rfl ?_
  refine WP_aload_n dX9_serve_31 rfl ?_
  refine WP_getr dX9_serve_32 fX9_25 rfl (lyx_is hy 49 9 rfl) (rfx hr 49 2 5 (by decide)) ?_
  refine WP_iload_n dX9_serve_35 rfl ?_
  refine WP_iload_n dX9_serve_36 rfl ?_
  refine WP_aload_n dX9_serve_37 rfl ?_
  refine WP_getr dX9_serve_38 fX9_75 rfl (lyx_is hy 56 4 rfl) (rfx hr 56 5 58 (by decide)) ?_
  refine WP_iload dX9_serve_41 rfl ?_
  refine WQ_iconst (0) (0) dX9_serve_43 rfl rfl (fun v14672 hv14672 => ?_)
  refine WQ_iadd dX9_serve_44 (by omega) (by omega) (fun v14673 hv14673 => ?_)
  refine WQ_ialdf (q := 7 * so.toInt.toNat) dX9_serve_45 (lyx_is hy 58 13 rfl) (lyx_n hy 58 28 rfl) (by omega) (by omega) (by omega) (fa_get0 hI (c := 58) (by decide) (by omega)) (fun v14674 av14674 bv14674 => ?_)
  refine WP_callV3 (k := 0) dX9_serve_46 ⟨⟨⟨by decide, by decide⟩, zX0_earned⟩, lX9_81, by decide, rfl, vX0_earned.1, vX0_earned.2⟩ (lyx_is hy 5 0 rfl) (sx_earned_27 hy hr hT hI so da v14674 (by omega) (by omega) (by omega) (by omega) (by omega) (by omega)) (Nat.le_of_ble_eq_true rfl) ?_
  intro r Ia Ja Ra hq
  obtain ⟨⟨ea, eb, ec⟩, v14675, rfl, av14675, bv14675, cv14675⟩ := hq
  show WP _ _ _ _ (.int _ :: _) _ _ _ _
  rw [ea, eb, ec]
  clear ea eb ec Ia Ja Ra
  refine WP_istore (ls' := [(0, _), (1, _), (2, _), (3, _), (4, _), (5, _), (6, _), (7, _)]) dX9_serve_49 (by decide) rfl ?_
  refine WP_aload_n dX9_serve_51 rfl ?_
  refine WP_getr dX9_serve_52 fX9_85 rfl (lyx_is hy 56 4 rfl) (rfx hr 56 4 57 (by decide)) ?_
  refine WP_iload_n dX9_serve_55 rfl ?_
  refine WQ_ialdu dX9_serve_56 (lyx_is hy 57 13 rfl) (lyx_n hy 57 4 rfl) (by omega) (by omega) (fun v14676 => ?_)
  refine WP_istore (ls' := [(0, _), (1, _), (2, _), (3, _), (4, _), (5, _), (6, _), (7, _), (8, _)]) dX9_serve_57 (by decide) rfl ?_
  refine WP_aload_n dX9_serve_59 rfl ?_
  refine WP_getr dX9_serve_60 fX9_12 rfl (lyx_is hy 49 9 rfl) (rfx hr 49 0 50 (by decide)) ?_
  refine WP_aload_n dX9_serve_63 rfl ?_
  refine WP_getr dX9_serve_64 fX9_25 rfl (lyx_is hy 49 9 rfl) (rfx hr 49 2 5 (by decide)) ?_
  refine WP_iload_n dX9_serve_67 rfl ?_
  refine WP_iload_n dX9_serve_68 rfl ?_
  refine WP_callV3 (k := 6) dX9_serve_69 ⟨⟨⟨by decide, by decide⟩, zX6_load⟩, lX9_88, by decide, rfl, vX6_load.1, vX6_load.2⟩ (lyx_is hy 50 6 rfl) (sx_loadx_50_27 hy hr hT hI so da (by omega) (by omega) (by omega) (by omega)) (Nat.le_of_ble_eq_true rfl) ?_
  intro r I14677 J14678 Ra hq
  obtain ⟨⟨hI14677, ec, fiI14677, ejI14677, pI14677⟩, rfl⟩ := hq
  rw [ec]
  clear ec Ra
  have fr14679 : fz 74 g [43, 44, 47, 48, 50, 51, 52, 56, 58] I I14677 := fz_tr fr0 (fz_mono fiI14677 (by decide))
  rw [ejI14677]
  clear ejI14677 J14678
  have e14680 : I14677 (ad g 56) 1 = w14665 := by rw [fz_at fiI14677 56 (by decide) (by decide)]; exact ew14665
  have e14681 : I14677 (ad g 1) 1 = L := hI14677.2
  have b14682 := BT_get hI14677.1 1 1 2 (0) (0) (900) (by decide) 1 (by decide) (by decide)
  rw [e14681] at b14682
  refine WP_iload dX9_serve_72 rfl ?_
  refine WQ_iconst (3) (3) dX9_serve_74 rfl rfl (fun v14683 hv14683 => ?_)
  refine WQ_icmp_ne 96 dX9_serve_75 rfl (fun c14683 => ?_) (fun c14683 => ?_)
  · refine WP_aload_n dX9_serve_96 rfl ?_
    refine WP_getr dX9_serve_97 fX9_12 rfl (lyx_is hy 49 9 rfl) (rfx hr 49 0 50 (by decide)) ?_
    refine WP_iload dX9_serve_100 rfl ?_
    refine WP_iload dX9_serve_102 rfl ?_
    refine WP_iload dX9_serve_104 rfl ?_
    refine WP_callV3 (k := 6) dX9_serve_106 ⟨⟨⟨by decide, by decide⟩, zX6_habit⟩, lX9_98, by decide, rfl, vX6_habit.1, vX6_habit.2⟩ (lyx_is hy 50 6 rfl) (sx_habita hy hr hI14677 v14676 v14675 v14671  (by omega) (by omega) (by omega) (by omega)) (Nat.le_of_ble_eq_true rfl) ?_
    intro r Ia Ja Ra hq
    obtain ⟨⟨ea, eb, ec⟩, v14685, rfl, av14685, bv14685, cv14685⟩ := hq
    show WP _ _ _ _ (.int _ :: _) _ _ _ _
    rw [ea, eb, ec]
    clear ea eb ec Ia Ja Ra
    have acv14685 : AOKd (I14677 (ad g 50)) v14675.toInt v14671.toInt v14685.toInt := by unfold AOKd; exact ⟨by omega, by omega, cv14685.1, cv14685.2.1, cv14685.2.2⟩
    obtain ⟨w14686, ew14686⟩ : ∃ w : Int32, I14677 (ad g 50) 3 = w := ⟨_, rfl⟩
    have bw14686 := BT_get hI14677.1 50 3 4 (0) (0) (20) (by decide) 3 (by decide) (by decide)
    rw [ew14686] at bw14686
    obtain ⟨w14687, ew14687⟩ : ∃ w : Int32, I14677 (ad g 50) 4 = w := ⟨_, rfl⟩
    have bw14687 := BT_get hI14677.1 50 4 5 (0) (0) (20) (by decide) 4 (by decide) (by decide)
    rw [ew14687] at bw14687
    have adv14685 := acv14685
    unfold AOKd at adv14685
    rw [ew14686, ew14687] at adv14685
    obtain ⟨rav14685, rbv14685, rcv14685, rdv14685, rev14685⟩ := adv14685
    refine WP_istore (ls' := [(0, _), (1, _), (2, _), (3, _), (4, _), (5, _), (6, _), (7, _), (8, _), (9, _)]) dX9_serve_109 (by decide) rfl ?_
    refine WP_aload_n dX9_serve_111 rfl ?_
    refine WP_aload_n dX9_serve_112 rfl ?_
    refine WP_getr dX9_serve_113 fX9_12 rfl (lyx_is hy 49 9 rfl) (rfx hr 49 0 50 (by decide)) ?_
    refine WQ_geti dX9_serve_116 fX9_101 rfl (lyx_is hy 50 6 rfl) (BT_get hI14677.1 50 0 1 (-1) (0) (2) (by decide) 0 (by decide) (by decide)) (fun v14688 ev14688 av14688 bv14688 => ?_)
    refine WP_iload dX9_serve_119 rfl ?_
    refine WQ_iconst (3) (3) dX9_serve_121 rfl rfl (fun v14689 hv14689 => ?_)
    refine WQ_iand3 dX9_serve_122 hv14689 (by omega) (by omega) (fun v14690 hv14690 => ?_)
    refine WP_iload dX9_serve_123 rfl ?_
    refine WP_iload_n dX9_serve_125 rfl ?_
    refine WP_callV4 (k := 9) dX9_serve_126 ⟨⟨⟨by decide, by decide⟩, zX9_buy⟩, lX9_104, by decide, rfl, vX9_buy.1, vX9_buy.2⟩ (lyx_is hy 49 9 rfl) (sx_buyf hy hr hI14677 v14688 v14690 v14668 da (by omega) (by omega) (by omega) (by omega) (by omega) (by omega) (by omega) (by omega)) (Nat.le_of_ble_eq_true rfl) ?_
    intro r I14691 J14692 Ra hq
    obtain ⟨⟨hI14691, ec, fiI14691, fjI14691⟩, v14693, rfl, av14693, bv14693, cv14693⟩ := hq
    show WP _ _ _ _ (.int _ :: _) _ _ _ _
    rw [ec]
    clear ec Ra
    have fr14694 : fz 74 g [43, 44, 47, 48, 50, 51, 52, 56, 58] I I14691 := fz_tr fr14679 (fz_mono fiI14691 (by decide))
    have fr14695 : fz 74 g [45, 46, 56] J J14692 := fz_tr frj0 (fz_mono fjI14691 (by decide))
    have e14696 : I14691 (ad g 56) 1 = w14665 := by rw [fz_at fiI14691 56 (by decide) (by decide)]; exact e14680
    have e14697 : I14691 (ad g 50) 3 = w14686 := by rw [fz_at fiI14691 50 (by decide) (by decide)]; exact ew14686
    have e14698 : I14691 (ad g 50) 4 = w14687 := by rw [fz_at fiI14691 50 (by decide) (by decide)]; exact ew14687
    have e14699 : I14691 (ad g 50) 0 = v14688 := by rw [fz_at fiI14691 50 (by decide) (by decide)]; exact ev14688
    have e14700 : I14691 (ad g 1) 1 = L := hI14691.2
    have b14701 := BT_get hI14691.1 1 1 2 (0) (0) (900) (by decide) 1 (by decide) (by decide)
    rw [e14700] at b14701
    refine WP_istore (ls' := [(0, _), (1, _), (2, _), (3, _), (4, _), (5, _), (6, _), (7, _), (8, _), (9, _), (10, _)]) dX9_serve_129 (by decide) rfl ?_
    refine WP_iload dX9_serve_131 rfl ?_
    refine WQ_iconst (2) (2) dX9_serve_133 rfl rfl (fun v14702 hv14702 => ?_)
    refine WQ_ishr2 dX9_serve_134 hv14702 (by omega) (by omega) (fun v14703 hv14703 => ?_)
    refine WQ_iconst (3) (3) dX9_serve_135 rfl rfl (fun v14704 hv14704 => ?_)
    refine WQ_iand3 dX9_serve_136 hv14704 (by omega) (by omega) (fun v14705 hv14705 => ?_)
    refine WP_istore (ls' := [(0, _), (1, _), (2, _), (3, _), (4, _), (5, _), (6, _), (7, _), (8, _), (9, _), (10, _), (11, _)]) dX9_serve_137 (by decide) rfl ?_
    refine WP_aload_n dX9_serve_139 rfl ?_
    refine WP_aload_n dX9_serve_140 rfl ?_
    refine WP_getr dX9_serve_141 fX9_25 rfl (lyx_is hy 49 9 rfl) (rfx hr 49 2 5 (by decide)) ?_
    refine WP_getr dX9_serve_144 fX9_49 rfl (lyx_is hy 5 0 rfl) hT ?_
    refine WQ_geti dX9_serve_147 fX9_108 rfl (lyx_is hy 27 7 rfl) (BT_get hI14691.1 27 4 5 (-1) (0) (2) (by decide) 4 (by decide) (by decide)) (fun v14706 ev14706 av14706 bv14706 => ?_)
    refine WP_iload dX9_serve_150 rfl ?_
    refine WQ_iconst (4) (4) dX9_serve_152 rfl rfl (fun v14707 hv14707 => ?_)
    refine WQ_ishr4 dX9_serve_153 hv14707 (by omega) (by omega) (fun v14708 hv14708 => ?_)
    refine WP_iload dX9_serve_154 rfl ?_
    refine WP_iload_n dX9_serve_156 rfl ?_
    refine WP_callV4 (k := 9) dX9_serve_157 ⟨⟨⟨by decide, by decide⟩, zX9_buy⟩, lX9_104, by decide, rfl, vX9_buy.1, vX9_buy.2⟩ (lyx_is hy 49 9 rfl) (sx_buyf hy hr hI14691 v14706 v14708 v14668 da (by omega) (by omega) (by omega) (by omega) (by omega) (by omega) (by omega) (by omega)) (Nat.le_of_ble_eq_true rfl) ?_
    intro r I14709 J14710 Ra hq
    obtain ⟨⟨hI14709, ec, fiI14709, fjI14709⟩, v14711, rfl, av14711, bv14711, cv14711⟩ := hq
    show WP _ _ _ _ (.int _ :: _) _ _ _ _
    rw [ec]
    clear ec Ra
    have fr14712 : fz 74 g [43, 44, 47, 48, 50, 51, 52, 56, 58] I I14709 := fz_tr fr14694 (fz_mono fiI14709 (by decide))
    have fr14713 : fz 74 g [45, 46, 56] J J14710 := fz_tr fr14695 (fz_mono fjI14709 (by decide))
    have e14714 : I14709 (ad g 56) 1 = w14665 := by rw [fz_at fiI14709 56 (by decide) (by decide)]; exact e14696
    have e14715 : I14709 (ad g 50) 3 = w14686 := by rw [fz_at fiI14709 50 (by decide) (by decide)]; exact e14697
    have e14716 : I14709 (ad g 50) 4 = w14687 := by rw [fz_at fiI14709 50 (by decide) (by decide)]; exact e14698
    have e14717 : I14709 (ad g 50) 0 = v14688 := by rw [fz_at fiI14709 50 (by decide) (by decide)]; exact e14699
    have e14718 : I14709 (ad g 27) 4 = v14706 := by rw [fz_at fiI14709 27 (by decide) (by decide)]; exact ev14706
    have e14719 : I14709 (ad g 1) 1 = L := hI14709.2
    have b14720 := BT_get hI14709.1 1 1 2 (0) (0) (900) (by decide) 1 (by decide) (by decide)
    rw [e14719] at b14720
    refine WP_istore (ls' := [(0, _), (1, _), (2, _), (3, _), (4, _), (5, _), (6, _), (7, _), (8, _), (9, _), (10, _), (11, _), (12, _)]) dX9_serve_160 (by decide) rfl ?_
    refine WP_aload_n dX9_serve_162 rfl ?_
    refine WP_getr dX9_serve_163 fX9_12 rfl (lyx_is hy 49 9 rfl) (rfx hr 49 0 50 (by decide)) ?_
    refine WP_iload dX9_serve_166 rfl ?_
    refine WP_iload dX9_serve_168 rfl ?_
    refine WP_callV2 (k := 6) dX9_serve_170 ⟨⟨⟨by decide, by decide⟩, zX6_priceOf⟩, lX9_111, by decide, rfl, vX6_priceOf.1, vX6_priceOf.2⟩ (lyx_is hy 50 6 rfl) (sx_pricex hy hr hI14709 v14693 v14711 (by omega) (by omega) (by omega) (by omega)) (Nat.le_of_ble_eq_true rfl) ?_
    intro r Ia Ja Ra hq
    obtain ⟨⟨ea, eb, ec⟩, v14721, rfl, av14721, bv14721, cv14721⟩ := hq
    show WP _ _ _ _ (.int _ :: _) _ _ _ _
    rw [ea, eb, ec]
    clear ea eb ec Ia Ja Ra
    rw [e14715] at cv14721
    rw [e14716] at cv14721
    have k1 : v14693.toInt * w14686.toInt ≤ (v14685.toInt % 4) * w14686.toInt := Int.mul_le_mul_of_nonneg_right (by omega) (by omega)
    have k2 : v14711.toInt * w14687.toInt ≤ (v14685.toInt / 16) * w14687.toInt := Int.mul_le_mul_of_nonneg_right (by omega) (by omega)
    have kp : v14721.toInt ≤ v14675.toInt := by omega
    refine WP_istore (ls' := [(0, _), (1, _), (2, _), (3, _), (4, _), (5, _), (6, _), (7, _), (8, _), (9, _), (10, _), (11, _), (12, _), (13, _)]) dX9_serve_173 (by decide) rfl ?_
    refine WP_aload_n dX9_serve_175 rfl ?_
    refine WP_dup dX9_serve_176 rfl ?_
    refine WQ_getiu dX9_serve_177 fX9_114 rfl (lyx_is hy 56 4 rfl) (fun v14722 ev14722 => ?_)
    refine WP_iload dX9_serve_180 rfl ?_
    refine WP_iload dX9_serve_182 rfl ?_
    refine WP_iload dX9_serve_184 rfl ?_
    refine WQ_iadd dX9_serve_186 (by omega) (by omega) (fun v14723 hv14723 => ?_)
    refine WQ_imulb (99) (6) dX9_serve_187 ⟨by omega, by omega⟩ ⟨by omega, by omega⟩ (by decide) (fun v14724 pv14724 av14724 bv14724 cv14724 => ?_)
    refine WQ_iaddu dX9_serve_188 (fun v14725 => ?_)
    refine WQ_puti dX9_serve_189 fX9_114 rfl rfl (lyx_is hy 56 4 rfl) (fun I14726 eI14726 => ?_)
    have hI14726 : XI g n L I14726 := by rw [eI14726]; exact (xi_f0 hy hI14709 (c := 56) (by decide) (Or.inl (by decide)) (by decide))
    have e14727 : I14726 (ad g 56) 1 = w14665 := by rw [eI14726, pp_ne _ _ (Or.inr (by decide))]; exact e14714
    have e14728 : I14726 (ad g 50) 3 = w14686 := by rw [eI14726, pp_ne _ _ (Or.inl (lyx_ne hy (by decide) (by decide) (by decide)))]; exact e14715
    have e14729 : I14726 (ad g 50) 4 = w14687 := by rw [eI14726, pp_ne _ _ (Or.inl (lyx_ne hy (by decide) (by decide) (by decide)))]; exact e14716
    have e14730 : I14726 (ad g 50) 0 = v14688 := by rw [eI14726, pp_ne _ _ (Or.inl (lyx_ne hy (by decide) (by decide) (by decide)))]; exact e14717
    have e14731 : I14726 (ad g 27) 4 = v14706 := by rw [eI14726, pp_ne _ _ (Or.inl (lyx_ne hy (by decide) (by decide) (by decide)))]; exact e14718
    have e14732 : I14726 (ad g 1) 1 = L := by rw [eI14726, pp_ne _ _ (Or.inl (lyx_ne hy (by decide) (by decide) (by decide)))]; exact e14719
    have e14733 : I14726 (ad g 56) 2 = v14725 := by rw [eI14726, pp_self]
    have fr14734 : fz 74 g [43, 44, 47, 48, 50, 51, 52, 56, 58] I I14726 := by rw [eI14726]; exact fzx_pp hy fr14712 (by decide) (by decide)
    clear eI14726
    refine WP_aload_n dX9_serve_192 rfl ?_
    refine WP_dup dX9_serve_193 rfl ?_
    refine WQ_getl dX9_serve_194 fX9_117 rfl (lyx_is hy 56 4 rfl) (fun l14735 el14735 => ?_)
    refine WP_iload dX9_serve_197 rfl ?_
    refine WP_iload dX9_serve_199 rfl ?_
    refine WP_iload dX9_serve_201 rfl ?_
    refine WQ_isub dX9_serve_203 (by omega) (by omega) (fun v14736 hv14736 => ?_)
    refine WQ_imulu dX9_serve_204 (fun v14737 => ?_)
    refine WQ_i2l dX9_serve_205 (fun l14738 hl14738 => ?_)
    refine WQ_ladd dX9_serve_206 (fun l14739 => ?_)
    refine WQ_putl dX9_serve_207 fX9_117 rfl rfl (lyx_is hy 56 4 rfl) (fun J14740 eJ14740 => ?_)
    have fr14741 : fz 74 g [45, 46, 56] J J14740 := by rw [eJ14740]; exact fzx_pp hy fr14713 (by decide) (by decide)
    clear eJ14740
    refine WP_aload_n dX9_serve_210 rfl ?_
    refine WP_getr dX9_serve_211 fX9_75 rfl (lyx_is hy 56 4 rfl) (rfx hr 56 5 58 (by decide)) ?_
    refine WP_iload dX9_serve_214 rfl ?_
    refine WQ_iconst (2) (2) dX9_serve_216 rfl rfl (fun v14742 hv14742 => ?_)
    refine WQ_iadd dX9_serve_217 (by omega) (by omega) (fun v14743 hv14743 => ?_)
    refine WP_dup2 dX9_serve_218 rfl rfl ?_
    refine WQ_ialdu dX9_serve_219 (lyx_is hy 58 13 rfl) (lyx_n hy 58 28 rfl) (by omega) (by omega) (fun v14744 => ?_)
    refine WP_iload dX9_serve_220 rfl ?_
    refine WP_iload dX9_serve_222 rfl ?_
    refine WQ_imulb (99) (60) dX9_serve_224 ⟨by omega, by omega⟩ ⟨by omega, by omega⟩ (by decide) (fun v14745 pv14745 av14745 bv14745 cv14745 => ?_)
    refine WQ_iaddu dX9_serve_225 (fun v14746 => ?_)
    refine WQ_iast dX9_serve_226 (lyx_is hy 58 13 rfl) (lyx_n hy 58 28 rfl) (by omega) (by omega) (fun I14747 eI14747 => ?_)
    have hI14747 : XI g n L I14747 := by rw [eI14747]; exact (fa_put hy hI14726 (c := 58) (k := 2) (s := so.toInt.toNat) (by decide) (by omega) (by decide) (by rw [cl (n := 7 * so.toInt.toNat + 2) (by omega)]) (fun h => absurd h (by decide)) (fun h => absurd h (by decide)))
    have e14748 : I14747 (ad g 56) 1 = w14665 := by rw [eI14747, pp_ne _ _ (Or.inl (lyx_ne hy (by decide) (by decide) (by decide)))]; exact e14727
    have e14749 : I14747 (ad g 50) 3 = w14686 := by rw [eI14747, pp_ne _ _ (Or.inl (lyx_ne hy (by decide) (by decide) (by decide)))]; exact e14728
    have e14750 : I14747 (ad g 50) 4 = w14687 := by rw [eI14747, pp_ne _ _ (Or.inl (lyx_ne hy (by decide) (by decide) (by decide)))]; exact e14729
    have e14751 : I14747 (ad g 50) 0 = v14688 := by rw [eI14747, pp_ne _ _ (Or.inl (lyx_ne hy (by decide) (by decide) (by decide)))]; exact e14730
    have e14752 : I14747 (ad g 27) 4 = v14706 := by rw [eI14747, pp_ne _ _ (Or.inl (lyx_ne hy (by decide) (by decide) (by decide)))]; exact e14731
    have e14753 : I14747 (ad g 1) 1 = L := by rw [eI14747, pp_ne _ _ (Or.inl (lyx_ne hy (by decide) (by decide) (by decide)))]; exact e14732
    have e14754 : I14747 (ad g 56) 2 = v14725 := by rw [eI14747, pp_ne _ _ (Or.inl (lyx_ne hy (by decide) (by decide) (by decide)))]; exact e14733
    have fr14755 : fz 74 g [43, 44, 47, 48, 50, 51, 52, 56, 58] I I14747 := by rw [eI14747]; exact fzx_pp hy fr14734 (by decide) (by decide)
    clear eI14747
    refine WP_aload_n dX9_serve_227 rfl ?_
    refine WP_getr dX9_serve_228 fX9_75 rfl (lyx_is hy 56 4 rfl) (rfx hr 56 5 58 (by decide)) ?_
    refine WP_iload dX9_serve_231 rfl ?_
    refine WQ_iconst (4) (4) dX9_serve_233 rfl rfl (fun v14756 hv14756 => ?_)
    refine WQ_iadd dX9_serve_234 (by omega) (by omega) (fun v14757 hv14757 => ?_)
    refine WP_dup2 dX9_serve_235 rfl rfl ?_
    refine WQ_ialdu dX9_serve_236 (lyx_is hy 58 13 rfl) (lyx_n hy 58 28 rfl) (by omega) (by omega) (fun v14758 => ?_)
    refine WP_iload dX9_serve_237 rfl ?_
    refine WP_aload_n dX9_serve_239 rfl ?_
    refine WP_getr dX9_serve_240 fX9_12 rfl (lyx_is hy 49 9 rfl) (rfx hr 49 0 50 (by decide)) ?_
    refine WQ_geti dX9_serve_243 fX9_121 rfl (lyx_is hy 50 6 rfl) (BT_get hI14747.1 50 2 3 (0) (0) (99) (by decide) 2 (by decide) (by decide)) (fun v14759 ev14759 av14759 bv14759 => ?_)
    refine WQ_imulb (99) (99) dX9_serve_246 ⟨by omega, by omega⟩ ⟨by omega, by omega⟩ (by decide) (fun v14760 pv14760 av14760 bv14760 cv14760 => ?_)
    refine WP_iload dX9_serve_247 rfl ?_
    refine WP_iload dX9_serve_249 rfl ?_
    refine WQ_iadd dX9_serve_251 (by omega) (by omega) (fun v14761 hv14761 => ?_)
    refine WQ_imulb (9801) (6) dX9_serve_252 ⟨by omega, by omega⟩ ⟨by omega, by omega⟩ (by decide) (fun v14762 pv14762 av14762 bv14762 cv14762 => ?_)
    refine WQ_iaddu dX9_serve_253 (fun v14763 => ?_)
    refine WQ_iast dX9_serve_254 (lyx_is hy 58 13 rfl) (lyx_n hy 58 28 rfl) (by omega) (by omega) (fun I14764 eI14764 => ?_)
    have hI14764 : XI g n L I14764 := by rw [eI14764]; exact (fa_put hy hI14747 (c := 58) (k := 4) (s := so.toInt.toNat) (by decide) (by omega) (by decide) (by rw [cl (n := 7 * so.toInt.toNat + 4) (by omega)]) (fun h => absurd h (by decide)) (fun h => absurd h (by decide)))
    have e14765 : I14764 (ad g 56) 1 = w14665 := by rw [eI14764, pp_ne _ _ (Or.inl (lyx_ne hy (by decide) (by decide) (by decide)))]; exact e14748
    have e14766 : I14764 (ad g 50) 3 = w14686 := by rw [eI14764, pp_ne _ _ (Or.inl (lyx_ne hy (by decide) (by decide) (by decide)))]; exact e14749
    have e14767 : I14764 (ad g 50) 4 = w14687 := by rw [eI14764, pp_ne _ _ (Or.inl (lyx_ne hy (by decide) (by decide) (by decide)))]; exact e14750
    have e14768 : I14764 (ad g 50) 0 = v14688 := by rw [eI14764, pp_ne _ _ (Or.inl (lyx_ne hy (by decide) (by decide) (by decide)))]; exact e14751
    have e14769 : I14764 (ad g 27) 4 = v14706 := by rw [eI14764, pp_ne _ _ (Or.inl (lyx_ne hy (by decide) (by decide) (by decide)))]; exact e14752
    have e14770 : I14764 (ad g 1) 1 = L := by rw [eI14764, pp_ne _ _ (Or.inl (lyx_ne hy (by decide) (by decide) (by decide)))]; exact e14753
    have e14771 : I14764 (ad g 56) 2 = v14725 := by rw [eI14764, pp_ne _ _ (Or.inl (lyx_ne hy (by decide) (by decide) (by decide)))]; exact e14754
    have e14772 : I14764 (ad g 50) 2 = v14759 := by rw [eI14764, pp_ne _ _ (Or.inl (lyx_ne hy (by decide) (by decide) (by decide)))]; exact ev14759
    have fr14773 : fz 74 g [43, 44, 47, 48, 50, 51, 52, 56, 58] I I14764 := by rw [eI14764]; exact fzx_pp hy fr14755 (by decide) (by decide)
    clear eI14764
    refine WP_aload_n dX9_serve_255 rfl ?_
    refine WP_aload_n dX9_serve_256 rfl ?_
    refine WP_iload_n dX9_serve_257 rfl ?_
    refine WP_iload_n dX9_serve_258 rfl ?_
    refine WP_iload dX9_serve_259 rfl ?_
    refine WP_iload dX9_serve_261 rfl ?_
    refine WQ_isub dX9_serve_263 (by omega) (by omega) (fun v14774 hv14774 => ?_)
    refine WP_iload dX9_serve_264 rfl ?_
    refine WP_iload dX9_serve_266 rfl ?_
    refine WQ_isub dX9_serve_268 (by omega) (by omega) (fun v14775 hv14775 => ?_)
    refine WP_iload dX9_serve_269 rfl ?_
    refine WQ_iadd dX9_serve_271 (by omega) (by omega) (fun v14776 hv14776 => ?_)
    refine WP_callV5 (k := 9) dX9_serve_272 ⟨⟨⟨by decide, by decide⟩, zX9_sleep⟩, lX9_124, by decide, rfl, vX9_sleep.1, vX9_sleep.2⟩ (lyx_is hy 49 9 rfl) (sx_wsleepf_56_27 hy hr hT hI14764 so da v14774 v14776 (by omega) (by omega) (by omega) (by omega) (by omega) (by omega) (by omega) (by omega) (by omega) (by rw [e14765]; omega)) (Nat.le_of_ble_eq_true rfl) ?_
    intro r I14777 J14778 Ra hq
    obtain ⟨⟨hI14777, ec, fiI14777, fjI14777, pI14777⟩, rfl⟩ := hq
    rw [ec]
    clear ec Ra
    have fr14779 : fz 74 g [43, 44, 47, 48, 50, 51, 52, 56, 58] I I14777 := fz_tr fr14773 (fz_mono fiI14777 (by decide))
    have fr14780 : fz 74 g [45, 46, 56] J J14778 := fz_tr fr14741 (fz_mono fjI14777 (by decide))
    have e14781 : I14777 (ad g 50) 3 = w14686 := by rw [fz_at fiI14777 50 (by decide) (by decide)]; exact e14766
    have e14782 : I14777 (ad g 50) 4 = w14687 := by rw [fz_at fiI14777 50 (by decide) (by decide)]; exact e14767
    have e14783 : I14777 (ad g 50) 0 = v14688 := by rw [fz_at fiI14777 50 (by decide) (by decide)]; exact e14768
    have e14784 : I14777 (ad g 27) 4 = v14706 := by rw [fz_at fiI14777 27 (by decide) (by decide)]; exact e14769
    have e14785 : I14777 (ad g 50) 2 = v14759 := by rw [fz_at fiI14777 50 (by decide) (by decide)]; exact e14772
    have e14786 : I14777 (ad g 1) 1 = L := hI14777.2
    have b14787 := BT_get hI14777.1 1 1 2 (0) (0) (900) (by decide) 1 (by decide) (by decide)
    rw [e14786] at b14787
    obtain ⟨w14788, ew14788⟩ : ∃ w : Int32, I14777 (ad g 56) 1 = w := ⟨_, rfl⟩
    have bw14788 := BT_get hI14777.1 56 1 2 (0) (23760) (700000) (by decide) 1 (by decide) (by decide)
    rw [ew14788] at bw14788
    rw [ew14788, e14765] at pI14777
    exact WP_vret dX9_serve_275 rfl ⟨⟨hI14777, ⟨hr, ⟨hT.trans hT.symm, rfl⟩, hP⟩, fr14779, fr14780, (by rw [ew14788, ew14665]; omega)⟩, rfl⟩
  · refine WP_aload_n dX9_serve_78 rfl ?_
    refine WP_getr dX9_serve_79 fX9_29 rfl (lyx_is hy 49 9 rfl) (rfx hr 49 3 43 (by decide)) ?_
    refine WP_iload_n dX9_serve_82 rfl ?_
    refine WP_iload_n dX9_serve_83 rfl ?_
    refine WP_iload dX9_serve_84 rfl ?_
    refine WP_iload dX9_serve_86 rfl ?_
    refine WQ_bipush (7) (7) dX9_serve_88 rfl rfl (fun v14789 hv14789 => ?_)
    refine WP_callV5 (k := 2) dX9_serve_90 ⟨⟨⟨by decide, by decide⟩, zX2_search⟩, lX9_92, by decide, rfl, vX2_search.1, vX2_search.2⟩ (lyx_is hy 43 2 rfl) (sx_searchx_27 hy hr hP hT hI14677 so da v14675 v14671 v14789 (by omega) (by omega) (by omega) (by omega) (by omega) (by omega) (by omega) (by omega) (by omega) (by omega)) (Nat.le_of_ble_eq_true rfl) ?_
    intro r I14790 J14791 R14792 hq
    obtain ⟨⟨hI14790, ⟨hrI14790, ⟨htI14790, hsI14790⟩, hpI14790⟩, fiI14790, fjI14790⟩, v14793, rfl, av14793, bv14793, cv14793⟩ := hq
    show WP _ _ _ _ (.int _ :: _) _ _ _ _
    have ht_I14790 := htI14790.trans hT
    have hs_I14790 : R14792 (ad g 0) 10 = R (ad g 0) 10 := hsI14790.trans rfl
    have fr14794 : fz 74 g [43, 44, 47, 48, 50, 51, 52, 56, 58] I I14790 := fz_tr fr14679 (fz_mono fiI14790 (by decide))
    have fr14795 : fz 74 g [45, 46, 56] J J14791 := fz_tr frj0 (fz_mono fjI14790 (by decide))
    have e14796 : I14790 (ad g 56) 1 = w14665 := by rw [fz_at fiI14790 56 (by decide) (by decide)]; exact e14680
    have e14797 : I14790 (ad g 1) 1 = L := hI14790.2
    have b14798 := BT_get hI14790.1 1 1 2 (0) (0) (900) (by decide) 1 (by decide) (by decide)
    rw [e14797] at b14798
    refine WP_goto 109 dX9_serve_93 rfl ?_
    obtain ⟨T9, t1, t2⟩ := cv14793
    have acv14793 : AOKd (I14677 (ad g 50)) v14675.toInt v14671.toInt v14793.toInt := AOK_eq (LD_un t1 (LD_fr pI14677 (fz_at fiI14677 27 (by decide) (by decide)).symm (fz_at fiI14677 32 (by decide) (by decide)).symm (fz_at fiI14677 34 (by decide) (by decide)).symm (fz_at fiI14677 35 (by decide) (by decide)).symm (fz_at fiI14677 36 (by decide) (by decide)).symm (fz_at fiI14677 22 (by decide) (by decide)).symm)) t2
    obtain ⟨w14799, ew14799⟩ : ∃ w : Int32, I14790 (ad g 50) 3 = w := ⟨_, rfl⟩
    have bw14799 := BT_get hI14790.1 50 3 4 (0) (0) (20) (by decide) 3 (by decide) (by decide)
    rw [ew14799] at bw14799
    obtain ⟨w14800, ew14800⟩ : ∃ w : Int32, I14790 (ad g 50) 4 = w := ⟨_, rfl⟩
    have bw14800 := BT_get hI14790.1 50 4 5 (0) (0) (20) (by decide) 4 (by decide) (by decide)
    rw [ew14800] at bw14800
    have adv14793 := acv14793
    unfold AOKd at adv14793
    rw [← fz_at fiI14790 50 (by decide) (by decide)] at adv14793
    rw [ew14799, ew14800] at adv14793
    obtain ⟨rav14793, rbv14793, rcv14793, rdv14793, rev14793⟩ := adv14793
    refine WP_istore (ls' := [(0, _), (1, _), (2, _), (3, _), (4, _), (5, _), (6, _), (7, _), (8, _), (9, _)]) dX9_serve_109 (by decide) rfl ?_
    refine WP_aload_n dX9_serve_111 rfl ?_
    refine WP_aload_n dX9_serve_112 rfl ?_
    refine WP_getr dX9_serve_113 fX9_12 rfl (lyx_is hy 49 9 rfl) (rfx hrI14790 49 0 50 (by decide)) ?_
    refine WQ_geti dX9_serve_116 fX9_101 rfl (lyx_is hy 50 6 rfl) (BT_get hI14790.1 50 0 1 (-1) (0) (2) (by decide) 0 (by decide) (by decide)) (fun v14801 ev14801 av14801 bv14801 => ?_)
    refine WP_iload dX9_serve_119 rfl ?_
    refine WQ_iconst (3) (3) dX9_serve_121 rfl rfl (fun v14802 hv14802 => ?_)
    refine WQ_iand3 dX9_serve_122 hv14802 (by omega) (by omega) (fun v14803 hv14803 => ?_)
    refine WP_iload dX9_serve_123 rfl ?_
    refine WP_iload_n dX9_serve_125 rfl ?_
    refine WP_callV4 (k := 9) dX9_serve_126 ⟨⟨⟨by decide, by decide⟩, zX9_buy⟩, lX9_104, by decide, rfl, vX9_buy.1, vX9_buy.2⟩ (lyx_is hy 49 9 rfl) (sx_buyf hy hrI14790 hI14790 v14801 v14803 v14668 da (by omega) (by omega) (by omega) (by omega) (by omega) (by omega) (by omega) (by omega)) (Nat.le_of_ble_eq_true rfl) ?_
    intro r I14804 J14805 Ra hq
    obtain ⟨⟨hI14804, ec, fiI14804, fjI14804⟩, v14806, rfl, av14806, bv14806, cv14806⟩ := hq
    show WP _ _ _ _ (.int _ :: _) _ _ _ _
    rw [ec]
    clear ec Ra
    have fr14807 : fz 74 g [43, 44, 47, 48, 50, 51, 52, 56, 58] I I14804 := fz_tr fr14794 (fz_mono fiI14804 (by decide))
    have fr14808 : fz 74 g [45, 46, 56] J J14805 := fz_tr fr14795 (fz_mono fjI14804 (by decide))
    have e14809 : I14804 (ad g 56) 1 = w14665 := by rw [fz_at fiI14804 56 (by decide) (by decide)]; exact e14796
    have e14810 : I14804 (ad g 50) 3 = w14799 := by rw [fz_at fiI14804 50 (by decide) (by decide)]; exact ew14799
    have e14811 : I14804 (ad g 50) 4 = w14800 := by rw [fz_at fiI14804 50 (by decide) (by decide)]; exact ew14800
    have e14812 : I14804 (ad g 50) 0 = v14801 := by rw [fz_at fiI14804 50 (by decide) (by decide)]; exact ev14801
    have e14813 : I14804 (ad g 1) 1 = L := hI14804.2
    have b14814 := BT_get hI14804.1 1 1 2 (0) (0) (900) (by decide) 1 (by decide) (by decide)
    rw [e14813] at b14814
    refine WP_istore (ls' := [(0, _), (1, _), (2, _), (3, _), (4, _), (5, _), (6, _), (7, _), (8, _), (9, _), (10, _)]) dX9_serve_129 (by decide) rfl ?_
    refine WP_iload dX9_serve_131 rfl ?_
    refine WQ_iconst (2) (2) dX9_serve_133 rfl rfl (fun v14815 hv14815 => ?_)
    refine WQ_ishr2 dX9_serve_134 hv14815 (by omega) (by omega) (fun v14816 hv14816 => ?_)
    refine WQ_iconst (3) (3) dX9_serve_135 rfl rfl (fun v14817 hv14817 => ?_)
    refine WQ_iand3 dX9_serve_136 hv14817 (by omega) (by omega) (fun v14818 hv14818 => ?_)
    refine WP_istore (ls' := [(0, _), (1, _), (2, _), (3, _), (4, _), (5, _), (6, _), (7, _), (8, _), (9, _), (10, _), (11, _)]) dX9_serve_137 (by decide) rfl ?_
    refine WP_aload_n dX9_serve_139 rfl ?_
    refine WP_aload_n dX9_serve_140 rfl ?_
    refine WP_getr dX9_serve_141 fX9_25 rfl (lyx_is hy 49 9 rfl) (rfx hrI14790 49 2 5 (by decide)) ?_
    refine WP_getr dX9_serve_144 fX9_49 rfl (lyx_is hy 5 0 rfl) ht_I14790 ?_
    refine WQ_geti dX9_serve_147 fX9_108 rfl (lyx_is hy 27 7 rfl) (BT_get hI14804.1 27 4 5 (-1) (0) (2) (by decide) 4 (by decide) (by decide)) (fun v14819 ev14819 av14819 bv14819 => ?_)
    refine WP_iload dX9_serve_150 rfl ?_
    refine WQ_iconst (4) (4) dX9_serve_152 rfl rfl (fun v14820 hv14820 => ?_)
    refine WQ_ishr4 dX9_serve_153 hv14820 (by omega) (by omega) (fun v14821 hv14821 => ?_)
    refine WP_iload dX9_serve_154 rfl ?_
    refine WP_iload_n dX9_serve_156 rfl ?_
    refine WP_callV4 (k := 9) dX9_serve_157 ⟨⟨⟨by decide, by decide⟩, zX9_buy⟩, lX9_104, by decide, rfl, vX9_buy.1, vX9_buy.2⟩ (lyx_is hy 49 9 rfl) (sx_buyf hy hrI14790 hI14804 v14819 v14821 v14668 da (by omega) (by omega) (by omega) (by omega) (by omega) (by omega) (by omega) (by omega)) (Nat.le_of_ble_eq_true rfl) ?_
    intro r I14822 J14823 Ra hq
    obtain ⟨⟨hI14822, ec, fiI14822, fjI14822⟩, v14824, rfl, av14824, bv14824, cv14824⟩ := hq
    show WP _ _ _ _ (.int _ :: _) _ _ _ _
    rw [ec]
    clear ec Ra
    have fr14825 : fz 74 g [43, 44, 47, 48, 50, 51, 52, 56, 58] I I14822 := fz_tr fr14807 (fz_mono fiI14822 (by decide))
    have fr14826 : fz 74 g [45, 46, 56] J J14823 := fz_tr fr14808 (fz_mono fjI14822 (by decide))
    have e14827 : I14822 (ad g 56) 1 = w14665 := by rw [fz_at fiI14822 56 (by decide) (by decide)]; exact e14809
    have e14828 : I14822 (ad g 50) 3 = w14799 := by rw [fz_at fiI14822 50 (by decide) (by decide)]; exact e14810
    have e14829 : I14822 (ad g 50) 4 = w14800 := by rw [fz_at fiI14822 50 (by decide) (by decide)]; exact e14811
    have e14830 : I14822 (ad g 50) 0 = v14801 := by rw [fz_at fiI14822 50 (by decide) (by decide)]; exact e14812
    have e14831 : I14822 (ad g 27) 4 = v14819 := by rw [fz_at fiI14822 27 (by decide) (by decide)]; exact ev14819
    have e14832 : I14822 (ad g 1) 1 = L := hI14822.2
    have b14833 := BT_get hI14822.1 1 1 2 (0) (0) (900) (by decide) 1 (by decide) (by decide)
    rw [e14832] at b14833
    refine WP_istore (ls' := [(0, _), (1, _), (2, _), (3, _), (4, _), (5, _), (6, _), (7, _), (8, _), (9, _), (10, _), (11, _), (12, _)]) dX9_serve_160 (by decide) rfl ?_
    refine WP_aload_n dX9_serve_162 rfl ?_
    refine WP_getr dX9_serve_163 fX9_12 rfl (lyx_is hy 49 9 rfl) (rfx hrI14790 49 0 50 (by decide)) ?_
    refine WP_iload dX9_serve_166 rfl ?_
    refine WP_iload dX9_serve_168 rfl ?_
    refine WP_callV2 (k := 6) dX9_serve_170 ⟨⟨⟨by decide, by decide⟩, zX6_priceOf⟩, lX9_111, by decide, rfl, vX6_priceOf.1, vX6_priceOf.2⟩ (lyx_is hy 50 6 rfl) (sx_pricex hy hrI14790 hI14822 v14806 v14824 (by omega) (by omega) (by omega) (by omega)) (Nat.le_of_ble_eq_true rfl) ?_
    intro r Ia Ja Ra hq
    obtain ⟨⟨ea, eb, ec⟩, v14834, rfl, av14834, bv14834, cv14834⟩ := hq
    show WP _ _ _ _ (.int _ :: _) _ _ _ _
    rw [ea, eb, ec]
    clear ea eb ec Ia Ja Ra
    rw [e14828] at cv14834
    rw [e14829] at cv14834
    have k1 : v14806.toInt * w14799.toInt ≤ (v14793.toInt % 4) * w14799.toInt := Int.mul_le_mul_of_nonneg_right (by omega) (by omega)
    have k2 : v14824.toInt * w14800.toInt ≤ (v14793.toInt / 16) * w14800.toInt := Int.mul_le_mul_of_nonneg_right (by omega) (by omega)
    have kp : v14834.toInt ≤ v14675.toInt := by omega
    refine WP_istore (ls' := [(0, _), (1, _), (2, _), (3, _), (4, _), (5, _), (6, _), (7, _), (8, _), (9, _), (10, _), (11, _), (12, _), (13, _)]) dX9_serve_173 (by decide) rfl ?_
    refine WP_aload_n dX9_serve_175 rfl ?_
    refine WP_dup dX9_serve_176 rfl ?_
    refine WQ_getiu dX9_serve_177 fX9_114 rfl (lyx_is hy 56 4 rfl) (fun v14835 ev14835 => ?_)
    refine WP_iload dX9_serve_180 rfl ?_
    refine WP_iload dX9_serve_182 rfl ?_
    refine WP_iload dX9_serve_184 rfl ?_
    refine WQ_iadd dX9_serve_186 (by omega) (by omega) (fun v14836 hv14836 => ?_)
    refine WQ_imulb (99) (6) dX9_serve_187 ⟨by omega, by omega⟩ ⟨by omega, by omega⟩ (by decide) (fun v14837 pv14837 av14837 bv14837 cv14837 => ?_)
    refine WQ_iaddu dX9_serve_188 (fun v14838 => ?_)
    refine WQ_puti dX9_serve_189 fX9_114 rfl rfl (lyx_is hy 56 4 rfl) (fun I14839 eI14839 => ?_)
    have hI14839 : XI g n L I14839 := by rw [eI14839]; exact (xi_f0 hy hI14822 (c := 56) (by decide) (Or.inl (by decide)) (by decide))
    have e14840 : I14839 (ad g 56) 1 = w14665 := by rw [eI14839, pp_ne _ _ (Or.inr (by decide))]; exact e14827
    have e14841 : I14839 (ad g 50) 3 = w14799 := by rw [eI14839, pp_ne _ _ (Or.inl (lyx_ne hy (by decide) (by decide) (by decide)))]; exact e14828
    have e14842 : I14839 (ad g 50) 4 = w14800 := by rw [eI14839, pp_ne _ _ (Or.inl (lyx_ne hy (by decide) (by decide) (by decide)))]; exact e14829
    have e14843 : I14839 (ad g 50) 0 = v14801 := by rw [eI14839, pp_ne _ _ (Or.inl (lyx_ne hy (by decide) (by decide) (by decide)))]; exact e14830
    have e14844 : I14839 (ad g 27) 4 = v14819 := by rw [eI14839, pp_ne _ _ (Or.inl (lyx_ne hy (by decide) (by decide) (by decide)))]; exact e14831
    have e14845 : I14839 (ad g 1) 1 = L := by rw [eI14839, pp_ne _ _ (Or.inl (lyx_ne hy (by decide) (by decide) (by decide)))]; exact e14832
    have e14846 : I14839 (ad g 56) 2 = v14838 := by rw [eI14839, pp_self]
    have fr14847 : fz 74 g [43, 44, 47, 48, 50, 51, 52, 56, 58] I I14839 := by rw [eI14839]; exact fzx_pp hy fr14825 (by decide) (by decide)
    clear eI14839
    refine WP_aload_n dX9_serve_192 rfl ?_
    refine WP_dup dX9_serve_193 rfl ?_
    refine WQ_getl dX9_serve_194 fX9_117 rfl (lyx_is hy 56 4 rfl) (fun l14848 el14848 => ?_)
    refine WP_iload dX9_serve_197 rfl ?_
    refine WP_iload dX9_serve_199 rfl ?_
    refine WP_iload dX9_serve_201 rfl ?_
    refine WQ_isub dX9_serve_203 (by omega) (by omega) (fun v14849 hv14849 => ?_)
    refine WQ_imulu dX9_serve_204 (fun v14850 => ?_)
    refine WQ_i2l dX9_serve_205 (fun l14851 hl14851 => ?_)
    refine WQ_ladd dX9_serve_206 (fun l14852 => ?_)
    refine WQ_putl dX9_serve_207 fX9_117 rfl rfl (lyx_is hy 56 4 rfl) (fun J14853 eJ14853 => ?_)
    have fr14854 : fz 74 g [45, 46, 56] J J14853 := by rw [eJ14853]; exact fzx_pp hy fr14826 (by decide) (by decide)
    clear eJ14853
    refine WP_aload_n dX9_serve_210 rfl ?_
    refine WP_getr dX9_serve_211 fX9_75 rfl (lyx_is hy 56 4 rfl) (rfx hrI14790 56 5 58 (by decide)) ?_
    refine WP_iload dX9_serve_214 rfl ?_
    refine WQ_iconst (2) (2) dX9_serve_216 rfl rfl (fun v14855 hv14855 => ?_)
    refine WQ_iadd dX9_serve_217 (by omega) (by omega) (fun v14856 hv14856 => ?_)
    refine WP_dup2 dX9_serve_218 rfl rfl ?_
    refine WQ_ialdu dX9_serve_219 (lyx_is hy 58 13 rfl) (lyx_n hy 58 28 rfl) (by omega) (by omega) (fun v14857 => ?_)
    refine WP_iload dX9_serve_220 rfl ?_
    refine WP_iload dX9_serve_222 rfl ?_
    refine WQ_imulb (99) (60) dX9_serve_224 ⟨by omega, by omega⟩ ⟨by omega, by omega⟩ (by decide) (fun v14858 pv14858 av14858 bv14858 cv14858 => ?_)
    refine WQ_iaddu dX9_serve_225 (fun v14859 => ?_)
    refine WQ_iast dX9_serve_226 (lyx_is hy 58 13 rfl) (lyx_n hy 58 28 rfl) (by omega) (by omega) (fun I14860 eI14860 => ?_)
    have hI14860 : XI g n L I14860 := by rw [eI14860]; exact (fa_put hy hI14839 (c := 58) (k := 2) (s := so.toInt.toNat) (by decide) (by omega) (by decide) (by rw [cl (n := 7 * so.toInt.toNat + 2) (by omega)]) (fun h => absurd h (by decide)) (fun h => absurd h (by decide)))
    have e14861 : I14860 (ad g 56) 1 = w14665 := by rw [eI14860, pp_ne _ _ (Or.inl (lyx_ne hy (by decide) (by decide) (by decide)))]; exact e14840
    have e14862 : I14860 (ad g 50) 3 = w14799 := by rw [eI14860, pp_ne _ _ (Or.inl (lyx_ne hy (by decide) (by decide) (by decide)))]; exact e14841
    have e14863 : I14860 (ad g 50) 4 = w14800 := by rw [eI14860, pp_ne _ _ (Or.inl (lyx_ne hy (by decide) (by decide) (by decide)))]; exact e14842
    have e14864 : I14860 (ad g 50) 0 = v14801 := by rw [eI14860, pp_ne _ _ (Or.inl (lyx_ne hy (by decide) (by decide) (by decide)))]; exact e14843
    have e14865 : I14860 (ad g 27) 4 = v14819 := by rw [eI14860, pp_ne _ _ (Or.inl (lyx_ne hy (by decide) (by decide) (by decide)))]; exact e14844
    have e14866 : I14860 (ad g 1) 1 = L := by rw [eI14860, pp_ne _ _ (Or.inl (lyx_ne hy (by decide) (by decide) (by decide)))]; exact e14845
    have e14867 : I14860 (ad g 56) 2 = v14838 := by rw [eI14860, pp_ne _ _ (Or.inl (lyx_ne hy (by decide) (by decide) (by decide)))]; exact e14846
    have fr14868 : fz 74 g [43, 44, 47, 48, 50, 51, 52, 56, 58] I I14860 := by rw [eI14860]; exact fzx_pp hy fr14847 (by decide) (by decide)
    clear eI14860
    refine WP_aload_n dX9_serve_227 rfl ?_
    refine WP_getr dX9_serve_228 fX9_75 rfl (lyx_is hy 56 4 rfl) (rfx hrI14790 56 5 58 (by decide)) ?_
    refine WP_iload dX9_serve_231 rfl ?_
    refine WQ_iconst (4) (4) dX9_serve_233 rfl rfl (fun v14869 hv14869 => ?_)
    refine WQ_iadd dX9_serve_234 (by omega) (by omega) (fun v14870 hv14870 => ?_)
    refine WP_dup2 dX9_serve_235 rfl rfl ?_
    refine WQ_ialdu dX9_serve_236 (lyx_is hy 58 13 rfl) (lyx_n hy 58 28 rfl) (by omega) (by omega) (fun v14871 => ?_)
    refine WP_iload dX9_serve_237 rfl ?_
    refine WP_aload_n dX9_serve_239 rfl ?_
    refine WP_getr dX9_serve_240 fX9_12 rfl (lyx_is hy 49 9 rfl) (rfx hrI14790 49 0 50 (by decide)) ?_
    refine WQ_geti dX9_serve_243 fX9_121 rfl (lyx_is hy 50 6 rfl) (BT_get hI14860.1 50 2 3 (0) (0) (99) (by decide) 2 (by decide) (by decide)) (fun v14872 ev14872 av14872 bv14872 => ?_)
    refine WQ_imulb (99) (99) dX9_serve_246 ⟨by omega, by omega⟩ ⟨by omega, by omega⟩ (by decide) (fun v14873 pv14873 av14873 bv14873 cv14873 => ?_)
    refine WP_iload dX9_serve_247 rfl ?_
    refine WP_iload dX9_serve_249 rfl ?_
    refine WQ_iadd dX9_serve_251 (by omega) (by omega) (fun v14874 hv14874 => ?_)
    refine WQ_imulb (9801) (6) dX9_serve_252 ⟨by omega, by omega⟩ ⟨by omega, by omega⟩ (by decide) (fun v14875 pv14875 av14875 bv14875 cv14875 => ?_)
    refine WQ_iaddu dX9_serve_253 (fun v14876 => ?_)
    refine WQ_iast dX9_serve_254 (lyx_is hy 58 13 rfl) (lyx_n hy 58 28 rfl) (by omega) (by omega) (fun I14877 eI14877 => ?_)
    have hI14877 : XI g n L I14877 := by rw [eI14877]; exact (fa_put hy hI14860 (c := 58) (k := 4) (s := so.toInt.toNat) (by decide) (by omega) (by decide) (by rw [cl (n := 7 * so.toInt.toNat + 4) (by omega)]) (fun h => absurd h (by decide)) (fun h => absurd h (by decide)))
    have e14878 : I14877 (ad g 56) 1 = w14665 := by rw [eI14877, pp_ne _ _ (Or.inl (lyx_ne hy (by decide) (by decide) (by decide)))]; exact e14861
    have e14879 : I14877 (ad g 50) 3 = w14799 := by rw [eI14877, pp_ne _ _ (Or.inl (lyx_ne hy (by decide) (by decide) (by decide)))]; exact e14862
    have e14880 : I14877 (ad g 50) 4 = w14800 := by rw [eI14877, pp_ne _ _ (Or.inl (lyx_ne hy (by decide) (by decide) (by decide)))]; exact e14863
    have e14881 : I14877 (ad g 50) 0 = v14801 := by rw [eI14877, pp_ne _ _ (Or.inl (lyx_ne hy (by decide) (by decide) (by decide)))]; exact e14864
    have e14882 : I14877 (ad g 27) 4 = v14819 := by rw [eI14877, pp_ne _ _ (Or.inl (lyx_ne hy (by decide) (by decide) (by decide)))]; exact e14865
    have e14883 : I14877 (ad g 1) 1 = L := by rw [eI14877, pp_ne _ _ (Or.inl (lyx_ne hy (by decide) (by decide) (by decide)))]; exact e14866
    have e14884 : I14877 (ad g 56) 2 = v14838 := by rw [eI14877, pp_ne _ _ (Or.inl (lyx_ne hy (by decide) (by decide) (by decide)))]; exact e14867
    have e14885 : I14877 (ad g 50) 2 = v14872 := by rw [eI14877, pp_ne _ _ (Or.inl (lyx_ne hy (by decide) (by decide) (by decide)))]; exact ev14872
    have fr14886 : fz 74 g [43, 44, 47, 48, 50, 51, 52, 56, 58] I I14877 := by rw [eI14877]; exact fzx_pp hy fr14868 (by decide) (by decide)
    clear eI14877
    refine WP_aload_n dX9_serve_255 rfl ?_
    refine WP_aload_n dX9_serve_256 rfl ?_
    refine WP_iload_n dX9_serve_257 rfl ?_
    refine WP_iload_n dX9_serve_258 rfl ?_
    refine WP_iload dX9_serve_259 rfl ?_
    refine WP_iload dX9_serve_261 rfl ?_
    refine WQ_isub dX9_serve_263 (by omega) (by omega) (fun v14887 hv14887 => ?_)
    refine WP_iload dX9_serve_264 rfl ?_
    refine WP_iload dX9_serve_266 rfl ?_
    refine WQ_isub dX9_serve_268 (by omega) (by omega) (fun v14888 hv14888 => ?_)
    refine WP_iload dX9_serve_269 rfl ?_
    refine WQ_iadd dX9_serve_271 (by omega) (by omega) (fun v14889 hv14889 => ?_)
    refine WP_callV5 (k := 9) dX9_serve_272 ⟨⟨⟨by decide, by decide⟩, zX9_sleep⟩, lX9_124, by decide, rfl, vX9_sleep.1, vX9_sleep.2⟩ (lyx_is hy 49 9 rfl) (sx_wsleepf_56_27 hy hrI14790 ht_I14790 hI14877 so da v14887 v14889 (by omega) (by omega) (by omega) (by omega) (by omega) (by omega) (by omega) (by omega) (by omega) (by rw [e14878]; omega)) (Nat.le_of_ble_eq_true rfl) ?_
    intro r I14890 J14891 Ra hq
    obtain ⟨⟨hI14890, ec, fiI14890, fjI14890, pI14890⟩, rfl⟩ := hq
    rw [ec]
    clear ec Ra
    have fr14892 : fz 74 g [43, 44, 47, 48, 50, 51, 52, 56, 58] I I14890 := fz_tr fr14886 (fz_mono fiI14890 (by decide))
    have fr14893 : fz 74 g [45, 46, 56] J J14891 := fz_tr fr14854 (fz_mono fjI14890 (by decide))
    have e14894 : I14890 (ad g 50) 3 = w14799 := by rw [fz_at fiI14890 50 (by decide) (by decide)]; exact e14879
    have e14895 : I14890 (ad g 50) 4 = w14800 := by rw [fz_at fiI14890 50 (by decide) (by decide)]; exact e14880
    have e14896 : I14890 (ad g 50) 0 = v14801 := by rw [fz_at fiI14890 50 (by decide) (by decide)]; exact e14881
    have e14897 : I14890 (ad g 27) 4 = v14819 := by rw [fz_at fiI14890 27 (by decide) (by decide)]; exact e14882
    have e14898 : I14890 (ad g 50) 2 = v14872 := by rw [fz_at fiI14890 50 (by decide) (by decide)]; exact e14885
    have e14899 : I14890 (ad g 1) 1 = L := hI14890.2
    have b14900 := BT_get hI14890.1 1 1 2 (0) (0) (900) (by decide) 1 (by decide) (by decide)
    rw [e14899] at b14900
    obtain ⟨w14901, ew14901⟩ : ∃ w : Int32, I14890 (ad g 56) 1 = w := ⟨_, rfl⟩
    have bw14901 := BT_get hI14890.1 56 1 2 (0) (23760) (700000) (by decide) 1 (by decide) (by decide)
    rw [ew14901] at bw14901
    rw [ew14901, e14878] at pI14890
    exact WP_vret dX9_serve_275 rfl ⟨⟨hI14890, ⟨hrI14790, ⟨ht_I14790.trans hT.symm, hs_I14790⟩, hpI14790⟩, fr14892, fr14893, (by rw [ew14901, ew14665]; omega)⟩, rfl⟩
