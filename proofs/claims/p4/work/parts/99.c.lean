set_option maxHeartbeats 4000000 in
set_option maxRecDepth 100000 in
theorem sx_serve_53_6 {g : GG} {n : Int} {L : Int32} (hy : LyX g)  {I : pI} {J : pJ} {R : pR} (hr : RfX g R) (hP : NL g R) (hT : R (ad g 5) 0 = some (ad g 6)) (hI : XI g n L I) (so : Int32) (da : Int32) (so_lo : 0 ≤ so.toInt) (so_hi : so.toInt ≤ 3) (da_lo : 0 ≤ da.toInt) (da_hi : da.toInt ≤ 6) (hn : 0 ≤ n ∧ n ≤ 40000) (hb : (I (ad g 53) 1).toInt ≤ 23760 * n + 0 - 5940) : SP g mX9_serve [.ref (ad g 49), .ref (ad g 53), .int so, .int da] I J R (fun r I' J' R' => (XI g n L I' ∧ (RfX g R' ∧ (R' (ad g 5) 0 = R (ad g 5) 0 ∧ R' (ad g 0) 10 = R (ad g 0) 10) ∧ NL g R') ∧ fz 74 g [43, 44, 47, 48, 50, 51, 52, 53, 55] I I' ∧ fz 74 g [45, 46, 53] J J' ∧ (I' (ad g 53) 1).toInt ≤ (I (ad g 53) 1).toInt + 5940) ∧ r = none) := by
  refine SP_of ⟨by decide, rfl⟩ (Nat.le_of_ble_eq_true rfl) ?_
  have e13896 : I (ad g 1) 1 = L := hI.2
  have b13897 := BT_get hI.1 1 1 2 (0) (0) (900) (by decide) 1 (by decide) (by decide)
  rw [e13896] at b13897
  have fr0 : fz 74 g [43, 44, 47, 48, 50, 51, 52, 53, 55] I I := fz_rf
  have frj0 : fz 74 g [45, 46, 53] J J := fz_rf
  obtain ⟨w13898, ew13898⟩ : ∃ w : Int32, I (ad g 53) 1 = w := ⟨_, rfl⟩
  have bw13898 := BT_get hI.1 53 1 2 (0) (23760) (0) (by decide) 1 (by decide) (by decide)
  rw [ew13898] at bw13898
  rw [ew13898] at hb
  refine WP_iload_n dX9_serve_0 rfl ?_
  refine WQ_bipush (7) (7) dX9_serve_1 rfl rfl (fun v13899 hv13899 => ?_)
  refine WQ_imulk (7) dX9_serve_3 hv13899 (by omega) (by omega) (fun v13900 hv13900 => ?_)
  refine WP_istore (ls' := [(0, _), (1, _), (2, _), (3, _), (4, _)]) dX9_serve_4 (by decide) rfl ?_
  refine WP_aload_n dX9_serve_6 rfl ?_
  refine WP_getr dX9_serve_7 fX9_25 rfl (lyx_is hy 49 9 rfl) (rfx hr 49 2 5 (by decide)) ?_
  refine WP_getr dX9_serve_10 fX9_49 rfl (lyx_is hy 5 0 rfl) hT ?_
  refine WP_getr dX9_serve_13 fX9_71 rfl (lyx_is hy 6 7 rfl) (rfx hr 6 6 8 (by decide)) ?_
  refine WP_iload_n dX9_serve_16 rfl ?_
  refine WQ_iald dX9_serve_17 (lyx_is hy 8 13 rfl) (lyx_n hy 8 4 rfl) (by omega) (by omega) (fun q hq => BT_get hI.1 8 0 4 (0) (0) (99) (by decide) q (Nat.zero_le _) hq) (fun v13901 av13901 bv13901 ev13901 => ?_)
  clear ev13901
  refine WP_istore (ls' := [(0, _), (1, _), (2, _), (3, _), (4, _), (5, _)]) dX9_serve_18 (by decide) rfl ?_
  refine WP_aload_n dX9_serve_20 rfl ?_
  refine WP_getr dX9_serve_21 fX9_75 rfl (lyx_is hy 53 4 rfl) (rfx hr 53 5 55 (by decide)) ?_
  refine WP_iload dX9_serve_24 rfl ?_
  refine WQ_iconst (1) (1) dX9_serve_26 rfl rfl (fun v13902 hv13902 => ?_)
  refine WQ_iadd dX9_serve_27 (by omega) (by omega) (fun v13903 hv13903 => ?_)
  refine WQ_ialdf (q := 7 * so.toInt.toNat + 1) dX9_serve_28 (lyx_is hy 55 13 rfl) (lyx_n hy 55 28 rfl) (by omega) (by omega) (by omega) (fa_get1 hI (c := 55) (by decide) (by omega)) (fun v13904 av13904 bv13904 => ?_)
  refine WP_istore (ls' := [(0, _), (1, _), (2, _), (3, _), (4, _), (5, _), (6, _)]) dX9_serve_29 (by decide) rfl ?_
  refine WP_aload_n dX9_serve_31 rfl ?_
  refine WP_getr dX9_serve_32 fX9_25 rfl (lyx_is hy 49 9 rfl) (rfx hr 49 2 5 (by decide)) ?_
  refine WP_iload_n dX9_serve_35 rfl ?_
  refine WP_iload_n dX9_serve_36 rfl ?_
  refine WP_aload_n dX9_serve_37 rfl ?_
  refine WP_getr dX9_serve_38 fX9_75 rfl (lyx_is hy 53 4 rfl) (rfx hr 53 5 55 (by decide)) ?_
  refine WP_iload dX9_serve_41 rfl ?_
  refine WQ_iconst (0) (0) dX9_serve_43 rfl rfl (fun v13905 hv13905 => ?_)
  refine WQ_iadd dX9_serve_44 (by omega) (by omega) (fun v13906 hv13906 => ?_)
  refine WQ_ialdf (q := 7 * so.toInt.toNat) dX9_serve_45 (lyx_is hy 55 13 rfl) (lyx_n hy 55 28 rfl) (by omega) (by omega) (by omega) (fa_get0 hI (c := 55) (by decide) (by omega)) (fun v13907 av13907 bv13907 => ?_)
  refine WP_callV3 (k := 0) dX9_serve_46 ⟨⟨⟨by decide, by decide⟩, zX0_earned⟩, lX9_81, by decide, rfl, vX0_earned.1, vX0_earned.2⟩ (lyx_is hy 5 0 rfl) (sx_earned_6 hy hr hT hI so da v13907 (by omega) (by omega) (by omega) (by omega) (by omega) (by omega)) (Nat.le_of_ble_eq_true rfl) ?_
  intro r Ia Ja Ra hq
  obtain ⟨⟨ea, eb, ec⟩, v13908, rfl, av13908, bv13908, cv13908⟩ := hq
  show WP _ _ _ _ (.int _ :: _) _ _ _ _
  rw [ea, eb, ec]
  clear ea eb ec Ia Ja Ra
  refine WP_istore (ls' := [(0, _), (1, _), (2, _), (3, _), (4, _), (5, _), (6, _), (7, _)]) dX9_serve_49 (by decide) rfl ?_
  refine WP_aload_n dX9_serve_51 rfl ?_
  refine WP_getr dX9_serve_52 fX9_85 rfl (lyx_is hy 53 4 rfl) (rfx hr 53 4 54 (by decide)) ?_
  refine WP_iload_n dX9_serve_55 rfl ?_
  refine WQ_ialdu dX9_serve_56 (lyx_is hy 54 13 rfl) (lyx_n hy 54 4 rfl) (by omega) (by omega) (fun v13909 => ?_)
  refine WP_istore (ls' := [(0, _), (1, _), (2, _), (3, _), (4, _), (5, _), (6, _), (7, _), (8, _)]) dX9_serve_57 (by decide) rfl ?_
  refine WP_aload_n dX9_serve_59 rfl ?_
  refine WP_getr dX9_serve_60 fX9_12 rfl (lyx_is hy 49 9 rfl) (rfx hr 49 0 50 (by decide)) ?_
  refine WP_aload_n dX9_serve_63 rfl ?_
  refine WP_getr dX9_serve_64 fX9_25 rfl (lyx_is hy 49 9 rfl) (rfx hr 49 2 5 (by decide)) ?_
  refine WP_iload_n dX9_serve_67 rfl ?_
  refine WP_iload_n dX9_serve_68 rfl ?_
  refine WP_callV3 (k := 6) dX9_serve_69 ⟨⟨⟨by decide, by decide⟩, zX6_load⟩, lX9_88, by decide, rfl, vX6_load.1, vX6_load.2⟩ (lyx_is hy 50 6 rfl) (sx_loadx_50_6 hy hr hT hI so da (by omega) (by omega) (by omega) (by omega)) (Nat.le_of_ble_eq_true rfl) ?_
  intro r I13910 J13911 Ra hq
  obtain ⟨⟨hI13910, ec, fiI13910, ejI13910, pI13910⟩, rfl⟩ := hq
  rw [ec]
  clear ec Ra
  have fr13912 : fz 74 g [43, 44, 47, 48, 50, 51, 52, 53, 55] I I13910 := fz_tr fr0 (fz_mono fiI13910 (by decide))
  rw [ejI13910]
  clear ejI13910 J13911
  have e13913 : I13910 (ad g 53) 1 = w13898 := by rw [fz_at fiI13910 53 (by decide) (by decide)]; exact ew13898
  have e13914 : I13910 (ad g 1) 1 = L := hI13910.2
  have b13915 := BT_get hI13910.1 1 1 2 (0) (0) (900) (by decide) 1 (by decide) (by decide)
  rw [e13914] at b13915
  refine WP_iload dX9_serve_72 rfl ?_
  refine WQ_iconst (3) (3) dX9_serve_74 rfl rfl (fun v13916 hv13916 => ?_)
  refine WQ_icmp_ne 96 dX9_serve_75 rfl (fun c13916 => ?_) (fun c13916 => ?_)
  · refine WP_aload_n dX9_serve_96 rfl ?_
    refine WP_getr dX9_serve_97 fX9_12 rfl (lyx_is hy 49 9 rfl) (rfx hr 49 0 50 (by decide)) ?_
    refine WP_iload dX9_serve_100 rfl ?_
    refine WP_iload dX9_serve_102 rfl ?_
    refine WP_iload dX9_serve_104 rfl ?_
    refine WP_callV3 (k := 6) dX9_serve_106 ⟨⟨⟨by decide, by decide⟩, zX6_habit⟩, lX9_98, by decide, rfl, vX6_habit.1, vX6_habit.2⟩ (lyx_is hy 50 6 rfl) (sx_habita hy hr hI13910 v13909 v13908 v13904  (by omega) (by omega) (by omega) (by omega)) (Nat.le_of_ble_eq_true rfl) ?_
    intro r Ia Ja Ra hq
    obtain ⟨⟨ea, eb, ec⟩, v13918, rfl, av13918, bv13918, cv13918⟩ := hq
    show WP _ _ _ _ (.int _ :: _) _ _ _ _
    rw [ea, eb, ec]
    clear ea eb ec Ia Ja Ra
    have acv13918 : AOKd (I13910 (ad g 50)) v13908.toInt v13904.toInt v13918.toInt := by unfold AOKd; exact ⟨by omega, by omega, cv13918.1, cv13918.2.1, cv13918.2.2⟩
    obtain ⟨w13919, ew13919⟩ : ∃ w : Int32, I13910 (ad g 50) 3 = w := ⟨_, rfl⟩
    have bw13919 := BT_get hI13910.1 50 3 4 (0) (0) (20) (by decide) 3 (by decide) (by decide)
    rw [ew13919] at bw13919
    obtain ⟨w13920, ew13920⟩ : ∃ w : Int32, I13910 (ad g 50) 4 = w := ⟨_, rfl⟩
    have bw13920 := BT_get hI13910.1 50 4 5 (0) (0) (20) (by decide) 4 (by decide) (by decide)
    rw [ew13920] at bw13920
    have adv13918 := acv13918
    unfold AOKd at adv13918
    rw [ew13919, ew13920] at adv13918
    obtain ⟨rav13918, rbv13918, rcv13918, rdv13918, rev13918⟩ := adv13918
    refine WP_istore (ls' := [(0, _), (1, _), (2, _), (3, _), (4, _), (5, _), (6, _), (7, _), (8, _), (9, _)]) dX9_serve_109 (by decide) rfl ?_
    refine WP_aload_n dX9_serve_111 rfl ?_
    refine WP_aload_n dX9_serve_112 rfl ?_
    refine WP_getr dX9_serve_113 fX9_12 rfl (lyx_is hy 49 9 rfl) (rfx hr 49 0 50 (by decide)) ?_
    refine WQ_geti dX9_serve_116 fX9_101 rfl (lyx_is hy 50 6 rfl) (BT_get hI13910.1 50 0 1 (-1) (0) (2) (by decide) 0 (by decide) (by decide)) (fun v13921 ev13921 av13921 bv13921 => ?_)
    refine WP_iload dX9_serve_119 rfl ?_
    refine WQ_iconst (3) (3) dX9_serve_121 rfl rfl (fun v13922 hv13922 => ?_)
    refine WQ_iand3 dX9_serve_122 hv13922 (by omega) (by omega) (fun v13923 hv13923 => ?_)
    refine WP_iload dX9_serve_123 rfl ?_
    refine WP_iload_n dX9_serve_125 rfl ?_
    refine WP_callV4 (k := 9) dX9_serve_126 ⟨⟨⟨by decide, by decide⟩, zX9_buy⟩, lX9_104, by decide, rfl, vX9_buy.1, vX9_buy.2⟩ (lyx_is hy 49 9 rfl) (sx_buyf hy hr hI13910 v13921 v13923 v13901 da (by omega) (by omega) (by omega) (by omega) (by omega) (by omega) (by omega) (by omega)) (Nat.le_of_ble_eq_true rfl) ?_
    intro r I13924 J13925 Ra hq
    obtain ⟨⟨hI13924, ec, fiI13924, fjI13924⟩, v13926, rfl, av13926, bv13926, cv13926⟩ := hq
    show WP _ _ _ _ (.int _ :: _) _ _ _ _
    rw [ec]
    clear ec Ra
    have fr13927 : fz 74 g [43, 44, 47, 48, 50, 51, 52, 53, 55] I I13924 := fz_tr fr13912 (fz_mono fiI13924 (by decide))
    have fr13928 : fz 74 g [45, 46, 53] J J13925 := fz_tr frj0 (fz_mono fjI13924 (by decide))
    have e13929 : I13924 (ad g 53) 1 = w13898 := by rw [fz_at fiI13924 53 (by decide) (by decide)]; exact e13913
    have e13930 : I13924 (ad g 50) 3 = w13919 := by rw [fz_at fiI13924 50 (by decide) (by decide)]; exact ew13919
    have e13931 : I13924 (ad g 50) 4 = w13920 := by rw [fz_at fiI13924 50 (by decide) (by decide)]; exact ew13920
    have e13932 : I13924 (ad g 50) 0 = v13921 := by rw [fz_at fiI13924 50 (by decide) (by decide)]; exact ev13921
    have e13933 : I13924 (ad g 1) 1 = L := hI13924.2
    have b13934 := BT_get hI13924.1 1 1 2 (0) (0) (900) (by decide) 1 (by decide) (by decide)
    rw [e13933] at b13934
    refine WP_istore (ls' := [(0, _), (1, _), (2, _), (3, _), (4, _), (5, _), (6, _), (7, _), (8, _), (9, _), (10, _)]) dX9_serve_129 (by decide) rfl ?_
    refine WP_iload dX9_serve_131 rfl ?_
    refine WQ_iconst (2) (2) dX9_serve_133 rfl rfl (fun v13935 hv13935 => ?_)
    refine WQ_ishr2 dX9_serve_134 hv13935 (by omega) (by omega) (fun v13936 hv13936 => ?_)
    refine WQ_iconst (3) (3) dX9_serve_135 rfl rfl (fun v13937 hv13937 => ?_)
    refine WQ_iand3 dX9_serve_136 hv13937 (by omega) (by omega) (fun v13938 hv13938 => ?_)
    refine WP_istore (ls' := [(0, _), (1, _), (2, _), (3, _), (4, _), (5, _), (6, _), (7, _), (8, _), (9, _), (10, _), (11, _)]) dX9_serve_137 (by decide) rfl ?_
    refine WP_aload_n dX9_serve_139 rfl ?_
    refine WP_aload_n dX9_serve_140 rfl ?_
    refine WP_getr dX9_serve_141 fX9_25 rfl (lyx_is hy 49 9 rfl) (rfx hr 49 2 5 (by decide)) ?_
    refine WP_getr dX9_serve_144 fX9_49 rfl (lyx_is hy 5 0 rfl) hT ?_
    refine WQ_geti dX9_serve_147 fX9_108 rfl (lyx_is hy 6 7 rfl) (BT_get hI13924.1 6 4 5 (-1) (0) (2) (by decide) 4 (by decide) (by decide)) (fun v13939 ev13939 av13939 bv13939 => ?_)
    refine WP_iload dX9_serve_150 rfl ?_
    refine WQ_iconst (4) (4) dX9_serve_152 rfl rfl (fun v13940 hv13940 => ?_)
    refine WQ_ishr4 dX9_serve_153 hv13940 (by omega) (by omega) (fun v13941 hv13941 => ?_)
    refine WP_iload dX9_serve_154 rfl ?_
    refine WP_iload_n dX9_serve_156 rfl ?_
    refine WP_callV4 (k := 9) dX9_serve_157 ⟨⟨⟨by decide, by decide⟩, zX9_buy⟩, lX9_104, by decide, rfl, vX9_buy.1, vX9_buy.2⟩ (lyx_is hy 49 9 rfl) (sx_buyf hy hr hI13924 v13939 v13941 v13901 da (by omega) (by omega) (by omega) (by omega) (by omega) (by omega) (by omega) (by omega)) (Nat.le_of_ble_eq_true rfl) ?_
    intro r I13942 J13943 Ra hq
    obtain ⟨⟨hI13942, ec, fiI13942, fjI13942⟩, v13944, rfl, av13944, bv13944, cv13944⟩ := hq
    show WP _ _ _ _ (.int _ :: _) _ _ _ _
    rw [ec]
    clear ec Ra
    have fr13945 : fz 74 g [43, 44, 47, 48, 50, 51, 52, 53, 55] I I13942 := fz_tr fr13927 (fz_mono fiI13942 (by decide))
    have fr13946 : fz 74 g [45, 46, 53] J J13943 := fz_tr fr13928 (fz_mono fjI13942 (by decide))
    have e13947 : I13942 (ad g 53) 1 = w13898 := by rw [fz_at fiI13942 53 (by decide) (by decide)]; exact e13929
    have e13948 : I13942 (ad g 50) 3 = w13919 := by rw [fz_at fiI13942 50 (by decide) (by decide)]; exact e13930
    have e13949 : I13942 (ad g 50) 4 = w13920 := by rw [fz_at fiI13942 50 (by decide) (by decide)]; exact e13931
    have e13950 : I13942 (ad g 50) 0 = v13921 := by rw [fz_at fiI13942 50 (by decide) (by decide)]; exact e13932
    have e13951 : I13942 (ad g 6) 4 = v13939 := by rw [fz_at fiI13942 6 (by decide) (by decide)]; exact ev13939
    have e13952 : I13942 (ad g 1) 1 = L := hI13942.2
    have b13953 := BT_get hI13942.1 1 1 2 (0) (0) (900) (by decide) 1 (by decide) (by decide)
    rw [e13952] at b13953
    refine WP_istore (ls' := [(0, _), (1, _), (2, _), (3, _), (4, _), (5, _), (6, _), (7, _), (8, _), (9, _), (10, _), (11, _), (12, _)]) dX9_serve_160 (by decide) rfl ?_
    refine WP_aload_n dX9_serve_162 rfl ?_
    refine WP_getr dX9_serve_163 fX9_12 rfl (lyx_is hy 49 9 rfl) (rfx hr 49 0 50 (by decide)) ?_
    refine WP_iload dX9_serve_166 rfl ?_
    refine WP_iload dX9_serve_168 rfl ?_
    refine WP_callV2 (k := 6) dX9_serve_170 ⟨⟨⟨by decide, by decide⟩, zX6_priceOf⟩, lX9_111, by decide, rfl, vX6_priceOf.1, vX6_priceOf.2⟩ (lyx_is hy 50 6 rfl) (sx_pricex hy hr hI13942 v13926 v13944 (by omega) (by omega) (by omega) (by omega)) (Nat.le_of_ble_eq_true rfl) ?_
    intro r Ia Ja Ra hq
    obtain ⟨⟨ea, eb, ec⟩, v13954, rfl, av13954, bv13954, cv13954⟩ := hq
    show WP _ _ _ _ (.int _ :: _) _ _ _ _
    rw [ea, eb, ec]
    clear ea eb ec Ia Ja Ra
    rw [e13948] at cv13954
    rw [e13949] at cv13954
    have k1 : v13926.toInt * w13919.toInt ≤ (v13918.toInt % 4) * w13919.toInt := Int.mul_le_mul_of_nonneg_right (by omega) (by omega)
    have k2 : v13944.toInt * w13920.toInt ≤ (v13918.toInt / 16) * w13920.toInt := Int.mul_le_mul_of_nonneg_right (by omega) (by omega)
    have kp : v13954.toInt ≤ v13908.toInt := by omega
    refine WP_istore (ls' := [(0, _), (1, _), (2, _), (3, _), (4, _), (5, _), (6, _), (7, _), (8, _), (9, _), (10, _), (11, _), (12, _), (13, _)]) dX9_serve_173 (by decide) rfl ?_
    refine WP_aload_n dX9_serve_175 rfl ?_
    refine WP_dup dX9_serve_176 rfl ?_
    refine WQ_getiu dX9_serve_177 fX9_114 rfl (lyx_is hy 53 4 rfl) (fun v13955 ev13955 => ?_)
    refine WP_iload dX9_serve_180 rfl ?_
    refine WP_iload dX9_serve_182 rfl ?_
    refine WP_iload dX9_serve_184 rfl ?_
    refine WQ_iadd dX9_serve_186 (by omega) (by omega) (fun v13956 hv13956 => ?_)
    refine WQ_imulb (99) (6) dX9_serve_187 ⟨by omega, by omega⟩ ⟨by omega, by omega⟩ (by decide) (fun v13957 pv13957 av13957 bv13957 cv13957 => ?_)
    refine WQ_iaddu dX9_serve_188 (fun v13958 => ?_)
    refine WQ_puti dX9_serve_189 fX9_114 rfl rfl (lyx_is hy 53 4 rfl) (fun I13959 eI13959 => ?_)
    have hI13959 : XI g n L I13959 := by rw [eI13959]; exact (xi_f0 hy hI13942 (c := 53) (by decide) (Or.inl (by decide)) (by decide))
    have e13960 : I13959 (ad g 53) 1 = w13898 := by rw [eI13959, pp_ne _ _ (Or.inr (by decide))]; exact e13947
    have e13961 : I13959 (ad g 50) 3 = w13919 := by rw [eI13959, pp_ne _ _ (Or.inl (lyx_ne hy (by decide) (by decide) (by decide)))]; exact e13948
    have e13962 : I13959 (ad g 50) 4 = w13920 := by rw [eI13959, pp_ne _ _ (Or.inl (lyx_ne hy (by decide) (by decide) (by decide)))]; exact e13949
    have e13963 : I13959 (ad g 50) 0 = v13921 := by rw [eI13959, pp_ne _ _ (Or.inl (lyx_ne hy (by decide) (by decide) (by decide)))]; exact e13950
    have e13964 : I13959 (ad g 6) 4 = v13939 := by rw [eI13959, pp_ne _ _ (Or.inl (lyx_ne hy (by decide) (by decide) (by decide)))]; exact e13951
    have e13965 : I13959 (ad g 1) 1 = L := by rw [eI13959, pp_ne _ _ (Or.inl (lyx_ne hy (by decide) (by decide) (by decide)))]; exact e13952
    have e13966 : I13959 (ad g 53) 2 = v13958 := by rw [eI13959, pp_self]
    have fr13967 : fz 74 g [43, 44, 47, 48, 50, 51, 52, 53, 55] I I13959 := by rw [eI13959]; exact fzx_pp hy fr13945 (by decide) (by decide)
    clear eI13959
    refine WP_aload_n dX9_serve_192 rfl ?_
    refine WP_dup dX9_serve_193 rfl ?_
    refine WQ_getl dX9_serve_194 fX9_117 rfl (lyx_is hy 53 4 rfl) (fun l13968 el13968 => ?_)
    refine WP_iload dX9_serve_197 rfl ?_
    refine WP_iload dX9_serve_199 rfl ?_
    refine WP_iload dX9_serve_201 rfl ?_
    refine WQ_isub dX9_serve_203 (by omega) (by omega) (fun v13969 hv13969 => ?_)
    refine WQ_imulu dX9_serve_204 (fun v13970 => ?_)
    refine WQ_i2l dX9_serve_205 (fun l13971 hl13971 => ?_)
    refine WQ_ladd dX9_serve_206 (fun l13972 => ?_)
    refine WQ_putl dX9_serve_207 fX9_117 rfl rfl (lyx_is hy 53 4 rfl) (fun J13973 eJ13973 => ?_)
    have fr13974 : fz 74 g [45, 46, 53] J J13973 := by rw [eJ13973]; exact fzx_pp hy fr13946 (by decide) (by decide)
    clear eJ13973
    refine WP_aload_n dX9_serve_210 rfl ?_
    refine WP_getr dX9_serve_211 fX9_75 rfl (lyx_is hy 53 4 rfl) (rfx hr 53 5 55 (by decide)) ?_
    refine WP_iload dX9_serve_214 rfl ?_
    refine WQ_iconst (2) (2) dX9_serve_216 rfl rfl (fun v13975 hv13975 => ?_)
    refine WQ_iadd dX9_serve_217 (by omega) (by omega) (fun v13976 hv13976 => ?_)
    refine WP_dup2 dX9_serve_218 rfl rfl ?_
    refine WQ_ialdu dX9_serve_219 (lyx_is hy 55 13 rfl) (lyx_n hy 55 28 rfl) (by omega) (by omega) (fun v13977 => ?_)
    refine WP_iload dX9_serve_220 rfl ?_
    refine WP_iload dX9_serve_222 rfl ?_
    refine WQ_imulb (99) (60) dX9_serve_224 ⟨by omega, by omega⟩ ⟨by omega, by omega⟩ (by decide) (fun v13978 pv13978 av13978 bv13978 cv13978 => ?_)
    refine WQ_iaddu dX9_serve_225 (fun v13979 => ?_)
    refine WQ_iast dX9_serve_226 (lyx_is hy 55 13 rfl) (lyx_n hy 55 28 rfl) (by omega) (by omega) (fun I13980 eI13980 => ?_)
    have hI13980 : XI g n L I13980 := by rw [eI13980]; exact (fa_put hy hI13959 (c := 55) (k := 2) (s := so.toInt.toNat) (by decide) (by omega) (by decide) (by rw [cl (n := 7 * so.toInt.toNat + 2) (by omega)]) (fun h => absurd h (by decide)) (fun h => absurd h (by decide)))
    have e13981 : I13980 (ad g 53) 1 = w13898 := by rw [eI13980, pp_ne _ _ (Or.inl (lyx_ne hy (by decide) (by decide) (by decide)))]; exact e13960
    have e13982 : I13980 (ad g 50) 3 = w13919 := by rw [eI13980, pp_ne _ _ (Or.inl (lyx_ne hy (by decide) (by decide) (by decide)))]; exact e13961
    have e13983 : I13980 (ad g 50) 4 = w13920 := by rw [eI13980, pp_ne _ _ (Or.inl (lyx_ne hy (by decide) (by decide) (by decide)))]; exact e13962
    have e13984 : I13980 (ad g 50) 0 = v13921 := by rw [eI13980, pp_ne _ _ (Or.inl (lyx_ne hy (by decide) (by decide) (by decide)))]; exact e13963
    have e13985 : I13980 (ad g 6) 4 = v13939 := by rw [eI13980, pp_ne _ _ (Or.inl (lyx_ne hy (by decide) (by decide) (by decide)))]; exact e13964
    have e13986 : I13980 (ad g 1) 1 = L := by rw [eI13980, pp_ne _ _ (Or.inl (lyx_ne hy (by decide) (by decide) (by decide)))]; exact e13965
    have e13987 : I13980 (ad g 53) 2 = v13958 := by rw [eI13980, pp_ne _ _ (Or.inl (lyx_ne hy (by decide) (by decide) (by decide)))]; exact e13966
    have fr13988 : fz 74 g [43, 44, 47, 48, 50, 51, 52, 53, 55] I I13980 := by rw [eI13980]; exact fzx_pp hy fr13967 (by decide) (by decide)
    clear eI13980
    refine WP_aload_n dX9_serve_227 rfl ?_
    refine WP_getr dX9_serve_228 fX9_75 rfl (lyx_is hy 53 4 rfl) (rfx hr 53 5 55 (by decide)) ?_
    refine WP_iload dX9_serve_231 rfl ?_
    refine WQ_iconst (4) (4) dX9_serve_233 rfl rfl (fun v13989 hv13989 => ?_)
    refine WQ_iadd dX9_serve_234 (by omega) (by omega) (fun v13990 hv13990 => ?_)
    refine WP_dup2 dX9_serve_235 rfl rfl ?_
    refine WQ_ialdu dX9_serve_236 (lyx_is hy 55 13 rfl) (lyx_n hy 55 28 rfl) (by omega) (by omega) (fun v13991 => ?_)
    refine WP_iload dX9_serve_237 rfl ?_
    refine WP_aload_n dX9_serve_239 rfl ?_
    refine WP_getr dX9_serve_240 fX9_12 rfl (lyx_is hy 49 9 rfl) (rfx hr 49 0 50 (by decide)) ?_
    refine WQ_geti dX9_serve_243 fX9_121 rfl (lyx_is hy 50 6 rfl) (BT_get hI13980.1 50 2 3 (0) (0) (99) (by decide) 2 (by decide) (by decide)) (fun v13992 ev13992 av13992 bv13992 => ?_)
    refine WQ_imulb (99) (99) dX9_serve_246 ⟨by omega, by omega⟩ ⟨by omega, by omega⟩ (by decide) (fun v13993 pv13993 av13993 bv13993 cv13993 => ?_)
    refine WP_iload dX9_serve_247 rfl ?_
    refine WP_iload dX9_serve_249 rfl ?_
    refine WQ_iadd dX9_serve_251 (by omega) (by omega) (fun v13994 hv13994 => ?_)
    refine WQ_imulb (9801) (6) dX9_serve_252 ⟨by omega, by omega⟩ ⟨by omega, by omega⟩ (by decide) (fun v13995 pv13995 av13995 bv13995 cv13995 => ?_)
    refine WQ_iaddu dX9_serve_253 (fun v13996 => ?_)
    refine WQ_iast dX9_serve_254 (lyx_is hy 55 13 rfl) (lyx_n hy 55 28 rfl) (by omega) (by omega) (fun I13997 eI13997 => ?_)
    have hI13997 : XI g n L I13997 := by rw [eI13997]; exact (fa_put hy hI13980 (c := 55) (k := 4) (s := so.toInt.toNat) (by decide) (by omega) (by decide) (by rw [cl (n := 7 * so.toInt.toNat + 4) (by omega)]) (fun h => absurd h (by decide)) (fun h => absurd h (by decide)))
    have e13998 : I13997 (ad g 53) 1 = w13898 := by rw [eI13997, pp_ne _ _ (Or.inl (lyx_ne hy (by decide) (by decide) (by decide)))]; exact e13981
    have e13999 : I13997 (ad g 50) 3 = w13919 := by rw [eI13997, pp_ne _ _ (Or.inl (lyx_ne hy (by decide) (by decide) (by decide)))]; exact e13982
    have e14000 : I13997 (ad g 50) 4 = w13920 := by rw [eI13997, pp_ne _ _ (Or.inl (lyx_ne hy (by decide) (by decide) (by decide)))]; exact e13983
    have e14001 : I13997 (ad g 50) 0 = v13921 := by rw [eI13997, pp_ne _ _ (Or.inl (lyx_ne hy (by decide) (by decide) (by decide)))]; exact e13984
    have e14002 : I13997 (ad g 6) 4 = v13939 := by rw [eI13997, pp_ne _ _ (Or.inl (lyx_ne hy (by decide) (by decide) (by decide)))]; exact e13985
    have e14003 : I13997 (ad g 1) 1 = L := by rw [eI13997, pp_ne _ _ (Or.inl (lyx_ne hy (by decide) (by decide) (by decide)))]; exact e13986
    have e14004 : I13997 (ad g 53) 2 = v13958 := by rw [eI13997, pp_ne _ _ (Or.inl (lyx_ne hy (by decide) (by decide) (by decide)))]; exact e13987
    have e14005 : I13997 (ad g 50) 2 = v13992 := by rw [eI13997, pp_ne _ _ (Or.inl (lyx_ne hy (by decide) (by decide) (by decide)))]; exact ev13992
    have fr14006 : fz 74 g [43, 44, 47, 48, 50, 51, 52, 53, 55] I I13997 := by rw [eI13997]; exact fzx_pp hy fr13988 (by decide) (by decide)
    clear eI13997
    refine WP_aload_n dX9_serve_255 rfl ?_
    refine WP_aload_n dX9_serve_256 rfl ?_
    refine WP_iload_n dX9_serve_257 rfl ?_
    refine WP_iload_n dX9_serve_258 rfl ?_
    refine WP_iload dX9_serve_259 rfl ?_
    refine WP_iload dX9_serve_261 rfl ?_
    refine WQ_isub dX9_serve_263 (by omega) (by omega) (fun v14007 hv14007 => ?_)
    refine WP_iload dX9_serve_264 rfl ?_
    refine WP_iload dX9_serve_266 rfl ?_
    refine WQ_isub dX9_serve_268 (by omega) (by omega) (fun v14008 hv14008 => ?_)
    refine WP_iload dX9_serve_269 rfl ?_
    refine WQ_iadd dX9_serve_271 (by omega) (by omega) (fun v14009 hv14009 => ?_)
    refine WP_callV5 (k := 9) dX9_serve_272 ⟨⟨⟨by decide, by decide⟩, zX9_sleep⟩, lX9_124, by decide, rfl, vX9_sleep.1, vX9_sleep.2⟩ (lyx_is hy 49 9 rfl) (sx_wsleepf_53_6 hy hr hT hI13997 so da v14007 v14009 (by omega) (by omega) (by omega) (by omega) (by omega) (by omega) (by omega) (by omega) (by omega) (by rw [e13998]; omega)) (Nat.le_of_ble_eq_true rfl) ?_
    intro r I14010 J14011 Ra hq
    obtain ⟨⟨hI14010, ec, fiI14010, fjI14010, pI14010⟩, rfl⟩ := hq
    rw [ec]
    clear ec Ra
    have fr14012 : fz 74 g [43, 44, 47, 48, 50, 51, 52, 53, 55] I I14010 := fz_tr fr14006 (fz_mono fiI14010 (by decide))
    have fr14013 : fz 74 g [45, 46, 53] J J14011 := fz_tr fr13974 (fz_mono fjI14010 (by decide))
    have e14014 : I14010 (ad g 50) 3 = w13919 := by rw [fz_at fiI14010 50 (by decide) (by decide)]; exact e13999
    have e14015 : I14010 (ad g 50) 4 = w13920 := by rw [fz_at fiI14010 50 (by decide) (by decide)]; exact e14000
    have e14016 : I14010 (ad g 50) 0 = v13921 := by rw [fz_at fiI14010 50 (by decide) (by decide)]; exact e14001
    have e14017 : I14010 (ad g 6) 4 = v13939 := by rw [fz_at fiI14010 6 (by decide) (by decide)]; exact e14002
    have e14018 : I14010 (ad g 50) 2 = v13992 := by rw [fz_at fiI14010 50 (by decide) (by decide)]; exact e14005
    have e14019 : I14010 (ad g 1) 1 = L := hI14010.2
    have b14020 := BT_get hI14010.1 1 1 2 (0) (0) (900) (by decide) 1 (by decide) (by decide)
    rw [e14019] at b14020
    obtain ⟨w14021, ew14021⟩ : ∃ w : Int32, I14010 (ad g 53) 1 = w := ⟨_, rfl⟩
    have bw14021 := BT_get hI14010.1 53 1 2 (0) (23760) (0) (by decide) 1 (by decide) (by decide)
    rw [ew14021] at bw14021
    rw [ew14021, e13998] at pI14010
    exact WP_vret dX9_serve_275 rfl ⟨⟨hI14010, ⟨hr, ⟨hT.trans hT.symm, rfl⟩, hP⟩, fr14012, fr14013, (by rw [ew14021, ew13898]; omega)⟩, rfl⟩
  · refine WP_aload_n dX9_serve_78 rfl ?_
    refine WP_getr dX9_serve_79 fX9_29 rfl (lyx_is hy 49 9 rfl) (rfx hr 49 3 43 (by decide)) ?_
    refine WP_iload_n dX9_serve_82 rfl ?_
    refine WP_iload_n dX9_serve_83 rfl ?_
    refine WP_iload dX9_serve_84 rfl ?_
    refine WP_iload dX9_serve_86 rfl ?_
    refine WQ_bipush (7) (7) dX9_serve_88 rfl rfl (fun v14022 hv14022 => ?_)
    refine WP_callV5 (k := 2) dX9_serve_90 ⟨⟨⟨by decide, by decide⟩, zX2_search⟩, lX9_92, by decide, rfl, vX2_search.1, vX2_search.2⟩ (lyx_is hy 43 2 rfl) (sx_searchx_6 hy hr hP hT hI13910 so da v13908 v13904 v14022 (by omega) (by omega) (by omega) (by omega) (by omega) (by omega) (by omega) (by omega) (by omega) (by omega)) (Nat.le_of_ble_eq_true rfl) ?_
    intro r I14023 J14024 R14025 hq
    obtain ⟨⟨hI14023, ⟨hrI14023, ⟨htI14023, hsI14023⟩, hpI14023⟩, fiI14023, fjI14023⟩, v14026, rfl, av14026, bv14026, cv14026⟩ := hq
    show WP _ _ _ _ (.int _ :: _) _ _ _ _
    have ht_I14023 := htI14023.trans hT
    have hs_I14023 : R14025 (ad g 0) 10 = R (ad g 0) 10 := hsI14023.trans rfl
    have fr14027 : fz 74 g [43, 44, 47, 48, 50, 51, 52, 53, 55] I I14023 := fz_tr fr13912 (fz_mono fiI14023 (by decide))
    have fr14028 : fz 74 g [45, 46, 53] J J14024 := fz_tr frj0 (fz_mono fjI14023 (by decide))
    have e14029 : I14023 (ad g 53) 1 = w13898 := by rw [fz_at fiI14023 53 (by decide) (by decide)]; exact e13913
    have e14030 : I14023 (ad g 1) 1 = L := hI14023.2
    have b14031 := BT_get hI14023.1 1 1 2 (0) (0) (900) (by decide) 1 (by decide) (by decide)
    rw [e14030] at b14031
    refine WP_goto 109 dX9_serve_93 rfl ?_
    obtain ⟨T9, t1, t2⟩ := cv14026
    have acv14026 : AOKd (I13910 (ad g 50)) v13908.toInt v13904.toInt v14026.toInt := AOK_eq (LD_un t1 (LD_fr pI13910 (fz_at fiI13910 6 (by decide) (by decide)).symm (fz_at fiI13910 11 (by decide) (by decide)).symm (fz_at fiI13910 13 (by decide) (by decide)).symm (fz_at fiI13910 14 (by decide) (by decide)).symm (fz_at fiI13910 15 (by decide) (by decide)).symm (fz_at fiI13910 22 (by decide) (by decide)).symm)) t2
    obtain ⟨w14032, ew14032⟩ : ∃ w : Int32, I14023 (ad g 50) 3 = w := ⟨_, rfl⟩
    have bw14032 := BT_get hI14023.1 50 3 4 (0) (0) (20) (by decide) 3 (by decide) (by decide)
    rw [ew14032] at bw14032
    obtain ⟨w14033, ew14033⟩ : ∃ w : Int32, I14023 (ad g 50) 4 = w := ⟨_, rfl⟩
    have bw14033 := BT_get hI14023.1 50 4 5 (0) (0) (20) (by decide) 4 (by decide) (by decide)
    rw [ew14033] at bw14033
    have adv14026 := acv14026
    unfold AOKd at adv14026
    rw [← fz_at fiI14023 50 (by decide) (by decide)] at adv14026
    rw [ew14032, ew14033] at adv14026
    obtain ⟨rav14026, rbv14026, rcv14026, rdv14026, rev14026⟩ := adv14026
    refine WP_istore (ls' := [(0, _), (1, _), (2, _), (3, _), (4, _), (5, _), (6, _), (7, _), (8, _), (9, _)]) dX9_serve_109 (by decide) rfl ?_
    refine WP_aload_n dX9_serve_111 rfl ?_
    refine WP_aload_n dX9_serve_112 rfl ?_
    refine WP_getr dX9_serve_113 fX9_12 rfl (lyx_is hy 49 9 rfl) (rfx hrI14023 49 0 50 (by decide)) ?_
    refine WQ_geti dX9_serve_116 fX9_101 rfl (lyx_is hy 50 6 rfl) (BT_get hI14023.1 50 0 1 (-1) (0) (2) (by decide) 0 (by decide) (by decide)) (fun v14034 ev14034 av14034 bv14034 => ?_)
    refine WP_iload dX9_serve_119 rfl ?_
    refine WQ_iconst (3) (3) dX9_serve_121 rfl rfl (fun v14035 hv14035 => ?_)
    refine WQ_iand3 dX9_serve_122 hv14035 (by omega) (by omega) (fun v14036 hv14036 => ?_)
    refine WP_iload dX9_serve_123 rfl ?_
    refine WP_iload_n dX9_serve_125 rfl ?_
    refine WP_callV4 (k := 9) dX9_serve_126 ⟨⟨⟨by decide, by decide⟩, zX9_buy⟩, lX9_104, by decide, rfl, vX9_buy.1, vX9_buy.2⟩ (lyx_is hy 49 9 rfl) (sx_buyf hy hrI14023 hI14023 v14034 v14036 v13901 da (by omega) (by omega) (by omega) (by omega) (by omega) (by omega) (by omega) (by omega)) (Nat.le_of_ble_eq_true rfl) ?_
    intro r I14037 J14038 Ra hq
    obtain ⟨⟨hI14037, ec, fiI14037, fjI14037⟩, v14039, rfl, av14039, bv14039, cv14039⟩ := hq
    show WP _ _ _ _ (.int _ :: _) _ _ _ _
    rw [ec]
    clear ec Ra
    have fr14040 : fz 74 g [43, 44, 47, 48, 50, 51, 52, 53, 55] I I14037 := fz_tr fr14027 (fz_mono fiI14037 (by decide))
    have fr14041 : fz 74 g [45, 46, 53] J J14038 := fz_tr fr14028 (fz_mono fjI14037 (by decide))
    have e14042 : I14037 (ad g 53) 1 = w13898 := by rw [fz_at fiI14037 53 (by decide) (by decide)]; exact e14029
    have e14043 : I14037 (ad g 50) 3 = w14032 := by rw [fz_at fiI14037 50 (by decide) (by decide)]; exact ew14032
    have e14044 : I14037 (ad g 50) 4 = w14033 := by rw [fz_at fiI14037 50 (by decide) (by decide)]; exact ew14033
    have e14045 : I14037 (ad g 50) 0 = v14034 := by rw [fz_at fiI14037 50 (by decide) (by decide)]; exact ev14034
    have e14046 : I14037 (ad g 1) 1 = L := hI14037.2
    have b14047 := BT_get hI14037.1 1 1 2 (0) (0) (900) (by decide) 1 (by decide) (by decide)
    rw [e14046] at b14047
    refine WP_istore (ls' := [(0, _), (1, _), (2, _), (3, _), (4, _), (5, _), (6, _), (7, _), (8, _), (9, _), (10, _)]) dX9_serve_129 (by decide) rfl ?_
    refine WP_iload dX9_serve_131 rfl ?_
    refine WQ_iconst (2) (2) dX9_serve_133 rfl rfl (fun v14048 hv14048 => ?_)
    refine WQ_ishr2 dX9_serve_134 hv14048 (by omega) (by omega) (fun v14049 hv14049 => ?_)
    refine WQ_iconst (3) (3) dX9_serve_135 rfl rfl (fun v14050 hv14050 => ?_)
    refine WQ_iand3 dX9_serve_136 hv14050 (by omega) (by omega) (fun v14051 hv14051 => ?_)
    refine WP_istore (ls' := [(0, _), (1, _), (2, _), (3, _), (4, _), (5, _), (6, _), (7, _), (8, _), (9, _), (10, _), (11, _)]) dX9_serve_137 (by decide) rfl ?_
    refine WP_aload_n dX9_serve_139 rfl ?_
    refine WP_aload_n dX9_serve_140 rfl ?_
    refine WP_getr dX9_serve_141 fX9_25 rfl (lyx_is hy 49 9 rfl) (rfx hrI14023 49 2 5 (by decide)) ?_
    refine WP_getr dX9_serve_144 fX9_49 rfl (lyx_is hy 5 0 rfl) ht_I14023 ?_
    refine WQ_geti dX9_serve_147 fX9_108 rfl (lyx_is hy 6 7 rfl) (BT_get hI14037.1 6 4 5 (-1) (0) (2) (by decide) 4 (by decide) (by decide)) (fun v14052 ev14052 av14052 bv14052 => ?_)
    refine WP_iload dX9_serve_150 rfl ?_
    refine WQ_iconst (4) (4) dX9_serve_152 rfl rfl (fun v14053 hv14053 => ?_)
    refine WQ_ishr4 dX9_serve_153 hv14053 (by omega) (by omega) (fun v14054 hv14054 => ?_)
    refine WP_iload dX9_serve_154 rfl ?_
    refine WP_iload_n dX9_serve_156 rfl ?_
    refine WP_callV4 (k := 9) dX9_serve_157 ⟨⟨⟨by decide, by decide⟩, zX9_buy⟩, lX9_104, by decide, rfl, vX9_buy.1, vX9_buy.2⟩ (lyx_is hy 49 9 rfl) (sx_buyf hy hrI14023 hI14037 v14052 v14054 v13901 da (by omega) (by omega) (by omega) (by omega) (by omega) (by omega) (by omega) (by omega)) (Nat.le_of_ble_eq_true rfl) ?_
    intro r I14055 J14056 Ra hq
    obtain ⟨⟨hI14055, ec, fiI14055, fjI14055⟩, v14057, rfl, av14057, bv14057, cv14057⟩ := hq
    show WP _ _ _ _ (.int _ :: _) _ _ _ _
    rw [ec]
    clear ec Ra
    have fr14058 : fz 74 g [43, 44, 47, 48, 50, 51, 52, 53, 55] I I14055 := fz_tr fr14040 (fz_mono fiI14055 (by decide))
    have fr14059 : fz 74 g [45, 46, 53] J J14056 := fz_tr fr14041 (fz_mono fjI14055 (by decide))
    have e14060 : I14055 (ad g 53) 1 = w13898 := by rw [fz_at fiI14055 53 (by decide) (by decide)]; exact e14042
    have e14061 : I14055 (ad g 50) 3 = w14032 := by rw [fz_at fiI14055 50 (by decide) (by decide)]; exact e14043
    have e14062 : I14055 (ad g 50) 4 = w14033 := by rw [fz_at fiI14055 50 (by decide) (by decide)]; exact e14044
    have e14063 : I14055 (ad g 50) 0 = v14034 := by rw [fz_at fiI14055 50 (by decide) (by decide)]; exact e14045
    have e14064 : I14055 (ad g 6) 4 = v14052 := by rw [fz_at fiI14055 6 (by decide) (by decide)]; exact ev14052
    have e14065 : I14055 (ad g 1) 1 = L := hI14055.2
    have b14066 := BT_get hI14055.1 1 1 2 (0) (0) (900) (by decide) 1 (by decide) (by decide)
    rw [e14065] at b14066
    refine WP_istore (ls' := [(0, _), (1, _), (2, _), (3, _), (4, _), (5, _), (6, _), (7, _), (8, _), (9, _), (10, _), (11, _), (12, _)]) dX9_serve_160 (by decide) rfl ?_
    refine WP_aload_n dX9_serve_162 rfl ?_
    refine WP_getr dX9_serve_163 fX9_12 rfl (lyx_is hy 49 9 rfl) (rfx hrI14023 49 0 50 (by decide)) ?_
    refine WP_iload dX9_serve_166 rfl ?_
    refine WP_iload dX9_serve_168 rfl ?_
    refine WP_callV2 (k := 6) dX9_serve_170 ⟨⟨⟨by decide, by decide⟩, zX6_priceOf⟩, lX9_111, by decide, rfl, vX6_priceOf.1, vX6_priceOf.2⟩ (lyx_is hy 50 6 rfl) (sx_pricex hy hrI14023 hI14055 v14039 v14057 (by omega) (by omega) (by omega) (by omega)) (Nat.le_of_ble_eq_true rfl) ?_
    intro r Ia Ja Ra hq
    obtain ⟨⟨ea, eb, ec⟩, v14067, rfl, av14067, bv14067, cv14067⟩ := hq
    show WP _ _ _ _ (.int _ :: _) _ _ _ _
    rw [ea, eb, ec]
    clear ea eb ec Ia Ja Ra
    rw [e14061] at cv14067
    rw [e14062] at cv14067
    have k1 : v14039.toInt * w14032.toInt ≤ (v14026.toInt % 4) * w14032.toInt := Int.mul_le_mul_of_nonneg_right (by omega) (by omega)
    have k2 : v14057.toInt * w14033.toInt ≤ (v14026.toInt / 16) * w14033.toInt := Int.mul_le_mul_of_nonneg_right (by omega) (by omega)
    have kp : v14067.toInt ≤ v13908.toInt := by omega
    refine WP_istore (ls' := [(0, _), (1, _), (2, _), (3, _), (4, _), (5, _), (6, _), (7, _), (8, _), (9, _), (10, _), (11, _), (12, _), (13, _)]) dX9_serve_173 (by decide) rfl ?_
    refine WP_aload_n dX9_serve_175 rfl ?_
    refine WP_dup dX9_serve_176 rfl ?_
    refine WQ_getiu dX9_serve_177 fX9_114 rfl (lyx_is hy 53 4 rfl) (fun v14068 ev14068 => ?_)
    refine WP_iload dX9_serve_180 rfl ?_
    refine WP_iload dX9_serve_182 rfl ?_
    refine WP_iload dX9_serve_184 rfl ?_
    refine WQ_iadd dX9_serve_186 (by omega) (by omega) (fun v14069 hv14069 => ?_)
    refine WQ_imulb (99) (6) dX9_serve_187 ⟨by omega, by omega⟩ ⟨by omega, by omega⟩ (by decide) (fun v14070 pv14070 av14070 bv14070 cv14070 => ?_)
    refine WQ_iaddu dX9_serve_188 (fun v14071 => ?_)
    refine WQ_puti dX9_serve_189 fX9_114 rfl rfl (lyx_is hy 53 4 rfl) (fun I14072 eI14072 => ?_)
    have hI14072 : XI g n L I14072 := by rw [eI14072]; exact (xi_f0 hy hI14055 (c := 53) (by decide) (Or.inl (by decide)) (by decide))
    have e14073 : I14072 (ad g 53) 1 = w13898 := by rw [eI14072, pp_ne _ _ (Or.inr (by decide))]; exact e14060
    have e14074 : I14072 (ad g 50) 3 = w14032 := by rw [eI14072, pp_ne _ _ (Or.inl (lyx_ne hy (by decide) (by decide) (by decide)))]; exact e14061
    have e14075 : I14072 (ad g 50) 4 = w14033 := by rw [eI14072, pp_ne _ _ (Or.inl (lyx_ne hy (by decide) (by decide) (by decide)))]; exact e14062
    have e14076 : I14072 (ad g 50) 0 = v14034 := by rw [eI14072, pp_ne _ _ (Or.inl (lyx_ne hy (by decide) (by decide) (by decide)))]; exact e14063
    have e14077 : I14072 (ad g 6) 4 = v14052 := by rw [eI14072, pp_ne _ _ (Or.inl (lyx_ne hy (by decide) (by decide) (by decide)))]; exact e14064
    have e14078 : I14072 (ad g 1) 1 = L := by rw [eI14072, pp_ne _ _ (Or.inl (lyx_ne hy (by decide) (by decide) (by decide)))]; exact e14065
    have e14079 : I14072 (ad g 53) 2 = v14071 := by rw [eI14072, pp_self]
    have fr14080 : fz 74 g [43, 44, 47, 48, 50, 51, 52, 53, 55] I I14072 := by rw [eI14072]; exact fzx_pp hy fr14058 (by decide) (by decide)
    clear eI14072
    refine WP_aload_n dX9_serve_192 rfl ?_
    refine WP_dup dX9_serve_193 rfl ?_
    refine WQ_getl dX9_serve_194 fX9_117 rfl (lyx_is hy 53 4 rfl) (fun l14081 el14081 => ?_)
    refine WP_iload dX9_serve_197 rfl ?_
    refine WP_iload dX9_serve_199 rfl ?_
    refine WP_iload dX9_serve_201 rfl ?_
    refine WQ_isub dX9_serve_203 (by omega) (by omega) (fun v14082 hv14082 => ?_)
    refine WQ_imulu dX9_serve_204 (fun v14083 => ?_)
    refine WQ_i2l dX9_serve_205 (fun l14084 hl14084 => ?_)
    refine WQ_ladd dX9_serve_206 (fun l14085 => ?_)
    refine WQ_putl dX9_serve_207 fX9_117 rfl rfl (lyx_is hy 53 4 rfl) (fun J14086 eJ14086 => ?_)
    have fr14087 : fz 74 g [45, 46, 53] J J14086 := by rw [eJ14086]; exact fzx_pp hy fr14059 (by decide) (by decide)
    clear eJ14086
    refine WP_aload_n dX9_serve_210 rfl ?_
    refine WP_getr dX9_serve_211 fX9_75 rfl (lyx_is hy 53 4 rfl) (rfx hrI14023 53 5 55 (by decide)) ?_
    refine WP_iload dX9_serve_214 rfl ?_
    refine WQ_iconst (2) (2) dX9_serve_216 rfl rfl (fun v14088 hv14088 => ?_)
    refine WQ_iadd dX9_serve_217 (by omega) (by omega) (fun v14089 hv14089 => ?_)
    refine WP_dup2 dX9_serve_218 rfl rfl ?_
    refine WQ_ialdu dX9_serve_219 (lyx_is hy 55 13 rfl) (lyx_n hy 55 28 rfl) (by omega) (by omega) (fun v14090 => ?_)
    refine WP_iload dX9_serve_220 rfl ?_
    refine WP_iload dX9_serve_222 rfl ?_
    refine WQ_imulb (99) (60) dX9_serve_224 ⟨by omega, by omega⟩ ⟨by omega, by omega⟩ (by decide) (fun v14091 pv14091 av14091 bv14091 cv14091 => ?_)
    refine WQ_iaddu dX9_serve_225 (fun v14092 => ?_)
    refine WQ_iast dX9_serve_226 (lyx_is hy 55 13 rfl) (lyx_n hy 55 28 rfl) (by omega) (by omega) (fun I14093 eI14093 => ?_)
    have hI14093 : XI g n L I14093 := by rw [eI14093]; exact (fa_put hy hI14072 (c := 55) (k := 2) (s := so.toInt.toNat) (by decide) (by omega) (by decide) (by rw [cl (n := 7 * so.toInt.toNat + 2) (by omega)]) (fun h => absurd h (by decide)) (fun h => absurd h (by decide)))
    have e14094 : I14093 (ad g 53) 1 = w13898 := by rw [eI14093, pp_ne _ _ (Or.inl (lyx_ne hy (by decide) (by decide) (by decide)))]; exact e14073
    have e14095 : I14093 (ad g 50) 3 = w14032 := by rw [eI14093, pp_ne _ _ (Or.inl (lyx_ne hy (by decide) (by decide) (by decide)))]; exact e14074
    have e14096 : I14093 (ad g 50) 4 = w14033 := by rw [eI14093, pp_ne _ _ (Or.inl (lyx_ne hy (by decide) (by decide) (by decide)))]; exact e14075
    have e14097 : I14093 (ad g 50) 0 = v14034 := by rw [eI14093, pp_ne _ _ (Or.inl (lyx_ne hy (by decide) (by decide) (by decide)))]; exact e14076
    have e14098 : I14093 (ad g 6) 4 = v14052 := by rw [eI14093, pp_ne _ _ (Or.inl (lyx_ne hy (by decide) (by decide) (by decide)))]; exact e14077
    have e14099 : I14093 (ad g 1) 1 = L := by rw [eI14093, pp_ne _ _ (Or.inl (lyx_ne hy (by decide) (by decide) (by decide)))]; exact e14078
    have e14100 : I14093 (ad g 53) 2 = v14071 := by rw [eI14093, pp_ne _ _ (Or.inl (lyx_ne hy (by decide) (by decide) (by decide)))]; exact e14079
    have fr14101 : fz 74 g [43, 44, 47, 48, 50, 51, 52, 53, 55] I I14093 := by rw [eI14093]; exact fzx_pp hy fr14080 (by decide) (by decide)
    clear eI14093
    refine WP_aload_n dX9_serve_227 rfl ?_
    refine WP_getr dX9_serve_228 fX9_75 rfl (lyx_is hy 53 4 rfl) (rfx hrI14023 53 5 55 (by decide)) ?_
    refine WP_iload dX9_serve_231 rfl ?_
    refine WQ_iconst (4) (4) dX9_serve_233 rfl rfl (fun v14102 hv14102 => ?_)
    refine WQ_iadd dX9_serve_234 (by omega) (by omega) (fun v14103 hv14103 => ?_)
    refine WP_dup2 dX9_serve_235 rfl rfl ?_
    refine WQ_ialdu dX9_serve_236 (lyx_is hy 55 13 rfl) (lyx_n hy 55 28 rfl) (by omega) (by omega) (fun v14104 => ?_)
    refine WP_iload dX9_serve_237 rfl ?_
    refine WP_aload_n dX9_serve_239 rfl ?_
    refine WP_getr dX9_serve_240 fX9_12 rfl (lyx_is hy 49 9 rfl) (rfx hrI14023 49 0 50 (by decide)) ?_
    refine WQ_geti dX9_serve_243 fX9_121 rfl (lyx_is hy 50 6 rfl) (BT_get hI14093.1 50 2 3 (0) (0) (99) (by decide) 2 (by decide) (by decide)) (fun v14105 ev14105 av14105 bv14105 => ?_)
    refine WQ_imulb (99) (99) dX9_serve_246 ⟨by omega, by omega⟩ ⟨by omega, by omega⟩ (by decide) (fun v14106 pv14106 av14106 bv14106 cv14106 => ?_)
    refine WP_iload dX9_serve_247 rfl ?_
    refine WP_iload dX9_serve_249 rfl ?_
    refine WQ_iadd dX9_serve_251 (by omega) (by omega) (fun v14107 hv14107 => ?_)
    refine WQ_imulb (9801) (6) dX9_serve_252 ⟨by omega, by omega⟩ ⟨by omega, by omega⟩ (by decide) (fun v14108 pv14108 av14108 bv14108 cv14108 => ?_)
    refine WQ_iaddu dX9_serve_253 (fun v14109 => ?_)
    refine WQ_iast dX9_serve_254 (lyx_is hy 55 13 rfl) (lyx_n hy 55 28 rfl) (by omega) (by omega) (fun I14110 eI14110 => ?_)
    have hI14110 : XI g n L I14110 := by rw [eI14110]; exact (fa_put hy hI14093 (c := 55) (k := 4) (s := so.toInt.toNat) (by decide) (by omega) (by decide) (by rw [cl (n := 7 * so.toInt.toNat + 4) (by omega)]) (fun h => absurd h (by decide)) (fun h => absurd h (by decide)))
    have e14111 : I14110 (ad g 53) 1 = w13898 := by rw [eI14110, pp_ne _ _ (Or.inl (lyx_ne hy (by decide) (by decide) (by decide)))]; exact e14094
    have e14112 : I14110 (ad g 50) 3 = w14032 := by rw [eI14110, pp_ne _ _ (Or.inl (lyx_ne hy (by decide) (by decide) (by decide)))]; exact e14095
    have e14113 : I14110 (ad g 50) 4 = w14033 := by rw [eI14110, pp_ne _ _ (Or.inl (lyx_ne hy (by decide) (by decide) (by decide)))]; exact e14096
    have e14114 : I14110 (ad g 50) 0 = v14034 := by rw [eI14110, pp_ne _ _ (Or.inl (lyx_ne hy (by decide) (by decide) (by decide)))]; exact e14097
    have e14115 : I14110 (ad g 6) 4 = v14052 := by rw [eI14110, pp_ne _ _ (Or.inl (lyx_ne hy (by decide) (by decide) (by decide)))]; exact e14098
    have e14116 : I14110 (ad g 1) 1 = L := by rw [eI14110, pp_ne _ _ (Or.inl (lyx_ne hy (by decide) (by decide) (by decide)))]; exact e14099
    have e14117 : I14110 (ad g 53) 2 = v14071 := by rw [eI14110, pp_ne _ _ (Or.inl (lyx_ne hy (by decide) (by decide) (by decide)))]; exact e14100
    have e14118 : I14110 (ad g 50) 2 = v14105 := by rw [eI14110, pp_ne _ _ (Or.inl (lyx_ne hy (by decide) (by decide) (by decide)))]; exact ev14105
    have fr14119 : fz 74 g [43, 44, 47, 48, 50, 51, 52, 53, 55] I I14110 := by rw [eI14110]; exact fzx_pp hy fr14101 (by decide) (by decide)
    clear eI14110
    refine WP_aload_n dX9_serve_255 rfl ?_
    refine WP_aload_n dX9_serve_256 rfl ?_
    refine WP_iload_n dX9_serve_257 rfl ?_
    refine WP_iload_n dX9_serve_258 rfl ?_
    refine WP_iload dX9_serve_259 rfl ?_
    refine WP_iload dX9_serve_261 rfl ?_
    refine WQ_isub dX9_serve_263 (by omega) (by omega) (fun v14120 hv14120 => ?_)
    refine WP_iload dX9_serve_264 rfl ?_
    refine WP_iload dX9_serve_266 rfl ?_
    refine WQ_isub dX9_serve_268 (by omega) (by omega) (fun v14121 hv14121 => ?_)
    refine WP_iload dX9_serve_269 rfl ?_
    refine WQ_iadd dX9_serve_271 (by omega) (by omega) (fun v14122 hv14122 => ?_)
    refine WP_callV5 (k := 9) dX9_serve_272 ⟨⟨⟨by decide, by decide⟩, zX9_sleep⟩, lX9_124, by decide, rfl, vX9_sleep.1, vX9_sleep.2⟩ (lyx_is hy 49 9 rfl) (sx_wsleepf_53_6 hy hrI14023 ht_I14023 hI14110 so da v14120 v14122 (by omega) (by omega) (by omega) (by omega) (by omega) (by omega) (by omega) (by omega) (by omega) (by rw [e14111]; omega)) (Nat.le_of_ble_eq_true rfl) ?_
    intro r I14123 J14124 Ra hq
    obtain ⟨⟨hI14123, ec, fiI14123, fjI14123, pI14123⟩, rfl⟩ := hq
    rw [ec]
    clear ec Ra
    have fr14125 : fz 74 g [43, 44, 47, 48, 50, 51, 52, 53, 55] I I14123 := fz_tr fr14119 (fz_mono fiI14123 (by decide))
    have fr14126 : fz 74 g [45, 46, 53] J J14124 := fz_tr fr14087 (fz_mono fjI14123 (by decide))
    have e14127 : I14123 (ad g 50) 3 = w14032 := by rw [fz_at fiI14123 50 (by decide) (by decide)]; exact e14112
    have e14128 : I14123 (ad g 50) 4 = w14033 := by rw [fz_at fiI14123 50 (by decide) (by decide)]; exact e14113
    have e14129 : I14123 (ad g 50) 0 = v14034 := by rw [fz_at fiI14123 50 (by decide) (by decide)]; exact e14114
    have e14130 : I14123 (ad g 6) 4 = v14052 := by rw [fz_at fiI14123 6 (by decide) (by decide)]; exact e14115
    have e14131 : I14123 (ad g 50) 2 = v14105 := by rw [fz_at fiI14123 50 (by decide) (by decide)]; exact e14118
    have e14132 : I14123 (ad g 1) 1 = L := hI14123.2
    have b14133 := BT_get hI14123.1 1 1 2 (0) (0) (900) (by decide) 1 (by decide) (by decide)
    rw [e14132] at b14133
    obtain ⟨w14134, ew14134⟩ : ∃ w : Int32, I14123 (ad g 53) 1 = w := ⟨_, rfl⟩
    have bw14134 := BT_get hI14123.1 53 1 2 (0) (23760) (0) (by decide) 1 (by decide) (by decide)
    rw [ew14134] at bw14134
    rw [ew14134, e14111] at pI14123
    exact WP_vret dX9_serve_275 rfl ⟨⟨hI14123, ⟨hrI14023, ⟨ht_I14023.trans hT.symm, hs_I14023⟩, hpI14023⟩, fr14125, fr14126, (by rw [ew14134, ew13898]; omega)⟩, rfl⟩
set_option maxHeartbeats 4000000 in
set_option maxRecDepth 100000 in
theorem sx_serve_53_27 {g : GG} {n : Int} {L : Int32} (hy : LyX g)  {I : pI} {J : pJ} {R : pR} (hr : RfX g R) (hP : NL g R) (hT : R (ad g 5) 0 = some (ad g 27)) (hI : XI g n L I) (so : Int32) (da : Int32) (so_lo : 0 ≤ so.toInt) (so_hi : so.toInt ≤ 3) (da_lo : 0 ≤ da.toInt) (da_hi : da.toInt ≤ 6) (hn : 0 ≤ n ∧ n ≤ 40000) (hb : (I (ad g 53) 1).toInt ≤ 23760 * n + 0 - 5940) : SP g mX9_serve [.ref (ad g 49), .ref (ad g 53), .int so, .int da] I J R (fun r I' J' R' => (XI g n L I' ∧ (RfX g R' ∧ (R' (ad g 5) 0 = R (ad g 5) 0 ∧ R' (ad g 0) 10 = R (ad g 0) 10) ∧ NL g R') ∧ fz 74 g [43, 44, 47, 48, 50, 51, 52, 53, 55] I I' ∧ fz 74 g [45, 46, 53] J J' ∧ (I' (ad g 53) 1).toInt ≤ (I (ad g 53) 1).toInt + 5940) ∧ r = none) := by
  refine SP_of ⟨by decide, rfl⟩ (Nat.le_of_ble_eq_true rfl) ?_
  have e14135 : I (ad g 1) 1 = L := hI.2
  have b14136 := BT_get hI.1 1 1 2 (0) (0) (900) (by decide) 1 (by decide) (by decide)
  rw [e14135] at b14136
  have fr0 : fz 74 g [43, 44, 47, 48, 50, 51, 52, 53, 55] I I := fz_rf
  have frj0 : fz 74 g [45, 46, 53] J J := fz_rf
  obtain ⟨w14137, ew14137⟩ : ∃ w : Int32, I (ad g 53) 1 = w := ⟨_, rfl⟩
  have bw14137 := BT_get hI.1 53 1 2 (0) (23760) (0) (by decide) 1 (by decide) (by decide)
  rw [ew14137] at bw14137
  rw [ew14137] at hb
  refine WP_iload_n dX9_serve_0 rfl ?_
  refine WQ_bipush (7) (7) dX9_serve_1 rfl rfl (fun v14138 hv14138 => ?_)
  refine WQ_imulk (7) dX9_serve_3 hv14138 (by omega) (by omega) (fun v14139 hv14139 => ?_)
  refine WP_istore (ls' := [(0, _), (1, _), (2, _), (3, _), (4, _)]) dX9_serve_4 (by decide) rfl ?_
  refine WP_aload_n dX9_serve_6 rfl ?_
  refine WP_getr dX9_serve_7 fX9_25 rfl (lyx_is hy 49 9 rfl) (rfx hr 49 2 5 (by decide)) ?_
  refine WP_getr dX9_serve_10 fX9_49 rfl (lyx_is hy 5 0 rfl) hT ?_
  refine WP_getr dX9_serve_13 fX9_71 rfl (lyx_is hy 27 7 rfl) (rfx hr 27 6 29 (by decide)) ?_
  refine WP_iload_n dX9_serve_16 rfl ?_
  refine WQ_iald dX9_serve_17 (lyx_is hy 29 13 rfl) (lyx_n hy 29 4 rfl) (by omega) (by omega) (fun q hq => BT_get hI.1 29 0 4 (0) (0) (99) (by decide) q (Nat.zero_le _) hq) (fun v14140 av14140 bv14140 ev14140 => ?_)
  clear ev14140
  refine WP_istore (ls' := [(0, _), (1, _), (2, _), (3, _), (4, _), (5, _)]) dX9_serve_18 (by decide) rfl ?_
  refine WP_aload_n dX9_serve_20 rfl ?_
  refine WP_getr dX9_serve_21 fX9_75 rfl (lyx_is hy 53 4 rfl) (rfx hr 53 5 55 (by decide)) ?_
  refine WP_iload dX9_serve_24 rfl ?_
  refine WQ_iconst (1) (1) dX9_serve_26 rfl rfl (fun v14141 hv14141 => ?_)
  refine WQ_iadd dX9_serve_27 (by omega) (by omega) (fun v14142 hv14142 => ?_)
  refine WQ_ialdf (q := 7 * so.toInt.toNat + 1) dX9_serve_28 (lyx_is hy 55 13 rfl) (lyx_n hy 55 28 rfl) (by omega) (by omega) (by omega) (fa_get1 hI (c := 55) (by decide) (by omega)) (fun v14143 av14143 bv14143 => ?_)
  refine WP_istore (ls' := [(0, _), (1, _), (2, _), (3, _), (4, _), (5, _), (6, _)]) dX9_serve_29 (by decide) rfl ?_
  refine WP_aload_n dX9_serve_31 rfl ?_
  refine WP_getr dX9_serve_32 fX9_25 rfl (lyx_is hy 49 9 rfl) (rfx hr 49 2 5 (by decide)) ?_
  refine WP_iload_n dX9_serve_35 rfl ?_
  refine WP_iload_n dX9_serve_36 rfl ?_
  refine WP_aload_n dX9_serve_37 rfl ?_
  refine WP_getr dX9_serve_38 fX9_75 rfl (lyx_is hy 53 4 rfl) (rfx hr 53 5 55 (by decide)) ?_
  refine WP_iload dX9_serve_41 rfl ?_
  refine WQ_iconst (0) (0) dX9_serve_43 rfl rfl (fun v14144 hv14144 => ?_)
  refine WQ_iadd dX9_serve_44 (by omega) (by omega) (fun v14145 hv14145 => ?_)
  refine WQ_ialdf (q := 7 * so.toInt.toNat) dX9_serve_45 (lyx_is hy 55 13 rfl) (lyx_n hy 55 28 rfl) (by omega) (by omega) (by omega) (fa_get0 hI (c := 55) (by decide) (by omega)) (fun v14146 av14146 bv14146 => ?_)
  refine WP_callV3 (k := 0) dX9_serve_46 ⟨⟨⟨by decide, by decide⟩, zX0_earned⟩, lX9_81, by decide, rfl, vX0_earned.1, vX0_earned.2⟩ (lyx_is hy 5 0 rfl) (sx_earned_27 hy hr hT hI so da v14146 (by omega) (by omega) (by omega) (by omega) (by omega) (by omega)) (Nat.le_of_ble_eq_true rfl) ?_
  intro r Ia Ja Ra hq
  obtain ⟨⟨ea, eb, ec⟩, v14147, rfl, av14147, bv14147, cv14147⟩ := hq
  show WP _ _ _ _ (.int _ :: _) _ _ _ _
  rw [ea, eb, ec]
  clear ea eb ec Ia Ja Ra
  refine WP_istore (ls' := [(0, _), (1, _), (2, _), (3, _), (4, _), (5, _), (6, _), (7, _)]) dX9_serve_49 (by decide) rfl ?_
  refine WP_aload_n dX9_serve_51 rfl ?_
  refine WP_getr dX9_serve_52 fX9_85 rfl (lyx_is hy 53 4 rfl) (rfx hr 53 4 54 (by decide)) ?_
  refine WP_iload_n dX9_serve_55 rfl ?_
  refine WQ_ialdu dX9_serve_56 (lyx_is hy 54 13 rfl) (lyx_n hy 54 4 rfl) (by omega) (by omega) (fun v14148 => ?_)
  refine WP_istore (ls' := [(0, _), (1, _), (2, _), (3, _), (4, _), (5, _), (6, _), (7, _), (8, _)]) dX9_serve_57 (by decide) rfl ?_
  refine WP_aload_n dX9_serve_59 rfl ?_
  refine WP_getr dX9_serve_60 fX9_12 rfl (lyx_is hy 49 9 rfl) (rfx hr 49 0 50 (by decide)) ?_
  refine WP_aload_n dX9_serve_63 rfl ?_
  refine WP_getr dX9_serve_64 fX9_25 rfl (lyx_is hy 49 9 rfl) (rfx hr 49 2 5 (by decide)) ?_
  refine WP_iload_n dX9_serve_67 rfl ?_
  refine WP_iload_n dX9_serve_68 rfl ?_
  refine WP_callV3 (k := 6) dX9_serve_69 ⟨⟨⟨by decide, by decide⟩, zX6_load⟩, lX9_88, by decide, rfl, vX6_load.1, vX6_load.2⟩ (lyx_is hy 50 6 rfl) (sx_loadx_50_27 hy hr hT hI so da (by omega) (by omega) (by omega) (by omega)) (Nat.le_of_ble_eq_true rfl) ?_
  intro r I14149 J14150 Ra hq
  obtain ⟨⟨hI14149, ec, fiI14149, ejI14149, pI14149⟩, rfl⟩ := hq
  rw [ec]
  clear ec Ra
  have fr14151 : fz 74 g [43, 44, 47, 48, 50, 51, 52, 53, 55] I I14149 := fz_tr fr0 (fz_mono fiI14149 (by decide))
  rw [ejI14149]
  clear ejI14149 J14150
  have e14152 : I14149 (ad g 53) 1 = w14137 := by rw [fz_at fiI14149 53 (by decide) (by decide)]; exact ew14137
  have e14153 : I14149 (ad g 1) 1 = L := hI14149.2
  have b14154 := BT_get hI14149.1 1 1 2 (0) (0) (900) (by decide) 1 (by decide) (by decide)
  rw [e14153] at b14154
  refine WP_iload dX9_serve_72 rfl ?_
  refine WQ_iconst (3) (3) dX9_serve_74 rfl rfl (fun v14155 hv14155 => ?_)
  refine WQ_icmp_ne 96 dX9_serve_75 rfl (fun c14155 => ?_) (fun c14155 => ?_)
  · refine WP_aload_n dX9_serve_96 rfl ?_
    refine WP_getr dX9_serve_97 fX9_12 rfl (lyx_is hy 49 9 rfl) (rfx hr 49 0 50 (by decide)) ?_
    refine WP_iload dX9_serve_100 rfl ?_
    refine WP_iload dX9_serve_102 rfl ?_
    refine WP_iload dX9_serve_104 rfl ?_
    refine WP_callV3 (k := 6) dX9_serve_106 ⟨⟨⟨by decide, by decide⟩, zX6_habit⟩, lX9_98, by decide, rfl, vX6_habit.1, vX6_habit.2⟩ (lyx_is hy 50 6 rfl) (sx_habita hy hr hI14149 v14148 v14147 v14143  (by omega) (by omega) (by omega) (by omega)) (Nat.le_of_ble_eq_true rfl) ?_
    intro r Ia Ja Ra hq
    obtain ⟨⟨ea, eb, ec⟩, v14157, rfl, av14157, bv14157, cv14157⟩ := hq
    show WP _ _ _ _ (.int _ :: _) _ _ _ _
    rw [ea, eb, ec]
    clear ea eb ec Ia Ja Ra
    have acv14157 : AOKd (I14149 (ad g 50)) v14147.toInt v14143.toInt v14157.toInt := by unfold AOKd; exact ⟨by omega, by omega, cv14157.1, cv14157.2.1, cv14157.2.2⟩
    obtain ⟨w14158, ew14158⟩ : ∃ w : Int32, I14149 (ad g 50) 3 = w := ⟨_, rfl⟩
    have bw14158 := BT_get hI14149.1 50 3 4 (0) (0) (20) (by decide) 3 (by decide) (by decide)
    rw [ew14158] at bw14158
    obtain ⟨w14159, ew14159⟩ : ∃ w : Int32, I14149 (ad g 50) 4 = w := ⟨_, rfl⟩
    have bw14159 := BT_get hI14149.1 50 4 5 (0) (0) (20) (by decide) 4 (by decide) (by decide)
    rw [ew14159] at bw14159
    have adv14157 := acv14157
    unfold AOKd at adv14157
    rw [ew14158, ew14159] at adv14157
    obtain ⟨rav14157, rbv14157, rcv14157, rdv14157, rev14157⟩ := adv14157
    refine WP_istore (ls' := [(0, _), (1, _), (2, _), (3, _), (4, _), (5, _), (6, _), (7, _), (8, _), (9, _)]) dX9_serve_109 (by decide) rfl ?_
    refine WP_aload_n dX9_serve_111 rfl ?_
    refine WP_aload_n dX9_serve_112 rfl ?_
    refine WP_getr dX9_serve_113 fX9_12 rfl (lyx_is hy 49 9 rfl) (rfx hr 49 0 50 (by decide)) ?_
    refine WQ_geti dX9_serve_116 fX9_101 rfl (lyx_is hy 50 6 rfl) (BT_get hI14149.1 50 0 1 (-1) (0) (2) (by decide) 0 (by decide) (by decide)) (fun v14160 ev14160 av14160 bv14160 => ?_)
    refine WP_iload dX9_serve_119 rfl ?_
    refine WQ_iconst (3) (3) dX9_serve_121 rfl rfl (fun v14161 hv14161 => ?_)
    refine WQ_iand3 dX9_serve_122 hv14161 (by omega) (by omega) (fun v14162 hv14162 => ?_)
    refine WP_iload dX9_serve_123 rfl ?_
    refine WP_iload_n dX9_serve_125 rfl ?_
    refine WP_callV4 (k := 9) dX9_serve_126 ⟨⟨⟨by decide, by decide⟩, zX9_buy⟩, lX9_104, by decide, rfl, vX9_buy.1, vX9_buy.2⟩ (lyx_is hy 49 9 rfl) (sx_buyf hy hr hI14149 v14160 v14162 v14140 da (by omega) (by omega) (by omega) (by omega) (by omega) (by omega) (by omega) (by omega)) (Nat.le_of_ble_eq_true rfl) ?_
    intro r I14163 J14164 Ra hq
    obtain ⟨⟨hI14163, ec, fiI14163, fjI14163⟩, v14165, rfl, av14165, bv14165, cv14165⟩ := hq
    show WP _ _ _ _ (.int _ :: _) _ _ _ _
    rw [ec]
    clear ec Ra
    have fr14166 : fz 74 g [43, 44, 47, 48, 50, 51, 52, 53, 55] I I14163 := fz_tr fr14151 (fz_mono fiI14163 (by decide))
    have fr14167 : fz 74 g [45, 46, 53] J J14164 := fz_tr frj0 (fz_mono fjI14163 (by decide))
    have e14168 : I14163 (ad g 53) 1 = w14137 := by rw [fz_at fiI14163 53 (by decide) (by decide)]; exact e14152
    have e14169 : I14163 (ad g 50) 3 = w14158 := by rw [fz_at fiI14163 50 (by decide) (by decide)]; exact ew14158
    have e14170 : I14163 (ad g 50) 4 = w14159 := by rw [fz_at fiI14163 50 (by decide) (by decide)]; exact ew14159
    have e14171 : I14163 (ad g 50) 0 = v14160 := by rw [fz_at fiI14163 50 (by decide) (by decide)]; exact ev14160
    have e14172 : I14163 (ad g 1) 1 = L := hI14163.2
    have b14173 := BT_get hI14163.1 1 1 2 (0) (0) (900) (by decide) 1 (by decide) (by decide)
    rw [e14172] at b14173
    refine WP_istore (ls' := [(0, _), (1, _), (2, _), (3, _), (4, _), (5, _), (6, _), (7, _), (8, _), (9, _), (10, _)]) dX9_serve_129 (by decide) rfl ?_
    refine WP_iload dX9_serve_131 rfl ?_
    refine WQ_iconst (2) (2) dX9_serve_133 rfl rfl (fun v14174 hv14174 => ?_)
    refine WQ_ishr2 dX9_serve_134 hv14174 (by omega) (by omega) (fun v14175 hv14175 => ?_)
    refine WQ_iconst (3) (3) dX9_serve_135 rfl rfl (fun v14176 hv14176 => ?_)
    refine WQ_iand3 dX9_serve_136 hv14176 (by omega) (by omega) (fun v14177 hv14177 => ?_)
    refine WP_istore (ls' := [(0, _), (1, _), (2, _), (3, _), (4, _), (5, _), (6, _), (7, _), (8, _), (9, _), (10, _), (11, _)]) dX9_serve_137 (by decide) rfl ?_
    refine WP_aload_n dX9_serve_139 rfl ?_
    refine WP_aload_n dX9_serve_140 rfl ?_
    refine WP_getr dX9_serve_141 fX9_25 rfl (lyx_is hy 49 9 rfl) (rfx hr 49 2 5 (by decide)) ?_
    refine WP_getr dX9_serve_144 fX9_49 rfl (lyx_is hy 5 0 rfl) hT ?_
    refine WQ_geti dX9_serve_147 fX9_108 rfl (lyx_is hy 27 7 rfl) (BT_get hI14163.1 27 4 5 (-1) (0) (2) (by decide) 4 (by decide) (by decide)) (fun v14178 ev14178 av14178 bv14178 => ?_)
    refine WP_iload dX9_serve_150 rfl ?_
    refine WQ_iconst (4) (4) dX9_serve_152 rfl rfl (fun v14179 hv14179 => ?_)
    refine WQ_ishr4 dX9_serve_153 hv14179 (by omega) (by omega) (fun v14180 hv14180 => ?_)
    refine WP_iload dX9_serve_154 rfl ?_
    refine WP_iload_n dX9_serve_156 rfl ?_
    refine WP_callV4 (k := 9) dX9_serve_157 ⟨⟨⟨by decide, by decide⟩, zX9_buy⟩, lX9_104, by decide, rfl, vX9_buy.1, vX9_buy.2⟩ (lyx_is hy 49 9 rfl) (sx_buyf hy hr hI14163 v14178 v14180 v14140 da (by omega) (by omega) (by omega) (by omega) (by omega) (by omega) (by omega) (by omega)) (Nat.le_of_ble_eq_true rfl) ?_
    intro r I14181 J14182 Ra hq
    obtain ⟨⟨hI14181, ec, fiI14181, fjI14181⟩, v14183, rfl, av14183, bv14183, cv14183⟩ := hq
    show WP _ _ _ _ (.int _ :: _) _ _ _ _
    rw [ec]
    clear ec Ra
    have fr14184 : fz 74 g [43, 44, 47, 48, 50, 51, 52, 53, 55] I I14181 := fz_tr fr14166 (fz_mono fiI14181 (by decide))
    have fr14185 : fz 74 g [45, 46, 53] J J14182 := fz_tr fr14167 (fz_mono fjI14181 (by decide))
    have e14186 : I14181 (ad g 53) 1 = w14137 := by rw [fz_at fiI14181 53 (by decide) (by decide)]; exact e14168
    have e14187 : I14181 (ad g 50) 3 = w14158 := by rw [fz_at fiI14181 50 (by decide) (by decide)]; exact e14169
    have e14188 : I14181 (ad g 50) 4 = w14159 := by rw [fz_at fiI14181 50 (by decide) (by decide)]; exact e14170
    have e14189 : I14181 (ad g 50) 0 = v14160 := by rw [fz_at fiI14181 50 (by decide) (by decide)]; exact e14171
    have e14190 : I14181 (ad g 27) 4 = v14178 := by rw [fz_at fiI14181 27 (by decide) (by decide)]; exact ev14178
    have e14191 : I14181 (ad g 1) 1 = L := hI14181.2
    have b14192 := BT_get hI14181.1 1 1 2 (0) (0) (900) (by decide) 1 (by decide) (by decide)
    rw [e14191] at b14192
    refine WP_istore (ls' := [(0, _), (1, _), (2, _), (3, _), (4, _), (5, _), (6, _), (7, _), (8, _), (9, _), (10, _), (11, _), (12, _)]) dX9_serve_160 (by decide) rfl ?_
    refine WP_aload_n dX9_serve_162 rfl ?_
    refine WP_getr dX9_serve_163 fX9_12 rfl (lyx_is hy 49 9 rfl) (rfx hr 49 0 50 (by decide)) ?_
    refine WP_iload dX9_serve_166 rfl ?_
    refine WP_iload dX9_serve_168 rfl ?_
    refine WP_callV2 (k := 6) dX9_serve_170 ⟨⟨⟨by decide, by decide⟩, zX6_priceOf⟩, lX9_111, by decide, rfl, vX6_priceOf.1, vX6_priceOf.2⟩ (lyx_is hy 50 6 rfl) (sx_pricex hy hr hI14181 v14165 v14183 (by omega) (by omega) (by omega) (by omega)) (Nat.le_of_ble_eq_true rfl) ?_
    intro r Ia Ja Ra hq
    obtain ⟨⟨ea, eb, ec⟩, v14193, rfl, av14193, bv14193, cv14193⟩ := hq
    show WP _ _ _ _ (.int _ :: _) _ _ _ _
    rw [ea, eb, ec]
    clear ea eb ec Ia Ja Ra
    rw [e14187] at cv14193
    rw [e14188] at cv14193
    have k1 : v14165.toInt * w14158.toInt ≤ (v14157.toInt % 4) * w14158.toInt := Int.mul_le_mul_of_nonneg_right (by omega) (by omega)
    have k2 : v14183.toInt * w14159.toInt ≤ (v14157.toInt / 16) * w14159.toInt := Int.mul_le_mul_of_nonneg_right (by omega) (by omega)
    have kp : v14193.toInt ≤ v14147.toInt := by omega
    refine WP_istore (ls' := [(0, _), (1, _), (2, _), (3, _), (4, _), (5, _), (6, _), (7, _), (8, _), (9, _), (10, _), (11, _), (12, _), (13, _)]) dX9_serve_173 (by decide) rfl ?_
    refine WP_aload_n dX9_serve_175 rfl ?_
    refine WP_dup dX9_serve_176 rfl ?_
    refine WQ_getiu dX9_serve_177 fX9_114 rfl (lyx_is hy 53 4 rfl) (fun v14194 ev14194 => ?_)
    refine WP_iload dX9_serve_180 rfl ?_
    refine WP_iload dX9_serve_182 rfl ?_
    refine WP_iload dX9_serve_184 rfl ?_
    refine WQ_iadd dX9_serve_186 (by omega) (by omega) (fun v14195 hv14195 => ?_)
    refine WQ_imulb (99) (6) dX9_serve_187 ⟨by omega, by omega⟩ ⟨by omega, by omega⟩ (by decide) (fun v14196 pv14196 av14196 bv14196 cv14196 => ?_)
    refine WQ_iaddu dX9_serve_188 (fun v14197 => ?_)
    refine WQ_puti dX9_serve_189 fX9_114 rfl rfl (lyx_is hy 53 4 rfl) (fun I14198 eI14198 => ?_)
    have hI14198 : XI g n L I14198 := by rw [eI14198]; exact (xi_f0 hy hI14181 (c := 53) (by decide) (Or.inl (by decide)) (by decide))
    have e14199 : I14198 (ad g 53) 1 = w14137 := by rw [eI14198, pp_ne _ _ (Or.inr (by decide))]; exact e14186
    have e14200 : I14198 (ad g 50) 3 = w14158 := by rw [eI14198, pp_ne _ _ (Or.inl (lyx_ne hy (by decide) (by decide) (by decide)))]; exact e14187
    have e14201 : I14198 (ad g 50) 4 = w14159 := by rw [eI14198, pp_ne _ _ (Or.inl (lyx_ne hy (by decide) (by decide) (by decide)))]; exact e14188
    have e14202 : I14198 (ad g 50) 0 = v14160 := by rw [eI14198, pp_ne _ _ (Or.inl (lyx_ne hy (by decide) (by decide) (by decide)))]; exact e14189
    have e14203 : I14198 (ad g 27) 4 = v14178 := by rw [eI14198, pp_ne _ _ (Or.inl (lyx_ne hy (by decide) (by decide) (by decide)))]; exact e14190
    have e14204 : I14198 (ad g 1) 1 = L := by rw [eI14198, pp_ne _ _ (Or.inl (lyx_ne hy (by decide) (by decide) (by decide)))]; exact e14191
    have e14205 : I14198 (ad g 53) 2 = v14197 := by rw [eI14198, pp_self]
    have fr14206 : fz 74 g [43, 44, 47, 48, 50, 51, 52, 53, 55] I I14198 := by rw [eI14198]; exact fzx_pp hy fr14184 (by decide) (by decide)
    clear eI14198
    refine WP_aload_n dX9_serve_192 rfl ?_
    refine WP_dup dX9_serve_193 rfl ?_
    refine WQ_getl dX9_serve_194 fX9_117 rfl (lyx_is hy 53 4 rfl) (fun l14207 el14207 => ?_)
    refine WP_iload dX9_serve_197 rfl ?_
    refine WP_iload dX9_serve_199 rfl ?_
    refine WP_iload dX9_serve_201 rfl ?_
    refine WQ_isub dX9_serve_203 (by omega) (by omega) (fun v14208 hv14208 => ?_)
    refine WQ_imulu dX9_serve_204 (fun v14209 => ?_)
    refine WQ_i2l dX9_serve_205 (fun l14210 hl14210 => ?_)
    refine WQ_ladd dX9_serve_206 (fun l14211 => ?_)
    refine WQ_putl dX9_serve_207 fX9_117 rfl rfl (lyx_is hy 53 4 rfl) (fun J14212 eJ14212 => ?_)
    have fr14213 : fz 74 g [45, 46, 53] J J14212 := by rw [eJ14212]; exact fzx_pp hy fr14185 (by decide) (by decide)
    clear eJ14212
    refine WP_aload_n dX9_serve_210 rfl ?_
    refine WP_getr dX9_serve_211 fX9_75 rfl (lyx_is hy 53 4 rfl) (rfx hr 53 5 55 (by decide)) ?_
    refine WP_iload dX9_serve_214 rfl ?_
    refine WQ_iconst (2) (2) dX9_serve_216 rfl rfl (fun v14214 hv14214 => ?_)
    refine WQ_iadd dX9_serve_217 (by omega) (by omega) (fun v14215 hv14215 => ?_)
    refine WP_dup2 dX9_serve_218 rfl rfl ?_
    refine WQ_ialdu dX9_serve_219 (lyx_is hy 55 13 rfl) (lyx_n hy 55 28 rfl) (by omega) (by omega) (fun v14216 => ?_)
    refine WP_iload dX9_serve_220 rfl ?_
    refine WP_iload dX9_serve_222 rfl ?_
    refine WQ_imulb (99) (60) dX9_serve_224 ⟨by omega, by omega⟩ ⟨by omega, by omega⟩ (by decide) (fun v14217 pv14217 av14217 bv14217 cv14217 => ?_)
    refine WQ_iaddu dX9_serve_225 (fun v14218 => ?_)
    refine WQ_iast dX9_serve_226 (lyx_is hy 55 13 rfl) (lyx_n hy 55 28 rfl) (by omega) (by omega) (fun I14219 eI14219 => ?_)
    have hI14219 : XI g n L I14219 := by rw [eI14219]; exact (fa_put hy hI14198 (c := 55) (k := 2) (s := so.toInt.toNat) (by decide) (by omega) (by decide) (by rw [cl (n := 7 * so.toInt.toNat + 2) (by omega)]) (fun h => absurd h (by decide)) (fun h => absurd h (by decide)))
    have e14220 : I14219 (ad g 53) 1 = w14137 := by rw [eI14219, pp_ne _ _ (Or.inl (lyx_ne hy (by decide) (by decide) (by decide)))]; exact e14199
    have e14221 : I14219 (ad g 50) 3 = w14158 := by rw [eI14219, pp_ne _ _ (Or.inl (lyx_ne hy (by decide) (by decide) (by decide)))]; exact e14200
    have e14222 : I14219 (ad g 50) 4 = w14159 := by rw [eI14219, pp_ne _ _ (Or.inl (lyx_ne hy (by decide) (by decide) (by decide)))]; exact e14201
    have e14223 : I14219 (ad g 50) 0 = v14160 := by rw [eI14219, pp_ne _ _ (Or.inl (lyx_ne hy (by decide) (by decide) (by decide)))]; exact e14202
    have e14224 : I14219 (ad g 27) 4 = v14178 := by rw [eI14219, pp_ne _ _ (Or.inl (lyx_ne hy (by decide) (by decide) (by decide)))]; exact e14203
    have e14225 : I14219 (ad g 1) 1 = L := by rw [eI14219, pp_ne _ _ (Or.inl (lyx_ne hy (by decide) (by decide) (by decide)))]; exact e14204
    have e14226 : I14219 (ad g 53) 2 = v14197 := by rw [eI14219, pp_ne _ _ (Or.inl (lyx_ne hy (by decide) (by decide) (by decide)))]; exact e14205
    have fr14227 : fz 74 g [43, 44, 47, 48, 50, 51, 52, 53, 55] I I14219 := by rw [eI14219]; exact fzx_pp hy fr14206 (by decide) (by decide)
    clear eI14219
    refine WP_aload_n dX9_serve_227 rfl ?_
    refine WP_getr dX9_serve_228 fX9_75 rfl (lyx_is hy 53 4 rfl) (rfx hr 53 5 55 (by decide)) ?_
    refine WP_iload dX9_serve_231 rfl ?_
    refine WQ_iconst (4) (4) dX9_serve_233 rfl rfl (fun v14228 hv14228 => ?_)
    refine WQ_iadd dX9_serve_234 (by omega) (by omega) (fun v14229 hv14229 => ?_)
    refine WP_dup2 dX9_serve_235 rfl rfl ?_
    refine WQ_ialdu dX9_serve_236 (lyx_is hy 55 13 rfl) (lyx_n hy 55 28 rfl) (by omega) (by omega) (fun v14230 => ?_)
    refine WP_iload dX9_serve_237 rfl ?_
    refine WP_aload_n dX9_serve_239 rfl ?_
    refine WP_getr dX9_serve_240 fX9_12 rfl (lyx_is hy 49 9 rfl) (rfx hr 49 0 50 (by decide)) ?_
    refine WQ_geti dX9_serve_243 fX9_121 rfl (lyx_is hy 50 6 rfl) (BT_get hI14219.1 50 2 3 (0) (0) (99) (by decide) 2 (by decide) (by decide)) (fun v14231 ev14231 av14231 bv14231 => ?_)
    refine WQ_imulb (99) (99) dX9_serve_246 ⟨by omega, by omega⟩ ⟨by omega, by omega⟩ (by decide) (fun v14232 pv14232 av14232 bv14232 cv14232 => ?_)
    refine WP_iload dX9_serve_247 rfl ?_
    refine WP_iload dX9_serve_249 rfl ?_
    refine WQ_iadd dX9_serve_251 (by omega) (by omega) (fun v14233 hv14233 => ?_)
    refine WQ_imulb (9801) (6) dX9_serve_252 ⟨by omega, by omega⟩ ⟨by omega, by omega⟩ (by decide) (fun v14234 pv14234 av14234 bv14234 cv14234 => ?_)
    refine WQ_iaddu dX9_serve_253 (fun v14235 => ?_)
    refine WQ_iast dX9_serve_254 (lyx_is hy 55 13 rfl) (lyx_n hy 55 28 rfl) (by omega) (by omega) (fun I14236 eI14236 => ?_)
    have hI14236 : XI g n L I14236 := by rw [eI14236]; exact (fa_put hy hI14219 (c := 55) (k := 4) (s := so.toInt.toNat) (by decide) (by omega) (by decide) (by rw [cl (n := 7 * so.toInt.toNat + 4) (by omega)]) (fun h => absurd h (by decide)) (fun h => absurd h (by decide)))
    have e14237 : I14236 (ad g 53) 1 = w14137 := by rw [eI14236, pp_ne _ _ (Or.inl (lyx_ne hy (by decide) (by decide) (by decide)))]; exact e14220
    have e14238 : I14236 (ad g 50) 3 = w14158 := by rw [eI14236, pp_ne _ _ (Or.inl (lyx_ne hy (by decide) (by decide) (by decide)))]; exact e14221
    have e14239 : I14236 (ad g 50) 4 = w14159 := by rw [eI14236, pp_ne _ _ (Or.inl (lyx_ne hy (by decide) (by decide) (by decide)))]; exact e14222
    have e14240 : I14236 (ad g 50) 0 = v14160 := by rw [eI14236, pp_ne _ _ (Or.inl (lyx_ne hy (by decide) (by decide) (by decide)))]; exact e14223
    have e14241 : I14236 (ad g 27) 4 = v14178 := by rw [eI14236, pp_ne _ _ (Or.inl (lyx_ne hy (by decide) (by decide) (by decide)))]; exact e14224
    have e14242 : I14236 (ad g 1) 1 = L := by rw [eI14236, pp_ne _ _ (Or.inl (lyx_ne hy (by decide) (by decide) (by decide)))]; exact e14225
    have e14243 : I14236 (ad g 53) 2 = v14197 := by rw [eI14236, pp_ne _ _ (Or.inl (lyx_ne hy (by decide) (by decide) (by decide)))]; exact e14226
    have e14244 : I14236 (ad g 50) 2 = v14231 := by rw [eI14236, pp_ne _ _ (Or.inl (lyx_ne hy (by decide) (by decide) (by decide)))]; exact ev14231
    have fr14245 : fz 74 g [43, 44, 47, 48, 50, 51, 52, 53, 55] I I14236 := by rw [eI14236]; exact fzx_pp hy fr14227 (by decide) (by decide)
    clear eI14236
    refine WP_aload_n dX9_serve_255 rfl ?_
    refine WP_aload_n dX9_serve_256 rfl ?_
    refine WP_iload_n dX9_serve_257 rfl ?_
    refine WP_iload_n dX9_serve_258 rfl ?_
    refine WP_iload dX9_serve_259 rfl ?_
    refine WP_iload dX9_serve_261 rfl ?_
    refine WQ_isub dX9_serve_263 (by omega) (by omega) (fun v14246 hv14246 => ?_)
    refine WP_iload dX9_serve_264 rfl ?_
    refine WP_iload dX9_serve_266 rfl ?_
    refine WQ_isub dX9_serve_268 (by omega) (by omega) (fun v14247 hv14247 => ?_)
    refine WP_iload dX9_serve_269 rfl ?_
    refine WQ_iadd dX9_serve_271 (by omega) (by omega) (fun v14248 hv14248 => ?_)
    refine WP_callV5 (k := 9) dX9_serve_272 ⟨⟨⟨by decide, by decide⟩, zX9_sleep⟩, lX9_124, by decide, rfl, vX9_sleep.1, vX9_sleep.2⟩ (lyx_is hy 49 9 rfl) (sx_wsleepf_53_27 hy hr hT hI14236 so da v14246 v14248 (by omega) (by omega) (by omega) (by omega) (by omega) (by omega) (by omega) (by omega) (by omega) (by rw [e14237]; omega)) (Nat.le_of_ble_eq_true rfl) ?_
    intro r I14249 J14250 Ra hq
    obtain ⟨⟨hI14249, ec, fiI14249, fjI14249, pI14249⟩, rfl⟩ := hq
    rw [ec]
    clear ec Ra
    have fr14251 : fz 74 g [43, 44, 47, 48, 50, 51, 52, 53, 55] I I14249 := fz_tr fr14245 (fz_mono fiI14249 (by decide))
    have fr14252 : fz 74 g [45, 46, 53] J J14250 := fz_tr fr14213 (fz_mono fjI14249 (by decide))
    have e14253 : I14249 (ad g 50) 3 = w14158 := by rw [fz_at fiI14249 50 (by decide) (by decide)]; exact e14238
    have e14254 : I14249 (ad g 50) 4 = w14159 := by rw [fz_at fiI14249 50 (by decide) (by decide)]; exact e14239
    have e14255 : I14249 (ad g 50) 0 = v14160 := by rw [fz_at fiI14249 50 (by decide) (by decide)]; exact e14240
    have e14256 : I14249 (ad g 27) 4 = v14178 := by rw [fz_at fiI14249 27 (by decide) (by decide)]; exact e14241
    have e14257 : I14249 (ad g 50) 2 = v14231 := by rw [fz_at fiI14249 50 (by decide) (by decide)]; exact e14244
    have e14258 : I14249 (ad g 1) 1 = L := hI14249.2
    have b14259 := BT_get hI14249.1 1 1 2 (0) (0) (900) (by decide) 1 (by decide) (by decide)
    rw [e14258] at b14259
    obtain ⟨w14260, ew14260⟩ : ∃ w : Int32, I14249 (ad g 53) 1 = w := ⟨_, rfl⟩
    have bw14260 := BT_get hI14249.1 53 1 2 (0) (23760) (0) (by decide) 1 (by decide) (by decide)
    rw [ew14260] at bw14260
    rw [ew14260, e14237] at pI14249
    exact WP_vret dX9_serve_275 rfl ⟨⟨hI14249, ⟨hr, ⟨hT.trans hT.symm, rfl⟩, hP⟩, fr14251, fr14252, (by rw [ew14260, ew14137]; omega)⟩, rfl⟩
  · refine WP_aload_n dX9_serve_78 rfl ?_
    refine WP_getr dX9_serve_79 fX9_29 rfl (lyx_is hy 49 9 rfl) (rfx hr 49 3 43 (by decide)) ?_
    refine WP_iload_n dX9_serve_82 rfl ?_
    refine WP_iload_n dX9_serve_83 rfl ?_
    refine WP_iload dX9_serve_84 rfl ?_
    refine WP_iload dX9_serve_86 rfl ?_
    refine WQ_bipush (7) (7) dX9_serve_88 rfl rfl (fun v14261 hv14261 => ?_)
    refine WP_callV5 (k := 2) dX9_serve_90 ⟨⟨⟨by decide, by decide⟩, zX2_search⟩, lX9_92, by decide, rfl, vX2_search.1, vX2_search.2⟩ (lyx_is hy 43 2 rfl) (sx_searchx_27 hy hr hP hT hI14149 so da v14147 v14143 v14261 (by omega) (by omega) (by omega) (by omega) (by omega) (by omega) (by omega) (by omega) (by omega) (by omega)) (Nat.le_of_ble_eq_true rfl) ?_
    intro r I14262 J14263 R14264 hq
    obtain ⟨⟨hI14262, ⟨hrI14262, ⟨htI14262, hsI14262⟩, hpI14262⟩, fiI14262, fjI14262⟩, v14265, rfl, av14265, bv14265, cv14265⟩ := hq
    show WP _ _ _ _ (.int _ :: _) _ _ _ _
    have ht_I14262 := htI14262.trans hT
    have hs_I14262 : R14264 (ad g 0) 10 = R (ad g 0) 10 := hsI14262.trans rfl
    have fr14266 : fz 74 g [43, 44, 47, 48, 50, 51, 52, 53, 55] I I14262 := fz_tr fr14151 (fz_mono fiI14262 (by decide))
    have fr14267 : fz 74 g [45, 46, 53] J J14263 := fz_tr frj0 (fz_mono fjI14262 (by decide))
    have e14268 : I14262 (ad g 53) 1 = w14137 := by rw [fz_at fiI14262 53 (by decide) (by decide)]; exact e14152
    have e14269 : I14262 (ad g 1) 1 = L := hI14262.2
    have b14270 := BT_get hI14262.1 1 1 2 (0) (0) (900) (by decide) 1 (by decide) (by decide)
    rw [e14269] at b14270
    refine WP_goto 109 dX9_serve_93 rfl ?_
    obtain ⟨T9, t1, t2⟩ := cv14265
    have acv14265 : AOKd (I14149 (ad g 50)) v14147.toInt v14143.toInt v14265.toInt := AOK_eq (LD_un t1 (LD_fr pI14149 (fz_at fiI14149 27 (by decide) (by decide)).symm (fz_at fiI14149 32 (by decide) (by decide)).symm (fz_at fiI14149 34 (by decide) (by decide)).symm (fz_at fiI14149 35 (by decide) (by decide)).symm (fz_at fiI14149 36 (by decide) (by decide)).symm (fz_at fiI14149 22 (by decide) (by decide)).symm)) t2
    obtain ⟨w14271, ew14271⟩ : ∃ w : Int32, I14262 (ad g 50) 3 = w := ⟨_, rfl⟩
    have bw14271 := BT_get hI14262.1 50 3 4 (0) (0) (20) (by decide) 3 (by decide) (by decide)
    rw [ew14271] at bw14271
    obtain ⟨w14272, ew14272⟩ : ∃ w : Int32, I14262 (ad g 50) 4 = w := ⟨_, rfl⟩
    have bw14272 := BT_get hI14262.1 50 4 5 (0) (0) (20) (by decide) 4 (by decide) (by decide)
    rw [ew14272] at bw14272
    have adv14265 := acv14265
    unfold AOKd at adv14265
    rw [← fz_at fiI14262 50 (by decide) (by decide)] at adv14265
    rw [ew14271, ew14272] at adv14265
    obtain ⟨rav14265, rbv14265, rcv14265, rdv14265, rev14265⟩ := adv14265
    refine WP_istore (ls' := [(0, _), (1, _), (2, _), (3, _), (4, _), (5, _), (6, _), (7, _), (8, _), (9, _)]) dX9_serve_109 (by decide) rfl ?_
    refine WP_aload_n dX9_serve_111 rfl ?_
    refine WP_aload_n dX9_serve_112 rfl ?_
    refine WP_getr dX9_serve_113 fX9_12 rfl (lyx_is hy 49 9 rfl) (rfx hrI14262 49 0 50 (by decide)) ?_
    refine WQ_geti dX9_serve_116 fX9_101 rfl (lyx_is hy 50 6 rfl) (BT_get hI14262.1 50 0 1 (-1) (0) (2) (by decide) 0 (by decide) (by decide)) (fun v14273 ev14273 av14273 bv14273 => ?_)
    refine WP_iload dX9_serve_119 rfl ?_
    refine WQ_iconst (3) (3) dX9_serve_121 rfl rfl (fun v14274 hv14274 => ?_)
    refine WQ_iand3 dX9_serve_122 hv14274 (by omega) (by omega) (fun v14275 hv14275 => ?_)
    refine WP_iload dX9_serve_123 rfl ?_
    refine WP_iload_n dX9_serve_125 rfl ?_
    refine WP_callV4 (k := 9) dX9_serve_126 ⟨⟨⟨by decide, by decide⟩, zX9_buy⟩, lX9_104, by decide, rfl, vX9_buy.1, vX9_buy.2⟩ (lyx_is hy 49 9 rfl) (sx_buyf hy hrI14262 hI14262 v14273 v14275 v14140 da (by omega) (by omega) (by omega) (by omega) (by omega) (by omega) (by omega) (by omega)) (Nat.le_of_ble_eq_true rfl) ?_
    intro r I14276 J14277 Ra hq
    obtain ⟨⟨hI14276, ec, fiI14276, fjI14276⟩, v14278, rfl, av14278, bv14278, cv14278⟩ := hq
    show WP _ _ _ _ (.int _ :: _) _ _ _ _
    rw [ec]
    clear ec Ra
    have fr14279 : fz 74 g [43, 44, 47, 48, 50, 51, 52, 53, 55] I I14276 := fz_tr fr14266 (fz_mono fiI14276 (by decide))
    have fr14280 : fz 74 g [45, 46, 53] J J14277 := fz_tr fr14267 (fz_mono fjI14276 (by decide))
    have e14281 : I14276 (ad g 53) 1 = w14137 := by rw [fz_at fiI14276 53 (by decide) (by decide)]; exact e14268
    have e14282 : I14276 (ad g 50) 3 = w14271 := by rw [fz_at fiI14276 50 (by decide) (by decide)]; exact ew14271
    have e14283 : I14276 (ad g 50) 4 = w14272 := by rw [fz_at fiI14276 50 (by decide) (by decide)]; exact ew14272
    have e14284 : I14276 (ad g 50) 0 = v14273 := by rw [fz_at fiI14276 50 (by decide) (by decide)]; exact ev14273
    have e14285 : I14276 (ad g 1) 1 = L := hI14276.2
    have b14286 := BT_get hI14276.1 1 1 2 (0) (0) (900) (by decide) 1 (by decide) (by decide)
    rw [e14285] at b14286
    refine WP_istore (ls' := [(0, _), (1, _), (2, _), (3, _), (4, _), (5, _), (6, _), (7, _), (8, _), (9, _), (10, _)]) dX9_serve_129 (by decide) rfl ?_
    refine WP_iload dX9_serve_131 rfl ?_
    refine WQ_iconst (2) (2) dX9_serve_133 rfl rfl (fun v14287 hv14287 => ?_)
    refine WQ_ishr2 dX9_serve_134 hv14287 (by omega) (by omega) (fun v14288 hv14288 => ?_)
    refine WQ_iconst (3) (3) dX9_serve_135 rfl rfl (fun v14289 hv14289 => ?_)
    refine WQ_iand3 dX9_serve_136 hv14289 (by omega) (by omega) (fun v14290 hv14290 => ?_)
    refine WP_istore (ls' := [(0, _), (1, _), (2, _), (3, _), (4, _), (5, _), (6, _), (7, _), (8, _), (9, _), (10, _), (11, _)]) dX9_serve_137 (by decide) rfl ?_
    refine WP_aload_n dX9_serve_139 rfl ?_
    refine WP_aload_n dX9_serve_140 rfl ?_
    refine WP_getr dX9_serve_141 fX9_25 rfl (lyx_is hy 49 9 rfl) (rfx hrI14262 49 2 5 (by decide)) ?_
    refine WP_getr dX9_serve_144 fX9_49 rfl (lyx_is hy 5 0 rfl) ht_I14262 ?_
    refine WQ_geti dX9_serve_147 fX9_108 rfl (lyx_is hy 27 7 rfl) (BT_get hI14276.1 27 4 5 (-1) (0) (2) (by decide) 4 (by decide) (by decide)) (fun v14291 ev14291 av14291 bv14291 => ?_)
    refine WP_iload dX9_serve_150 rfl ?_
    refine WQ_iconst (4) (4) dX9_serve_152 rfl rfl (fun v14292 hv14292 => ?_)
    refine WQ_ishr4 dX9_serve_153 hv14292 (by omega) (by omega) (fun v14293 hv14293 => ?_)
    refine WP_iload dX9_serve_154 rfl ?_
    refine WP_iload_n dX9_serve_156 rfl ?_
    refine WP_callV4 (k := 9) dX9_serve_157 ⟨⟨⟨by decide, by decide⟩, zX9_buy⟩, lX9_104, by decide, rfl, vX9_buy.1, vX9_buy.2⟩ (lyx_is hy 49 9 rfl) (sx_buyf hy hrI14262 hI14276 v14291 v14293 v14140 da (by omega) (by omega) (by omega) (by omega) (by omega) (by omega) (by omega) (by omega)) (Nat.le_of_ble_eq_true rfl) ?_
    intro r I14294 J14295 Ra hq
    obtain ⟨⟨hI14294, ec, fiI14294, fjI14294⟩, v14296, rfl, av14296, bv14296, cv14296⟩ := hq
    show WP _ _ _ _ (.int _ :: _) _ _ _ _
    rw [ec]
    clear ec Ra
    have fr14297 : fz 74 g [43, 44, 47, 48, 50, 51, 52, 53, 55] I I14294 := fz_tr fr14279 (fz_mono fiI14294 (by decide))
    have fr14298 : fz 74 g [45, 46, 53] J J14295 := fz_tr fr14280 (fz_mono fjI14294 (by decide))
    have e14299 : I14294 (ad g 53) 1 = w14137 := by rw [fz_at fiI14294 53 (by decide) (by decide)]; exact e14281
    have e14300 : I14294 (ad g 50) 3 = w14271 := by rw [fz_at fiI14294 50 (by decide) (by decide)]; exact e14282
    have e14301 : I14294 (ad g 50) 4 = w14272 := by rw [fz_at fiI14294 50 (by decide) (by decide)]; exact e14283
    have e14302 : I14294 (ad g 50) 0 = v14273 := by rw [fz_at fiI14294 50 (by decide) (by decide)]; exact e14284
    have e14303 : I14294 (ad g 27) 4 = v14291 := by rw [fz_at fiI14294 27 (by decide) (by decide)]; exact ev14291
    have e14304 : I14294 (ad g 1) 1 = L := hI14294.2
    have b14305 := BT_get hI14294.1 1 1 2 (0) (0) (900) (by decide) 1 (by decide) (by decide)
    rw [e14304] at b14305
    refine WP_istore (ls' := [(0, _), (1, _), (2, _), (3, _), (4, _), (5, _), (6, _), (7, _), (8, _), (9, _), (10, _), (11, _), (12, _)]) dX9_serve_160 (by decide) rfl ?_
    refine WP_aload_n dX9_serve_162 rfl ?_
    refine WP_getr dX9_serve_163 fX9_12 rfl (lyx_is hy 49 9 rfl) (rfx hrI14262 49 0 50 (by decide)) ?_
    refine WP_iload dX9_serve_166 rfl ?_
    refine WP_iload dX9_serve_168 rfl ?_
    refine WP_callV2 (k := 6) dX9_serve_170 ⟨⟨⟨by decide, by decide⟩, zX6_priceOf⟩, lX9_111, by decide, rfl, vX6_priceOf.1, vX6_priceOf.2⟩ (lyx_is hy 50 6 rfl) (sx_pricex hy hrI14262 hI14294 v14278 v14296 (by omega) (by omega) (by omega) (by omega)) (Nat.le_of_ble_eq_true rfl) ?_
    intro r Ia Ja Ra hq
    obtain ⟨⟨ea, eb, ec⟩, v14306, rfl, av14306, bv14306, cv14306⟩ := hq
    show WP _ _ _ _ (.int _ :: _) _ _ _ _
    rw [ea, eb, ec]
    clear ea eb ec Ia Ja Ra
    rw [e14300] at cv14306
    rw [e14301] at cv14306
    have k1 : v14278.toInt * w14271.toInt ≤ (v14265.toInt % 4) * w14271.toInt := Int.mul_le_mul_of_nonneg_right (by omega) (by omega)
    have k2 : v14296.toInt * w14272.toInt ≤ (v14265.toInt / 16) * w14272.toInt := Int.mul_le_mul_of_nonneg_right (by omega) (by omega)
    have kp : v14306.toInt ≤ v14147.toInt := by omega
    refine WP_istore (ls' := [(0, _), (1, _), (2, _), (3, _), (4, _), (5, _), (6, _), (7, _), (8, _), (9, _), (10, _), (11, _), (12, _), (13, _)]) dX9_serve_173 (by decide) rfl ?_
    refine WP_aload_n dX9_serve_175 rfl ?_
    refine WP_dup dX9_serve_176 rfl ?_
    refine WQ_getiu dX9_serve_177 fX9_114 rfl (lyx_is hy 53 4 rfl) (fun v14307 ev14307 => ?_)
    refine WP_iload dX9_serve_180 rfl ?_
    refine WP_iload dX9_serve_182 rfl ?_
    refine WP_iload dX9_serve_184 rfl ?_
    refine WQ_iadd dX9_serve_186 (by omega) (by omega) (fun v14308 hv14308 => ?_)
    refine WQ_imulb (99) (6) dX9_serve_187 ⟨by omega, by omega⟩ ⟨by omega, by omega⟩ (by decide) (fun v14309 pv14309 av14309 bv14309 cv14309 => ?_)
    refine WQ_iaddu dX9_serve_188 (fun v14310 => ?_)
    refine WQ_puti dX9_serve_189 fX9_114 rfl rfl (lyx_is hy 53 4 rfl) (fun I14311 eI14311 => ?_)
    have hI14311 : XI g n L I14311 := by rw [eI14311]; exact (xi_f0 hy hI14294 (c := 53) (by decide) (Or.inl (by decide)) (by decide))
    have e14312 : I14311 (ad g 53) 1 = w14137 := by rw [eI14311, pp_ne _ _ (Or.inr (by decide))]; exact e14299
    have e14313 : I14311 (ad g 50) 3 = w14271 := by rw [eI14311, pp_ne _ _ (Or.inl (lyx_ne hy (by decide) (by decide) (by decide)))]; exact e14300
    have e14314 : I14311 (ad g 50) 4 = w14272 := by rw [eI14311, pp_ne _ _ (Or.inl (lyx_ne hy (by decide) (by decide) (by decide)))]; exact e14301
    have e14315 : I14311 (ad g 50) 0 = v14273 := by rw [eI14311, pp_ne _ _ (Or.inl (lyx_ne hy (by decide) (by decide) (by decide)))]; exact e14302
    have e14316 : I14311 (ad g 27) 4 = v14291 := by rw [eI14311, pp_ne _ _ (Or.inl (lyx_ne hy (by decide) (by decide) (by decide)))]; exact e14303
    have e14317 : I14311 (ad g 1) 1 = L := by rw [eI14311, pp_ne _ _ (Or.inl (lyx_ne hy (by decide) (by decide) (by decide)))]; exact e14304
    have e14318 : I14311 (ad g 53) 2 = v14310 := by rw [eI14311, pp_self]
    have fr14319 : fz 74 g [43, 44, 47, 48, 50, 51, 52, 53, 55] I I14311 := by rw [eI14311]; exact fzx_pp hy fr14297 (by decide) (by decide)
    clear eI14311
    refine WP_aload_n dX9_serve_192 rfl ?_
    refine WP_dup dX9_serve_193 rfl ?_
    refine WQ_getl dX9_serve_194 fX9_117 rfl (lyx_is hy 53 4 rfl) (fun l14320 el14320 => ?_)
    refine WP_iload dX9_serve_197 rfl ?_
    refine WP_iload dX9_serve_199 rfl ?_
    refine WP_iload dX9_serve_201 rfl ?_
    refine WQ_isub dX9_serve_203 (by omega) (by omega) (fun v14321 hv14321 => ?_)
    refine WQ_imulu dX9_serve_204 (fun v14322 => ?_)
    refine WQ_i2l dX9_serve_205 (fun l14323 hl14323 => ?_)
    refine WQ_ladd dX9_serve_206 (fun l14324 => ?_)
    refine WQ_putl dX9_serve_207 fX9_117 rfl rfl (lyx_is hy 53 4 rfl) (fun J14325 eJ14325 => ?_)
    have fr14326 : fz 74 g [45, 46, 53] J J14325 := by rw [eJ14325]; exact fzx_pp hy fr14298 (by decide) (by decide)
    clear eJ14325
    refine WP_aload_n dX9_serve_210 rfl ?_
    refine WP_getr dX9_serve_211 fX9_75 rfl (lyx_is hy 53 4 rfl) (rfx hrI14262 53 5 55 (by decide)) ?_
    refine WP_iload dX9_serve_214 rfl ?_
    refine WQ_iconst (2) (2) dX9_serve_216 rfl rfl (fun v14327 hv14327 => ?_)
    refine WQ_iadd dX9_serve_217 (by omega) (by omega) (fun v14328 hv14328 => ?_)
    refine WP_dup2 dX9_serve_218 rfl rfl ?_
    refine WQ_ialdu dX9_serve_219 (lyx_is hy 55 13 rfl) (lyx_n hy 55 28 rfl) (by omega) (by omega) (fun v14329 => ?_)
    refine WP_iload dX9_serve_220 rfl ?_
    refine WP_iload dX9_serve_222 rfl ?_
    refine WQ_imulb (99) (60) dX9_serve_224 ⟨by omega, by omega⟩ ⟨by omega, by omega⟩ (by decide) (fun v14330 pv14330 av14330 bv14330 cv14330 => ?_)
    refine WQ_iaddu dX9_serve_225 (fun v14331 => ?_)
    refine WQ_iast dX9_serve_226 (lyx_is hy 55 13 rfl) (lyx_n hy 55 28 rfl) (by omega) (by omega) (fun I14332 eI14332 => ?_)
    have hI14332 : XI g n L I14332 := by rw [eI14332]; exact (fa_put hy hI14311 (c := 55) (k := 2) (s := so.toInt.toNat) (by decide) (by omega) (by decide) (by rw [cl (n := 7 * so.toInt.toNat + 2) (by omega)]) (fun h => absurd h (by decide)) (fun h => absurd h (by decide)))
    have e14333 : I14332 (ad g 53) 1 = w14137 := by rw [eI14332, pp_ne _ _ (Or.inl (lyx_ne hy (by decide) (by decide) (by decide)))]; exact e14312
    have e14334 : I14332 (ad g 50) 3 = w14271 := by rw [eI14332, pp_ne _ _ (Or.inl (lyx_ne hy (by decide) (by decide) (by decide)))]; exact e14313
    have e14335 : I14332 (ad g 50) 4 = w14272 := by rw [eI14332, pp_ne _ _ (Or.inl (lyx_ne hy (by decide) (by decide) (by decide)))]; exact e14314
    have e14336 : I14332 (ad g 50) 0 = v14273 := by rw [eI14332, pp_ne _ _ (Or.inl (lyx_ne hy (by decide) (by decide) (by decide)))]; exact e14315
    have e14337 : I14332 (ad g 27) 4 = v14291 := by rw [eI14332, pp_ne _ _ (Or.inl (lyx_ne hy (by decide) (by decide) (by decide)))]; exact e14316
    have e14338 : I14332 (ad g 1) 1 = L := by rw [eI14332, pp_ne _ _ (Or.inl (lyx_ne hy (by decide) (by decide) (by decide)))]; exact e14317
    have e14339 : I14332 (ad g 53) 2 = v14310 := by rw [eI14332, pp_ne _ _ (Or.inl (lyx_ne hy (by decide) (by decide) (by decide)))]; exact e14318
    have fr14340 : fz 74 g [43, 44, 47, 48, 50, 51, 52, 53, 55] I I14332 := by rw [eI14332]; exact fzx_pp hy fr14319 (by decide) (by decide)
    clear eI14332
    refine WP_aload_n dX9_serve_227 rfl ?_
    refine WP_getr dX9_serve_228 fX9_75 rfl (lyx_is hy 53 4 rfl) (rfx hrI14262 53 5 55 (by decide)) ?_
    refine WP_iload dX9_serve_231 rfl ?_
    refine WQ_iconst (4) (4) dX9_serve_233 rfl rfl (fun v14341 hv14341 => ?_)
    refine WQ_iadd dX9_serve_234 (by omega) (by omega) (fun v14342 hv14342 => ?_)
    refine WP_dup2 dX9_serve_235 rfl rfl ?_
    refine WQ_ialdu dX9_serve_236 (lyx_is hy 55 13 rfl) (lyx_n hy 55 28 rfl) (by omega) (by omega) (fun v14343 => ?_)
    refine WP_iload dX9_serve_237 rfl ?_
    refine WP_aload_n dX9_serve_239 rfl ?_
    refine WP_getr dX9_serve_240 fX9_12 rfl (lyx_is hy 49 9 rfl) (rfx hrI14262 49 0 50 (by decide)) ?_
    refine WQ_geti dX9_serve_243 fX9_121 rfl (lyx_is hy 50 6 rfl) (BT_get hI14332.1 50 2 3 (0) (0) (99) (by decide) 2 (by decide) (by decide)) (fun v14344 ev14344 av14344 bv14344 => ?_)
    refine WQ_imulb (99) (99) dX9_serve_246 ⟨by omega, by omega⟩ ⟨by omega, by omega⟩ (by decide) (fun v14345 pv14345 av14345 bv14345 cv14345 => ?_)
    refine WP_iload dX9_serve_247 rfl ?_
    refine WP_iload dX9_serve_249 rfl ?_
    refine WQ_iadd dX9_serve_251 (by omega) (by omega) (fun v14346 hv14346 => ?_)
    refine WQ_imulb (9801) (6) dX9_serve_252 ⟨by omega, by omega⟩ ⟨by omega, by omega⟩ (by decide) (fun v14347 pv14347 av14347 bv14347 cv14347 => ?_)
    refine WQ_iaddu dX9_serve_253 (fun v14348 => ?_)
    refine WQ_iast dX9_serve_254 (lyx_is hy 55 13 rfl) (lyx_n hy 55 28 rfl) (by omega) (by omega) (fun I14349 eI14349 => ?_)
    have hI14349 : XI g n L I14349 := by rw [eI14349]; exact (fa_put hy hI14332 (c := 55) (k := 4) (s := so.toInt.toNat) (by decide) (by omega) (by decide) (by rw [cl (n := 7 * so.toInt.toNat + 4) (by omega)]) (fun h => absurd h (by decide)) (fun h => absurd h (by decide)))
    have e14350 : I14349 (ad g 53) 1 = w14137 := by rw [eI14349, pp_ne _ _ (Or.inl (lyx_ne hy (by decide) (by decide) (by decide)))]; exact e14333
    have e14351 : I14349 (ad g 50) 3 = w14271 := by rw [eI14349, pp_ne _ _ (Or.inl (lyx_ne hy (by decide) (by decide) (by decide)))]; exact e14334
    have e14352 : I14349 (ad g 50) 4 = w14272 := by rw [eI14349, pp_ne _ _ (Or.inl (lyx_ne hy (by decide) (by decide) (by decide)))]; exact e14335
    have e14353 : I14349 (ad g 50) 0 = v14273 := by rw [eI14349, pp_ne _ _ (Or.inl (lyx_ne hy (by decide) (by decide) (by decide)))]; exact e14336
    have e14354 : I14349 (ad g 27) 4 = v14291 := by rw [eI14349, pp_ne _ _ (Or.inl (lyx_ne hy (by decide) (by decide) (by decide)))]; exact e14337
    have e14355 : I14349 (ad g 1) 1 = L := by rw [eI14349, pp_ne _ _ (Or.inl (lyx_ne hy (by decide) (by decide) (by decide)))]; exact e14338
    have e14356 : I14349 (ad g 53) 2 = v14310 := by rw [eI14349, pp_ne _ _ (Or.inl (lyx_ne hy (by decide) (by decide) (by decide)))]; exact e14339
    have e14357 : I14349 (ad g 50) 2 = v14344 := by rw [eI14349, pp_ne _ _ (Or.inl (lyx_ne hy (by decide) (by decide) (by decide)))]; exact ev14344
    have fr14358 : fz 74 g [43, 44, 47, 48, 50, 51, 52, 53, 55] I I14349 := by rw [eI14349]; exact fzx_pp hy fr14340 (by decide) (by decide)
    clear eI14349
    refine WP_aload_n dX9_serve_255 rfl ?_
    refine WP_aload_n dX9_serve_256 rfl ?_
    refine WP_iload_n dX9_serve_257 rfl ?_
    refine WP_iload_n dX9_serve_258 rfl ?_
    refine WP_iload dX9_serve_259 rfl ?_
    refine WP_iload dX9_serve_261 rfl ?_
    refine WQ_isub dX9_serve_263 (by omega) (by omega) (fun v14359 hv14359 => ?_)
    refine WP_iload dX9_serve_264 rfl ?_
    refine WP_iload dX9_serve_266 rfl ?_
    refine WQ_isub dX9_serve_268 (by omega) (by omega) (fun v14360 hv14360 => ?_)
    refine WP_iload dX9_serve_269 rfl ?_
    refine WQ_iadd dX9_serve_271 (by omega) (by omega) (fun v14361 hv14361 => ?_)
    refine WP_callV5 (k := 9) dX9_serve_272 ⟨⟨⟨by decide, by decide⟩, zX9_sleep⟩, lX9_124, by decide, rfl, vX9_sleep.1, vX9_sleep.2⟩ (lyx_is hy 49 9 rfl) (sx_wsleepf_53_27 hy hrI14262 ht_I14262 hI14349 so da v14359 v14361 (by omega) (by omega) (by omega) (by omega) (by omega) (by omega) (by omega) (by omega) (by omega) (by rw [e14350]; omega)) (Nat.le_of_ble_eq_true rfl) ?_
    intro r I14362 J14363 Ra hq
    obtain ⟨⟨hI14362, ec, fiI14362, fjI14362, pI14362⟩, rfl⟩ := hq
    rw [ec]
    clear ec Ra
    have fr14364 : fz 74 g [43, 44, 47, 48, 50, 51, 52, 53, 55] I I14362 := fz_tr fr14358 (fz_mono fiI14362 (by decide))
    have fr14365 : fz 74 g [45, 46, 53] J J14363 := fz_tr fr14326 (fz_mono fjI14362 (by decide))
    have e14366 : I14362 (ad g 50) 3 = w14271 := by rw [fz_at fiI14362 50 (by decide) (by decide)]; exact e14351
    have e14367 : I14362 (ad g 50) 4 = w14272 := by rw [fz_at fiI14362 50 (by decide) (by decide)]; exact e14352
    have e14368 : I14362 (ad g 50) 0 = v14273 := by rw [fz_at fiI14362 50 (by decide) (by decide)]; exact e14353
    have e14369 : I14362 (ad g 27) 4 = v14291 := by rw [fz_at fiI14362 27 (by decide) (by decide)]; exact e14354
    have e14370 : I14362 (ad g 50) 2 = v14344 := by rw [fz_at fiI14362 50 (by decide) (by decide)]; exact e14357
    have e14371 : I14362 (ad g 1) 1 = L := hI14362.2
    have b14372 := BT_get hI14362.1 1 1 2 (0) (0) (900) (by decide) 1 (by decide) (by decide)
    rw [e14371] at b14372
    obtain ⟨w14373, ew14373⟩ : ∃ w : Int32, I14362 (ad g 53) 1 = w := ⟨_, rfl⟩
    have bw14373 := BT_get hI14362.1 53 1 2 (0) (23760) (0) (by decide) 1 (by decide) (by decide)
    rw [ew14373] at bw14373
    rw [ew14373, e14350] at pI14362
    exact WP_vret dX9_serve_275 rfl ⟨⟨hI14362, ⟨hrI14262, ⟨ht_I14262.trans hT.symm, hs_I14262⟩, hpI14262⟩, fr14364, fr14365, (by rw [ew14373, ew14137]; omega)⟩, rfl⟩
set_option maxHeartbeats 4000000 in
set_option maxRecDepth 100000 in
theorem sx_serve_56_6 {g : GG} {n : Int} {L : Int32} (hy : LyX g)  {I : pI} {J : pJ} {R : pR} (hr : RfX g R) (hP : NL g R) (hT : R (ad g 5) 0 = some (ad g 6)) (hI : XI g n L I) (so : Int32) (da : Int32) (so_lo : 0 ≤ so.toInt) (so_hi : so.toInt ≤ 3) (da_lo : 0 ≤ da.toInt) (da_hi : da.toInt ≤ 6) (hn : 0 ≤ n ∧ n ≤ 40000) (hb : (I (ad g 56) 1).toInt ≤ 23760 * n + 700000 - 5940) : SP g mX9_serve [.ref (ad g 49), .ref (ad g 56), .int so, .int da] I J R (fun r I' J' R' => (XI g n L I' ∧ (RfX g R' ∧ (R' (ad g 5) 0 = R (ad g 5) 0 ∧ R' (ad g 0) 10 = R (ad g 0) 10) ∧ NL g R') ∧ fz 74 g [43, 44, 47, 48, 50, 51, 52, 56, 58] I I' ∧ fz 74 g [45, 46, 56] J J' ∧ (I' (ad g 56) 1).toInt ≤ (I (ad g 56) 1).toInt + 5940) ∧ r = none) := by
  refine SP_of ⟨by decide, rfl⟩ (Nat.le_of_ble_eq_true rfl) ?_
  have e14374 : I (ad g 1) 1 = L := hI.2
  have b14375 := BT_get hI.1 1 1 2 (0) (0) (900) (by decide) 1 (by decide) (by decide)
  rw [e14374] at b14375
  have fr0 : fz 74 g [43, 44, 47, 48, 50, 51, 52, 56, 58] I I := fz_rf
  have frj0 : fz 74 g [45, 46, 56] J J := fz_rf
  obtain ⟨w14376, ew14376⟩ : ∃ w : Int32, I (ad g 56) 1 = w := ⟨_, rfl⟩
  have bw14376 := BT_get hI.1 56 1 2 (0) (23760) (700000) (by decide) 1 (by decide) (by decide)
  rw [ew14376] at bw14376
  rw [ew14376] at hb
  refine WP_iload_n dX9_serve_0 rfl ?_
  refine WQ_bipush (7) (7) dX9_serve_1 rfl rfl (fun v14377 hv14377 => ?_)
  refine WQ_imulk (7) dX9_serve_3 hv14377 (by omega) (by omega) (fun v14378 hv14378 => ?_)
  refine WP_istore (ls' := [(0, _), (1, _), (2, _), (3, _), (4, _)]) dX9_serve_4 (by decide) rfl ?_
  refine WP_aload_n dX9_serve_6 rfl ?_
  refine WP_getr dX9_serve_7 fX9_25 rfl (lyx_is hy 49 9 rfl) (rfx hr 49 2 5 (by decide)) ?_
  refine WP_getr dX9_serve_10 fX9_49 rfl (lyx_is hy 5 0 rfl) hT ?_
  refine WP_getr dX9_serve_13 fX9_71 rfl (lyx_is hy 6 7 rfl) (rfx hr 6 6 8 (by decide)) ?_
  refine WP_iload_n dX9_serve_16 rfl ?_
  refine WQ_iald dX9_serve_17 (lyx_is hy 8 13 rfl) (lyx_n hy 8 4 rfl) (by omega) (by omega) (fun q hq => BT_get hI.1 8 0 4 (0) (0) (99) (by decide) q (Nat.zero_le _) hq) (fun v14379 av14379 bv14379 ev14379 => ?_)
  clear ev14379
  refine WP_istore (ls' := [(0, _), (1, _), (2, _), (3, _), (4, _), (5, _)]) dX9_serve_18 (by decide) rfl ?_
  refine WP_aload_n dX9_serve_20 rfl ?_
  refine WP_getr dX9_serve_21 fX9_75 rfl (lyx_is hy 56 4 rfl) (rfx hr 56 5 58 (by decide)) ?_
  refine WP_iload dX9_serve_24 rfl ?_
  refine WQ_iconst (1) (1) dX9_serve_26 rfl rfl (fun v14380 hv14380 => ?_)
  refine WQ_iadd dX9_serve_27 (by omega) (by omega) (fun v14381 hv14381 => ?_)
  refine WQ_ialdf (q := 7 * so.toInt.toNat + 1) dX9_serve_28 (lyx_is hy 58 13 rfl) (lyx_n hy 58 28 rfl) (by omega) (by omega) (by omega) (fa_get1 hI (c := 58) (by decide) (by omega)) (fun v14382 av14382 bv14382 => ?_)
  refine WP_istore (ls' := [(0, _), (1, _), (2, _), (3, _), (4, _), (5, _), (6, _)]) dX9_serve_29 (by decide) rfl ?_
  refine WP_aload_n dX9_serve_31 rfl ?_
  refine WP_getr dX9_serve_32 fX9_25 rfl (lyx_is hy 49 9 rfl) (rfx hr 49 2 5 (by decide)) ?_
  refine WP_iload_n dX9_serve_35 rfl ?_
  refine WP_iload_n dX9_serve_36 rfl ?_
  refine WP_aload_n dX9_serve_37 rfl ?_
  refine WP_getr dX9_serve_38 fX9_75 rfl (lyx_is hy 56 4 rfl) (rfx hr 56 5 58 (by decide)) ?_
  refine WP_iload dX9_serve_41 rfl ?_
  refine WQ_iconst (0) (0) dX9_serve_43 rfl rfl (fun v14383 hv14383 => ?_)
  refine WQ_iadd dX9_serve_44 (by omega) (by omega) (fun v14384 hv14384 => ?_)
  refine WQ_ialdf (q := 7 * so.toInt.toNat) dX9_serve_45 (lyx_is hy 58 13 rfl) (lyx_n hy 58 28 rfl) (by omega) (by omega) (by omega) (fa_get0 hI (c := 58) (by decide) (by omega)) (fun v14385 av14385 bv14385 => ?_)
  refine WP_callV3 (k := 0) dX9_serve_46 ⟨⟨⟨by decide, by decide⟩, zX0_earned⟩, lX9_81, by decide, rfl, vX0_earned.1, vX0_earned.2⟩ (lyx_is hy 5 0 rfl) (sx_earned_6 hy hr hT hI so da v14385 (by omega) (by omega) (by omega) (by omega) (by omega) (by omega)) (Nat.le_of_ble_eq_true rfl) ?_
  intro r Ia Ja Ra hq
  obtain ⟨⟨ea, eb, ec⟩, v14386, rfl, av14386, bv14386, cv14386⟩ := hq
  show WP _ _ _ _ (.int _ :: _) _ _ _ _
  rw [ea, eb, ec]
  clear ea eb ec Ia Ja Ra
  refine WP_istore (ls' := [(0, _), (1, _), (2, _), (3, _), (4, _), (5, _), (6, _), (7, _)]) dX9_serve_49 (by decide) rfl ?_
  refine WP_aload_n dX9_serve_51 rfl ?_
  refine WP_getr dX9_serve_52 fX9_85 rfl (lyx_is hy 56 4 rfl) (rfx hr 56 4 57 (by decide)) ?_
  refine WP_iload_n dX9_serve_55 rfl ?_
  refine WQ_ialdu dX9_serve_56 (lyx_is hy 57 13 rfl) (lyx_n hy 57 4 rfl) (by omega) (by omega) (fun v14387 => ?_)
  refine WP_istore (ls' := [(0, _), (1, _), (2, _), (3, _), (4, _), (5, _), (6, _), (7, _), (8, _)]) dX9_serve_57 (by decide) rfl ?_
  refine WP_aload_n dX9_serve_59 rfl ?_
  refine WP_getr dX9_serve_60 fX9_12 rfl (lyx_is hy 49 9 rfl) (rfx hr 49 0 50 (by decide)) ?_
  refine WP_aload_n dX9_serve_63 rfl ?_
  refine WP_getr dX9_serve_64 fX9_25 rfl (lyx_is hy 49 9 rfl) (rfx hr 49 2 5 (by decide)) ?_
  refine WP_iload_n dX9_serve_67 rfl ?_
  refine WP_iload_n dX9_serve_68 rfl ?_
  refine WP_callV3 (k := 6) dX9_serve_69 ⟨⟨⟨by decide, by decide⟩, zX6_load⟩, lX9_88, by decide, rfl, vX6_load.1, vX6_load.2⟩ (lyx_is hy 50 6 rfl) (sx_loadx_50_6 hy hr hT hI so da (by omega) (by omega) (by omega) (by omega)) (Nat.le_of_ble_eq_true rfl) ?_
  intro r I14388 J14389 Ra hq
  obtain ⟨⟨hI14388, ec, fiI14388, ejI14388, pI14388⟩, rfl⟩ := hq
  rw [ec]
  clear ec Ra
  have fr14390 : fz 74 g [43, 44, 47, 48, 50, 51, 52, 56, 58] I I14388 := fz_tr fr0 (fz_mono fiI14388 (by decide))
  rw [ejI14388]
  clear ejI14388 J14389
  have e14391 : I14388 (ad g 56) 1 = w14376 := by rw [fz_at fiI14388 56 (by decide) (by decide)]; exact ew14376
  have e14392 : I14388 (ad g 1) 1 = L := hI14388.2
  have b14393 := BT_get hI14388.1 1 1 2 (0) (0) (900) (by decide) 1 (by decide) (by decide)
  rw [e14392] at b14393
  refine WP_iload dX9_serve_72 rfl ?_
  refine WQ_iconst (3) (3) dX9_serve_74 rfl rfl (fun v14394 hv14394 => ?_)
  refine WQ_icmp_ne 96 dX9_serve_75 rfl (fun c14394 => ?_) (fun c14394 => ?_)
  · refine WP_aload_n dX9_serve_96 rfl ?_
    refine WP_getr dX9_serve_97 fX9_12 rfl (lyx_is hy 49 9 rfl) (rfx hr 49 0 50 (by decide)) ?_
    refine WP_iload dX9_serve_100 rfl ?_
    refine WP_iload dX9_serve_102 rfl ?_
    refine WP_iload dX9_serve_104 rfl ?_
    refine WP_callV3 (k := 6) dX9_serve_106 ⟨⟨⟨by decide, by decide⟩, zX6_habit⟩, lX9_98, by decide, rfl, vX6_habit.1, vX6_habit.2⟩ (lyx_is hy 50 6 rfl) (sx_habita hy hr hI14388 v14387 v14386 v14382  (by omega) (by omega) (by omega) (by omega)) (Nat.le_of_ble_eq_true rfl) ?_
    intro r Ia Ja Ra hq
    obtain ⟨⟨ea, eb, ec⟩, v14396, rfl, av14396, bv14396, cv14396⟩ := hq
    show WP _ _ _ _ (.int _ :: _) _ _ _ _
    rw [ea, eb, ec]
    clear ea eb ec Ia Ja Ra
    have acv14396 : AOKd (I14388 (ad g 50)) v14386.toInt v14382.toInt v14396.toInt := by unfold AOKd; exact ⟨by omega, by omega, cv14396.1, cv14396.2.1, cv14396.2.2⟩
    obtain ⟨w14397, ew14397⟩ : ∃ w : Int32, I14388 (ad g 50) 3 = w := ⟨_, rfl⟩
    have bw14397 := BT_get hI14388.1 50 3 4 (0) (0) (20) (by decide) 3 (by decide) (by decide)
    rw [ew14397] at bw14397
    obtain ⟨w14398, ew14398⟩ : ∃ w : Int32, I14388 (ad g 50) 4 = w := ⟨_, rfl⟩
    have bw14398 := BT_get hI14388.1 50 4 5 (0) (0) (20) (by decide) 4 (by decide) (by decide)
    rw [ew14398] at bw14398
    have adv14396 := acv14396
    unfold AOKd at adv14396
    rw [ew14397, ew14398] at adv14396
    obtain ⟨rav14396, rbv14396, rcv14396, rdv14396, rev14396⟩ := adv14396
    refine WP_istore (ls' := [(0, _), (1, _), (2, _), (3, _), (4, _), (5, _), (6, _), (7, _), (8, _), (9, _)]) dX9_serve_109 (by decide) rfl ?_
    refine WP_aload_n dX9_serve_111 rfl ?_
    refine WP_aload_n dX9_serve_112 rfl ?_
    refine WP_getr dX9_serve_113 fX9_12 rfl (lyx_is hy 49 9 rfl) (rfx hr 49 0 50 (by decide)) ?_
    refine WQ_geti dX9_serve_116 fX9_101 rfl (lyx_is hy 50 6 rfl) (BT_get hI14388.1 50 0 1 (-1) (0) (2) (by decide) 0 (by decide) (by decide)) (fun v14399 ev14399 av14399 bv14399 => ?_)
    refine WP_iload dX9_serve_119 rfl ?_
    refine WQ_iconst (3) (3) dX9_serve_121 rfl rfl (fun v14400 hv14400 => ?_)
    refine WQ_iand3 dX9_serve_122 hv14400 (by omega) (by omega) (fun v14401 hv14401 => ?_)
    refine WP_iload dX9_serve_123 rfl ?_
    refine WP_iload_n dX9_serve_125 rfl ?_
    refine WP_callV4 (k := 9) dX9_serve_126 ⟨⟨⟨by decide, by decide⟩, zX9_buy⟩, lX9_104, by decide, rfl, vX9_buy.1, vX9_buy.2⟩ (lyx_is hy 49 9 rfl) (sx_buyf hy hr hI14388 v14399 v14401 v14379 da (by omega) (by omega) (by omega) (by omega) (by omega) (by omega) (by omega) (by omega)) (Nat.le_of_ble_eq_true rfl) ?_
    intro r I14402 J14403 Ra hq
    obtain ⟨⟨hI14402, ec, fiI14402, fjI14402⟩, v14404, rfl, av14404, bv14404, cv14404⟩ := hq
    show WP _ _ _ _ (.int _ :: _) _ _ _ _
    rw [ec]
    clear ec Ra
    have fr14405 : fz 74 g [43, 44, 47, 48, 50, 51, 52, 56, 58] I I14402 := fz_tr fr14390 (fz_mono fiI14402 (by decide))
    have fr14406 : fz 74 g [45, 46, 56] J J14403 := fz_tr frj0 (fz_mono fjI14402 (by decide))
    have e14407 : I14402 (ad g 56) 1 = w14376 := by rw [fz_at fiI14402 56 (by decide) (by decide)]; exact e14391
    have e14408 : I14402 (ad g 50) 3 = w14397 := by rw [fz_at fiI14402 50 (by decide) (by decide)]; exact ew14397
    have e14409 : I14402 (ad g 50) 4 = w14398 := by rw [fz_at fiI14402 50 (by decide) (by decide)]; exact ew14398
    have e14410 : I14402 (ad g 50) 0 = v14399 := by rw [fz_at fiI14402 50 (by decide) (by decide)]; exact ev14399
    have e14411 : I14402 (ad g 1) 1 = L := hI14402.2
    have b14412 := BT_get hI14402.1 1 1 2 (0) (0) (900) (by decide) 1 (by decide) (by decide)
    rw [e14411] at b14412
    refine WP_istore (ls' := [(0, _), (1, _), (2, _), (3, _), (4, _), (5, _), (6, _), (7, _), (8, _), (9, _), (10, _)]) dX9_serve_129 (by decide) rfl ?_
    refine WP_iload dX9_serve_131 rfl ?_
    refine WQ_iconst (2) (2) dX9_serve_133 rfl rfl (fun v14413 hv14413 => ?_)
    refine WQ_ishr2 dX9_serve_134 hv14413 (by omega) (by omega) (fun v14414 hv14414 => ?_)
    refine WQ_iconst (3) (3) dX9_serve_135 rfl rfl (fun v14415 hv14415 => ?_)
    refine WQ_iand3 dX9_serve_136 hv14415 (by omega) (by omega) (fun v14416 hv14416 => ?_)
    refine WP_istore (ls' := [(0, _), (1, _), (2, _), (3, _), (4, _), (5, _), (6, _), (7, _), (8, _), (9, _), (10, _), (11, _)]) dX9_serve_137 (by decide) rfl ?_
    refine WP_aload_n dX9_serve_139 rfl ?_
    refine WP_aload_n dX9_serve_140 rfl ?_
    refine WP_getr dX9_serve_141 fX9_25 rfl (lyx_is hy 49 9 rfl) (rfx hr 49 2 5 (by decide)) ?_
    refine WP_getr dX9_serve_144 fX9_49 rfl (lyx_is hy 5 0 rfl) hT ?_
    refine WQ_geti dX9_serve_147 fX9_108 rfl (lyx_is hy 6 7 rfl) (BT_get hI14402.1 6 4 5 (-1) (0) (2) (by decide) 4 (by decide) (by decide)) (fun v14417 ev14417 av14417 bv14417 => ?_)
    refine WP_iload dX9_serve_150 rfl ?_
    refine WQ_iconst (4) (4) dX9_serve_152 rfl rfl (fun v14418 hv14418 => ?_)
    refine WQ_ishr4 dX9_serve_153 hv14418 (by omega) (by omega) (fun v14419 hv14419 => ?_)
    refine WP_iload dX9_serve_154 rfl ?_
    refine WP_iload_n dX9_serve_156 rfl ?_
    refine WP_callV4 (k := 9) dX9_serve_157 ⟨⟨⟨by decide, by decide⟩, zX9_buy⟩, lX9_104, by decide, rfl, vX9_buy.1, vX9_buy.2⟩ (lyx_is hy 49 9 rfl) (sx_buyf hy hr hI14402 v14417 v14419 v14379 da (by omega) (by omega) (by omega) (by omega) (by omega) (by omega) (by omega) (by omega)) (Nat.le_of_ble_eq_true rfl) ?_
    intro r I14420 J14421 Ra hq
    obtain ⟨⟨hI14420, ec, fiI14420, fjI14420⟩, v14422, rfl, av14422, bv14422, cv14422⟩ := hq
    show WP _ _ _ _ (.int _ :: _) _ _ _ _
    rw [ec]
    clear ec Ra
    have fr14423 : fz 74 g [43, 44, 47, 48, 50, 51, 52, 56, 58] I I14420 := fz_tr fr14405 (fz_mono fiI14420 (by decide))
    have fr14424 : fz 74 g [45, 46, 56] J J14421 := fz_tr fr14406 (fz_mono fjI14420 (by decide))
    have e14425 : I14420 (ad g 56) 1 = w14376 := by rw [fz_at fiI14420 56 (by decide) (by decide)]; exact e14407
    have e14426 : I14420 (ad g 50) 3 = w14397 := by rw [fz_at fiI14420 50 (by decide) (by decide)]; exact e14408
    have e14427 : I14420 (ad g 50) 4 = w14398 := by rw [fz_at fiI14420 50 (by decide) (by decide)]; exact e14409
    have e14428 : I14420 (ad g 50) 0 = v14399 := by rw [fz_at fiI14420 50 (by decide) (by decide)]; exact e14410
    have e14429 : I14420 (ad g 6) 4 = v14417 := by rw [fz_at fiI14420 6 (by decide) (by decide)]; exact ev14417
    have e14430 : I14420 (ad g 1) 1 = L := hI14420.2
    have b14431 := BT_get hI14420.1 1 1 2 (0) (0) (900) (by decide) 1 (by decide) (by decide)
    rw [e14430] at b14431
    refine WP_istore (ls' := [(0, _), (1, _), (2, _), (3, _), (4, _), (5, _), (6, _), (7, _), (8, _), (9, _), (10, _), (11, _), (12, _)]) dX9_serve_160 (by decide) rfl ?_
    refine WP_aload_n dX9_serve_162 rfl ?_
    refine WP_getr dX9_serve_163 fX9_12 rfl (lyx_is hy 49 9 rfl) (rfx hr 49 0 50 (by decide)) ?_
    refine WP_iload dX9_serve_166 rfl ?_
    refine WP_iload dX9_serve_168 rfl ?_
    refine WP_callV2 (k := 6) dX9_serve_170 ⟨⟨⟨by decide, by decide⟩, zX6_priceOf⟩, lX9_111, by decide, rfl, vX6_priceOf.1, vX6_priceOf.2⟩ (lyx_is hy 50 6 rfl) (sx_pricex hy hr hI14420 v14404 v14422 (by omega) (by omega) (by omega) (by omega)) (Nat.le_of_ble_eq_true rfl) ?_
    intro r Ia Ja Ra hq
    obtain ⟨⟨ea, eb, ec⟩, v14432, rfl, av14432, bv14432, cv14432⟩ := hq
    show WP _ _ _ _ (.int _ :: _) _ _ _ _
    rw [ea, eb, ec]
    clear ea eb ec Ia Ja Ra
    rw [e14426] at cv14432
    rw [e14427] at cv14432
    have k1 : v14404.toInt * w14397.toInt ≤ (v14396.toInt % 4) * w14397.toInt := Int.mul_le_mul_of_nonneg_right (by omega) (by omega)
    have k2 : v14422.toInt * w14398.toInt ≤ (v14396.toInt / 16) * w14398.toInt := Int.mul_le_mul_of_nonneg_right (by omega) (by omega)
    have kp : v14432.toInt ≤ v14386.toInt := by omega
    refine WP_istore (ls' := [(0, _), (1, _), (2, _), (3, _), (4, _), (5, _), (6, _), (7, _), (8, _), (9, _), (10, _), (11, _), (12, _), (13, _)]) dX9_serve_173 (by decide) rfl ?_
    refine WP_aload_n dX9_serve_175 rfl ?_
    refine WP_dup dX9_serve_176 rfl ?_
    refine WQ_getiu dX9_serve_177 fX9_114 rfl (lyx_is hy 56 4 rfl) (fun v14433 ev14433 => ?_)
    refine WP_iload dX9_serve_180 rfl ?_
    refine WP_iload dX9_serve_182 rfl ?_
    refine WP_iload dX9_serve_184 rfl ?_
    refine WQ_iadd dX9_serve_186 (by omega) (by omega) (fun v14434 hv14434 => ?_)
    refine WQ_imulb (99) (6) dX9_serve_187 ⟨by omega, by omega⟩ ⟨by omega, by omega⟩ (by decide) (fun v14435 pv14435 av14435 bv14435 cv14435 => ?_)
    refine WQ_iaddu dX9_serve_188 (fun v14436 => ?_)
    refine WQ_puti dX9_serve_189 fX9_114 rfl rfl (lyx_is hy 56 4 rfl) (fun I14437 eI14437 => ?_)
    have hI14437 : XI g n L I14437 := by rw [eI14437]; exact (xi_f0 hy hI14420 (c := 56) (by decide) (Or.inl (by decide)) (by decide))
    have e14438 : I14437 (ad g 56) 1 = w14376 := by rw [eI14437, pp_ne _ _ (Or.inr (by decide))]; exact e14425
    have e14439 : I14437 (ad g 50) 3 = w14397 := by rw [eI14437, pp_ne _ _ (Or.inl (lyx_ne hy (by decide) (by decide) (by decide)))]; exact e14426
    have e14440 : I14437 (ad g 50) 4 = w14398 := by rw [eI14437, pp_ne _ _ (Or.inl (lyx_ne hy (by decide) (by decide) (by decide)))]; exact e14427
    have e14441 : I14437 (ad g 50) 0 = v14399 := by rw [eI14437, pp_ne _ _ (Or.inl (lyx_ne hy (by decide) (by decide) (by decide)))]; exact e14428
    have e14442 : I14437 (ad g 6) 4 = v14417 := by rw [eI14437, pp_ne _ _ (Or.inl (lyx_ne hy (by decide) (by decide) (by decide)))]; exact e14429
    have e14443 : I14437 (ad g 1) 1 = L := by rw [eI14437, pp_ne _ _ (Or.inl (lyx_ne hy (by decide) (by decide) (by decide)))]; exact e14430
    have e14444 : I14437 (ad g 56) 2 = v14436 := by rw [eI14437, pp_self]
    have fr14445 : fz 74 g [43, 44, 47, 48, 50, 51, 52, 56, 58] I I14437 := by rw [eI14437]; exact fzx_pp hy fr14423 (by decide) (by decide)
    clear eI14437
    refine WP_aload_n dX9_serve_192 rfl ?_
    refine WP_dup dX9_serve_193 rfl ?_
    refine WQ_getl dX9_serve_194 fX9_117 rfl (lyx_is hy 56 4 rfl) (fun l14446 el14446 => ?_)
    refine WP_iload dX9_serve_197 rfl ?_
    refine WP_iload dX9_serve_199 rfl ?_
    refine WP_iload dX9_serve_201 rfl ?_
    refine WQ_isub dX9_serve_203 (by omega) (by omega) (fun v14447 hv14447 => ?_)
    refine WQ_imulu dX9_serve_204 (fun v14448 => ?_)
    refine WQ_i2l dX9_serve_205 (fun l14449 hl14449 => ?_)
    refine WQ_ladd dX9_serve_206 (fun l14450 => ?_)
    refine WQ_putl dX9_serve_207 fX9_117 rfl rfl (lyx_is hy 56 4 rfl) (fun J14451 eJ14451 => ?_)
    have fr14452 : fz 74 g [45, 46, 56] J J14451 := by rw [eJ14451]; exact fzx_pp hy fr14424 (by decide) (by decide)
    clear eJ14451
    refine WP_aload_n dX9_serve_210 rfl ?_
    refine WP_getr dX9_serve_211 fX9_75 rfl (lyx_is hy 56 4 rfl) (rfx hr 56 5 58 (by decide)) ?_
    refine WP_iload dX9_serve_214 rfl ?_
    refine WQ_iconst (2) (2) dX9_serve_216 rfl rfl (fun v14453 hv14453 => ?_)
    refine WQ_iadd dX9_serve_217 (by omega) (by omega) (fun v14454 hv14454 => ?_)
    refine WP_dup2 dX9_serve_218 rfl rfl ?_
    refine WQ_ialdu dX9_serve_219 (lyx_is hy 58 13 rfl) (lyx_n hy 58 28 rfl) (by omega) (by omega) (fun v14455 => ?_)
    refine WP_iload dX9_serve_220 rfl ?_
    refine WP_iload dX9_serve_222 rfl ?_
    refine WQ_imulb (99) (60) dX9_serve_224 ⟨by omega, by omega⟩ ⟨by omega, by omega⟩ (by decide) (fun v14456 pv14456 av14456 bv14456 cv14456 => ?_)
    refine WQ_iaddu dX9_serve_225 (fun v14457 => ?_)
    refine WQ_iast dX9_serve_226 (lyx_is hy 58 13 rfl) (lyx_n hy 58 28 rfl) (by omega) (by omega) (fun I14458 eI14458 => ?_)
    have hI14458 : XI g n L I14458 := by rw [eI14458]; exact (fa_put hy hI14437 (c := 58) (k := 2) (s := so.toInt.toNat) (by decide) (by omega) (by decide) (by rw [cl (n := 7 * so.toInt.toNat + 2) (by omega)]) (fun h => absurd h (by decide)) (fun h => absurd h (by decide)))
    have e14459 : I14458 (ad g 56) 1 = w14376 := by rw [eI14458, pp_ne _ _ (Or.inl (lyx_ne hy (by decide) (by decide) (by decide)))]; exact e14438
    have e14460 : I14458 (ad g 50) 3 = w14397 := by rw [eI14458, pp_ne _ _ (Or.inl (lyx_ne hy (by decide) (by decide) (by decide)))]; exact e14439
    have e14461 : I14458 (ad g 50) 4 = w14398 := by rw [eI14458, pp_ne _ _ (Or.inl (lyx_ne hy (by decide) (by decide) (by decide)))]; exact e14440
    have e14462 : I14458 (ad g 50) 0 = v14399 := by rw [eI14458, pp_ne _ _ (Or.inl (lyx_ne hy (by decide) (by decide) (by decide)))]; exact e14441
    have e14463 : I14458 (ad g 6) 4 = v14417 := by rw [eI14458, pp_ne _ _ (Or.inl (lyx_ne hy (by decide) (by decide) (by decide)))]; exact e14442
    have e14464 : I14458 (ad g 1) 1 = L := by rw [eI14458, pp_ne _ _ (Or.inl (lyx_ne hy (by decide) (by decide) (by decide)))]; exact e14443
    have e14465 : I14458 (ad g 56) 2 = v14436 := by rw [eI14458, pp_ne _ _ (Or.inl (lyx_ne hy (by decide) (by decide) (by decide)))]; exact e14444
    have fr14466 : fz 74 g [43, 44, 47, 48, 50, 51, 52, 56, 58] I I14458 := by rw [eI14458]; exact fzx_pp hy fr14445 (by decide) (by decide)
    clear eI14458
    refine WP_aload_n dX9_serve_227 rfl ?_
    refine WP_getr dX9_serve_228 fX9_75 rfl (lyx_is hy 56 4 rfl) (rfx hr 56 5 58 (by decide)) ?_
    refine WP_iload dX9_serve_231 rfl ?_
    refine WQ_iconst (4) (4) dX9_serve_233 rfl rfl (fun v14467 hv14467 => ?_)
    refine WQ_iadd dX9_serve_234 (by omega) (by omega) (fun v14468 hv14468 => ?_)
    refine WP_dup2 dX9_serve_235 rfl rfl ?_
    refine WQ_ialdu dX9_serve_236 (lyx_is hy 58 13 rfl) (lyx_n hy 58 28 rfl) (by omega) (by omega) (fun v14469 => ?_)
    refine WP_iload dX9_serve_237 rfl ?_
    refine WP_aload_n dX9_serve_239 rfl ?_
    refine WP_getr dX9_serve_240 fX9_12 rfl (lyx_is hy 49 9 rfl) (rfx hr 49 0 50 (by decide)) ?_
    refine WQ_geti dX9_serve_243 fX9_121 rfl (lyx_is hy 50 6 rfl) (BT_get hI14458.1 50 2 3 (0) (0) (99) (by decide) 2 (by decide) (by decide)) (fun v14470 ev14470 av14470 bv14470 => ?_)
    refine WQ_imulb (99) (99) dX9_serve_246 ⟨by omega, by omega⟩ ⟨by omega, by omega⟩ (by decide) (fun v14471 pv14471 av14471 bv14471 cv14471 => ?_)
    refine WP_iload dX9_serve_247 rfl ?_
    refine WP_iload dX9_serve_249 rfl ?_
    refine WQ_iadd dX9_serve_251 (by omega) (by omega) (fun v14472 hv14472 => ?_)
    refine WQ_imulb (9801) (6) dX9_serve_252 ⟨by omega, by omega⟩ ⟨by omega, by omega⟩ (by decide) (fun v14473 pv14473 av14473 bv14473 cv14473 => ?_)
    refine WQ_iaddu dX9_serve_253 (fun v14474 => ?_)
    refine WQ_iast dX9_serve_254 (lyx_is hy 58 13 rfl) (lyx_n hy 58 28 rfl) (by omega) (by omega) (fun I14475 eI14475 => ?_)
    have hI14475 : XI g n L I14475 := by rw [eI14475]; exact (fa_put hy hI14458 (c := 58) (k := 4) (s := so.toInt.toNat) (by decide) (by omega) (by decide) (by rw [cl (n := 7 * so.toInt.toNat + 4) (by omega)]) (fun h => absurd h (by decide)) (fun h => absurd h (by decide)))
    have e14476 : I14475 (ad g 56) 1 = w14376 := by rw [eI14475, pp_ne _ _ (Or.inl (lyx_ne hy (by decide) (by decide) (by decide)))]; exact e14459
    have e14477 : I14475 (ad g 50) 3 = w14397 := by rw [eI14475, pp_ne _ _ (Or.inl (lyx_ne hy (by decide) (by decide) (by decide)))]; exact e14460
    have e14478 : I14475 (ad g 50) 4 = w14398 := by rw [eI14475, pp_ne _ _ (Or.inl (lyx_ne hy (by decide) (by decide) (by decide)))]; exact e14461
    have e14479 : I14475 (ad g 50) 0 = v14399 := by rw [eI14475, pp_ne _ _ (Or.inl (lyx_ne hy (by decide) (by decide) (by decide)))]; exact e14462
    have e14480 : I14475 (ad g 6) 4 = v14417 := by rw [eI14475, pp_ne _ _ (Or.inl (lyx_ne hy (by decide) (by decide) (by decide)))]; exact e14463
    have e14481 : I14475 (ad g 1) 1 = L := by rw [eI14475, pp_ne _ _ (Or.inl (lyx_ne hy (by decide) (by decide) (by decide)))]; exact e14464
    have e14482 : I14475 (ad g 56) 2 = v14436 := by rw [eI14475, pp_ne _ _ (Or.inl (lyx_ne hy (by decide) (by decide) (by decide)))]; exact e14465
    have e14483 : I14475 (ad g 50) 2 = v14470 := by rw [eI14475, pp_ne _ _ (Or.inl (lyx_ne hy (by decide) (by decide) (by decide)))]; exact ev14470
    have fr14484 : fz 74 g [43, 44, 47, 48, 50, 51, 52, 56, 58] I I14475 := by rw [eI14475]; exact fzx_pp hy fr14466 (by decide) (by decide)
    clear eI14475
    refine WP_aload_n dX9_serve_255 rfl ?_
    refine WP_aload_n dX9_serve_256 rfl ?_
    refine WP_iload_n dX9_serve_257 rfl ?_
    refine WP_iload_n dX9_serve_258 rfl ?_
    refine WP_iload dX9_serve_259 rfl ?_
    refine WP_iload dX9_serve_261 rfl ?_
    refine WQ_isub dX9_serve_263 (by omega) (by omega) (fun v14485 hv14485 => ?_)
    refine WP_iload dX9_serve_264 rfl ?_
    refine WP_iload dX9_serve_266 rfl ?_
    refine WQ_isub dX9_serve_268 (by omega) (by omega) (fun v14486 hv14486 => ?_)
    refine WP_iload dX9_serve_269 rfl ?_
    refine WQ_iadd dX9_serve_271 (by omega) (by omega) (fun v14487 hv14487 => ?_)
    refine WP_callV5 (k := 9) dX9_serve_272 ⟨⟨⟨by decide, by decide⟩, zX9_sleep⟩, lX9_124, by decide, rfl, vX9_sleep.1, vX9_sleep.2⟩ (lyx_is hy 49 9 rfl) (sx_wsleepf_56_6 hy hr hT hI14475 so da v14485 v14487 (by omega) (by omega) (by omega) (by omega) (by omega) (by omega) (by omega) (by omega) (by omega) (by rw [e14476]; omega)) (Nat.le_of_ble_eq_true rfl) ?_
    intro r I14488 J14489 Ra hq
    obtain ⟨⟨hI14488, ec, fiI14488, fjI14488, pI14488⟩, rfl⟩ := hq
    rw [ec]
    clear ec Ra
    have fr14490 : fz 74 g [43, 44, 47, 48, 50, 51, 52, 56, 58] I I14488 := fz_tr fr14484 (fz_mono fiI14488 (by decide))
    have fr14491 : fz 74 g [45, 46, 56] J J14489 := fz_tr fr14452 (fz_mono fjI14488 (by decide))
    have e14492 : I14488 (ad g 50) 3 = w14397 := by rw [fz_at fiI14488 50 (by decide) (by decide)]; exact e14477
    have e14493 : I14488 (ad g 50) 4 = w14398 := by rw [fz_at fiI14488 50 (by decide) (by decide)]; exact e14478
    have e14494 : I14488 (ad g 50) 0 = v14399 := by rw [fz_at fiI14488 50 (by decide) (by decide)]; exact e14479
    have e14495 : I14488 (ad g 6) 4 = v14417 := by rw [fz_at fiI14488 6 (by decide) (by decide)]; exact e14480
    have e14496 : I14488 (ad g 50) 2 = v14470 := by rw [fz_at fiI14488 50 (by decide) (by decide)]; exact e14483
    have e14497 : I14488 (ad g 1) 1 = L := hI14488.2
    have b14498 := BT_get hI14488.1 1 1 2 (0) (0) (900) (by decide) 1 (by decide) (by decide)
    rw [e14497] at b14498
    obtain ⟨w14499, ew14499⟩ : ∃ w : Int32, I14488 (ad g 56) 1 = w := ⟨_, rfl⟩
    have bw14499 := BT_get hI14488.1 56 1 2 (0) (23760) (700000) (by decide) 1 (by decide) (by decide)
    rw [ew14499] at bw14499
    rw [ew14499, e14476] at pI14488
    exact WP_vret dX9_serve_275 rfl ⟨⟨hI14488, ⟨hr, ⟨hT.trans hT.symm, rfl⟩, hP⟩, fr14490, fr14491, (by rw [ew14499, ew14376]; omega)⟩, rfl⟩
  · refine WP_aload_n dX9_serve_78 rfl ?_
    refine WP_getr dX9_serve_79 fX9_29 rfl (lyx_is hy 49 9 rfl) (rfx hr 49 3 43 (by decide)) ?_
    refine WP_iload_n dX9_serve_82 rfl ?_
    refine WP_iload_n dX9_serve_83 rfl ?_
    refine WP_iload dX9_serve_84 rfl ?_
    refine WP_iload dX9_serve_86 rfl ?_
    refine WQ_bipush (7) (7) dX9_serve_88 rfl rfl (fun v14500 hv14500 => ?_)
    refine WP_callV5 (k := 2) dX9_serve_90 ⟨⟨⟨by decide, by decide⟩, zX2_search⟩, lX9_92, by decide, rfl, vX2_search.1, vX2_search.2⟩ (lyx_is hy 43 2 rfl) (sx_searchx_6 hy hr hP hT hI14388 so da v14386 v14382 v14500 (by omega) (by omega) (by omega) (by omega) (by omega) (by omega) (by omega) (by omega) (by omega) (by omega)) (Nat.le_of_ble_eq_true rfl) ?_
    intro r I14501 J14502 R14503 hq
    obtain ⟨⟨hI14501, ⟨hrI14501, ⟨htI14501, hsI14501⟩, hpI14501⟩, fiI14501, fjI14501⟩, v14504, rfl, av14504, bv14504, cv14504⟩ := hq
    show WP _ _ _ _ (.int _ :: _) _ _ _ _
    have ht_I14501 := htI14501.trans hT
    have hs_I14501 : R14503 (ad g 0) 10 = R (ad g 0) 10 := hsI14501.trans rfl
    have fr14505 : fz 74 g [43, 44, 47, 48, 50, 51, 52, 56, 58] I I14501 := fz_tr fr14390 (fz_mono fiI14501 (by decide))
    have fr14506 : fz 74 g [45, 46, 56] J J14502 := fz_tr frj0 (fz_mono fjI14501 (by decide))
    have e14507 : I14501 (ad g 56) 1 = w14376 := by rw [fz_at fiI14501 56 (by decide) (by decide)]; exact e14391
    have e14508 : I14501 (ad g 1) 1 = L := hI14501.2
    have b14509 := BT_get hI14501.1 1 1 2 (0) (0) (900) (by decide) 1 (by decide) (by decide)
    rw [e14508] at b14509
    refine WP_goto 109 dX9_serve_93 rfl ?_
    obtain ⟨T9, t1, t2⟩ := cv14504
    have acv14504 : AOKd (I14388 (ad g 50)) v14386.toInt v14382.toInt v14504.toInt := AOK_eq (LD_un t1 (LD_fr pI14388 (fz_at fiI14388 6 (by decide) (by decide)).symm (fz_at fiI14388 11 (by decide) (by decide)).symm (fz_at fiI14388 13 (by decide) (by decide)).symm (fz_at fiI14388 14 (by decide) (by decide)).symm (fz_at fiI14388 15 (by decide) (by decide)).symm (fz_at fiI14388 22 (by decide) (by decide)).symm)) t2
    obtain ⟨w14510, ew14510⟩ : ∃ w : Int32, I14501 (ad g 50) 3 = w := ⟨_, rfl⟩
    have bw14510 := BT_get hI14501.1 50 3 4 (0) (0) (20) (by decide) 3 (by decide) (by decide)
    rw [ew14510] at bw14510
    obtain ⟨w14511, ew14511⟩ : ∃ w : Int32, I14501 (ad g 50) 4 = w := ⟨_, rfl⟩
    have bw14511 := BT_get hI14501.1 50 4 5 (0) (0) (20) (by decide) 4 (by decide) (by decide)
    rw [ew14511] at bw14511
    have adv14504 := acv14504
    unfold AOKd at adv14504
    rw [← fz_at fiI14501 50 (by decide) (by decide)] at adv14504
    rw [ew14510, ew14511] at adv14504
    obtain ⟨rav14504, rbv14504, rcv14504, rdv14504, rev14504⟩ := adv14504
    refine WP_istore (ls' := [(0, _), (1, _), (2, _), (3, _), (4, _), (5, _), (6, _), (7, _), (8, _), (9, _)]) dX9_serve_109 (by decide) rfl ?_
    refine WP_aload_n dX9_serve_111 rfl ?_
    refine WP_aload_n dX9_serve_112 rfl ?_
    refine WP_getr dX9_serve_113 fX9_12 rfl (lyx_is hy 49 9 rfl) (rfx hrI14501 49 0 50 (by decide)) ?_
    refine WQ_geti dX9_serve_116 fX9_101 rfl (lyx_is hy 50 6 rfl) (BT_get hI14501.1 50 0 1 (-1) (0) (2) (by decide) 0 (by decide) (by decide)) (fun v14512 ev14512 av14512 bv14512 => ?_)
    refine WP_iload dX9_serve_119 rfl ?_
    refine WQ_iconst (3) (3) dX9_serve_121 rfl rfl (fun v14513 hv14513 => ?_)
    refine WQ_iand3 dX9_serve_122 hv14513 (by omega) (by omega) (fun v14514 hv14514 => ?_)
    refine WP_iload dX9_serve_123 rfl ?_
    refine WP_iload_n dX9_serve_125 rfl ?_
    refine WP_callV4 (k := 9) dX9_serve_126 ⟨⟨⟨by decide, by decide⟩, zX9_buy⟩, lX9_104, by decide, rfl, vX9_buy.1, vX9_buy.2⟩ (lyx_is hy 49 9 rfl) (sx_buyf hy hrI14501 hI14501 v14512 v14514 v14379 da (by omega) (by omega) (by omega) (by omega) (by omega) (by omega) (by omega) (by omega)) (Nat.le_of_ble_eq_true rfl) ?_
    intro r I14515 J14516 Ra hq
    obtain ⟨⟨hI14515, ec, fiI14515, fjI14515⟩, v14517, rfl, av14517, bv14517, cv14517⟩ := hq
    show WP _ _ _ _ (.int _ :: _) _ _ _ _
    rw [ec]
    clear ec Ra
    have fr14518 : fz 74 g [43, 44, 47, 48, 50, 51, 52, 56, 58] I I14515 := fz_tr fr14505 (fz_mono fiI14515 (by decide))
    have fr14519 : fz 74 g [45, 46, 56] J J14516 := fz_tr fr14506 (fz_mono fjI14515 (by decide))
    have e14520 : I14515 (ad g 56) 1 = w14376 := by rw [fz_at fiI14515 56 (by decide) (by decide)]; exact e14507
    have e14521 : I14515 (ad g 50) 3 = w14510 := by rw [fz_at fiI14515 50 (by decide) (by decide)]; exact ew14510
    have e14522 : I14515 (ad g 50) 4 = w14511 := by rw [fz_at fiI14515 50 (by decide) (by decide)]; exact ew14511
    have e14523 : I14515 (ad g 50) 0 = v14512 := by rw [fz_at fiI14515 50 (by decide) (by decide)]; exact ev14512
    have e14524 : I14515 (ad g 1) 1 = L := hI14515.2
    have b14525 := BT_get hI14515.1 1 1 2 (0) (0) (900) (by decide) 1 (by decide) (by decide)
    rw [e14524] at b14525
    refine WP_istore (ls' := [(0, _), (1, _), (2, _), (3, _), (4, _), (5, _), (6, _), (7, _), (8, _), (9, _), (10, _)]) dX9_serve_129 (by decide) rfl ?_
    refine WP_iload dX9_serve_131 rfl ?_
    refine WQ_iconst (2) (2) dX9_serve_133 rfl rfl (fun v14526 hv14526 => ?_)
    refine WQ_ishr2 dX9_serve_134 hv14526 (by omega) (by omega) (fun v14527 hv14527 => ?_)
    refine WQ_iconst (3) (3) dX9_serve_135 rfl rfl (fun v14528 hv14528 => ?_)
    refine WQ_iand3 dX9_serve_136 hv14528 (by omega) (by omega) (fun v14529 hv14529 => ?_)
    refine WP_istore (ls' := [(0, _), (1, _), (2, _), (3, _), (4, _), (5, _), (6, _), (7, _), (8, _), (9, _), (10, _), (11, _)]) dX9_serve_137 (by decide) rfl ?_
    refine WP_aload_n dX9_serve_139 rfl ?_
    refine WP_aload_n dX9_serve_140 rfl ?_
    refine WP_getr dX9_serve_141 fX9_25 rfl (lyx_is hy 49 9 rfl) (rfx hrI14501 49 2 5 (by decide)) ?_
    refine WP_getr dX9_serve_144 fX9_49 rfl (lyx_is hy 5 0 rfl) ht_I14501 ?_
    refine WQ_geti dX9_serve_147 fX9_108 rfl (lyx_is hy 6 7 rfl) (BT_get hI14515.1 6 4 5 (-1) (0) (2) (by decide) 4 (by decide) (by decide)) (fun v14530 ev14530 av14530 bv14530 => ?_)
    refine WP_iload dX9_serve_150 rfl ?_
    refine WQ_iconst (4) (4) dX9_serve_152 rfl rfl (fun v14531 hv14531 => ?_)
    refine WQ_ishr4 dX9_serve_153 hv14531 (by omega) (by omega) (fun v14532 hv14532 => ?_)
    refine WP_iload dX9_serve_154 rfl ?_
    refine WP_iload_n dX9_serve_156 rfl ?_
    refine WP_callV4 (k := 9) dX9_serve_157 ⟨⟨⟨by decide, by decide⟩, zX9_buy⟩, lX9_104, by decide, rfl, vX9_buy.1, vX9_buy.2⟩ (lyx_is hy 49 9 rfl) (sx_buyf hy hrI14501 hI14515 v14530 v14532 v14379 da (by omega) (by omega) (by omega) (by omega) (by omega) (by omega) (by omega) (by omega)) (Nat.le_of_ble_eq_true rfl) ?_
    intro r I14533 J14534 Ra hq
    obtain ⟨⟨hI14533, ec, fiI14533, fjI14533⟩, v14535, rfl, av14535, bv14535, cv14535⟩ := hq
    show WP _ _ _ _ (.int _ :: _) _ _ _ _
    rw [ec]
    clear ec Ra
    have fr14536 : fz 74 g [43, 44, 47, 48, 50, 51, 52, 56, 58] I I14533 := fz_tr fr14518 (fz_mono fiI14533 (by decide))
    have fr14537 : fz 74 g [45, 46, 56] J J14534 := fz_tr fr14519 (fz_mono fjI14533 (by decide))
    have e14538 : I14533 (ad g 56) 1 = w14376 := by rw [fz_at fiI14533 56 (by decide) (by decide)]; exact e14520
    have e14539 : I14533 (ad g 50) 3 = w14510 := by rw [fz_at fiI14533 50 (by decide) (by decide)]; exact e14521
    have e14540 : I14533 (ad g 50) 4 = w14511 := by rw [fz_at fiI14533 50 (by decide) (by decide)]; exact e14522
    have e14541 : I14533 (ad g 50) 0 = v14512 := by rw [fz_at fiI14533 50 (by decide) (by decide)]; exact e14523
    have e14542 : I14533 (ad g 6) 4 = v14530 := by rw [fz_at fiI14533 6 (by decide) (by decide)]; exact ev14530
    have e14543 : I14533 (ad g 1) 1 = L := hI14533.2
    have b14544 := BT_get hI14533.1 1 1 2 (0) (0) (900) (by decide) 1 (by decide) (by decide)
    rw [e14543] at b14544
    refine WP_istore (ls' := [(0, _), (1, _), (2, _), (3, _), (4, _), (5, _), (6, _), (7, _), (8, _), (9, _), (10, _), (11, _), (12, _)]) dX9_serve_160 (by decide) rfl ?_
    refine WP_aload_n dX9_serve_162 rfl ?_
    refine WP_getr dX9_serve_163 fX9_12 rfl (lyx_is hy 49 9 rfl) (rfx hrI14501 49 0 50 (by decide)) ?_
    refine WP_iload dX9_serve_166 rfl ?_
    refine WP_iload dX9_serve_168 rfl ?_
    refine WP_callV2 (k := 6) dX9_serve_170 ⟨⟨⟨by decide, by decide⟩, zX6_priceOf⟩, lX9_111, by decide, rfl, vX6_priceOf.1, vX6_priceOf.2⟩ (lyx_is hy 50 6 rfl) (sx_pricex hy hrI14501 hI14533 v14517 v14535 (by omega) (by omega) (by omega) (by omega)) (Nat.le_of_ble_eq_true rfl) ?_
    intro r Ia Ja Ra hq
    obtain ⟨⟨ea, eb, ec⟩, v14545, rfl, av14545, bv14545, cv14545⟩ := hq
    show WP _ _ _ _ (.int _ :: _) _ _ _ _
    rw [ea, eb, ec]
    clear ea eb ec Ia Ja Ra
    rw [e14539] at cv14545
    rw [e14540] at cv14545
    have k1 : v14517.toInt * w14510.toInt ≤ (v14504.toInt % 4) * w14510.toInt := Int.mul_le_mul_of_nonneg_right (by omega) (by omega)
    have k2 : v14535.toInt * w14511.toInt ≤ (v14504.toInt / 16) * w14511.toInt := Int.mul_le_mul_of_nonneg_right (by omega) (by omega)
    have kp : v14545.toInt ≤ v14386.toInt := by omega
    refine WP_istore (ls' := [(0, _), (1, _), (2, _), (3, _), (4, _), (5, _), (6, _), (7, _), (8, _), (9, _), (10, _), (11, _), (12, _), (13, _)]) dX9_serve_173 (by decide) rfl ?_
    refine WP_aload_n dX9_serve_175 rfl ?_
    refine WP_dup dX9_serve_176 rfl ?_
    refine WQ_getiu dX9_serve_177 fX9_114 rfl (lyx_is hy 56 4 rfl) (fun v14546 ev14546 => ?_)
    refine WP_iload dX9_serve_180 rfl ?_
    refine WP_iload dX9_serve_182 rfl ?_
    refine WP_iload dX9_serve_184 rfl ?_
    refine WQ_iadd dX9_serve_186 (by omega) (by omega) (fun v14547 hv14547 => ?_)
    refine WQ_imulb (99) (6) dX9_serve_187 ⟨by omega, by omega⟩ ⟨by omega, by omega⟩ (by decide) (fun v14548 pv14548 av14548 bv14548 cv14548 => ?_)
    refine WQ_iaddu dX9_serve_188 (fun v14549 => ?_)
    refine WQ_puti dX9_serve_189 fX9_114 rfl rfl (lyx_is hy 56 4 rfl) (fun I14550 eI14550 => ?_)
    have hI14550 : XI g n L I14550 := by rw [eI14550]; exact (xi_f0 hy hI14533 (c := 56) (by decide) (Or.inl (by decide)) (by decide))
    have e14551 : I14550 (ad g 56) 1 = w14376 := by rw [eI14550, pp_ne _ _ (Or.inr (by decide))]; exact e14538
    have e14552 : I14550 (ad g 50) 3 = w14510 := by rw [eI14550, pp_ne _ _ (Or.inl (lyx_ne hy (by decide) (by decide) (by decide)))]; exact e14539
    have e14553 : I14550 (ad g 50) 4 = w14511 := by rw [eI14550, pp_ne _ _ (Or.inl (lyx_ne hy (by decide) (by decide) (by decide)))]; exact e14540
    have e14554 : I14550 (ad g 50) 0 = v14512 := by rw [eI14550, pp_ne _ _ (Or.inl (lyx_ne hy (by decide) (by decide) (by decide)))]; exact e14541
    have e14555 : I14550 (ad g 6) 4 = v14530 := by rw [eI14550, pp_ne _ _ (Or.inl (lyx_ne hy (by decide) (by decide) (by decide)))]; exact e14542
    have e14556 : I14550 (ad g 1) 1 = L := by rw [eI14550, pp_ne _ _ (Or.inl (lyx_ne hy (by decide) (by decide) (by decide)))]; exact e14543
    have e14557 : I14550 (ad g 56) 2 = v14549 := by rw [eI14550, pp_self]
    have fr14558 : fz 74 g [43, 44, 47, 48, 50, 51, 52, 56, 58] I I14550 := by rw [eI14550]; exact fzx_pp hy fr14536 (by decide) (by decide)
    clear eI14550
    refine WP_aload_n dX9_serve_192 rfl ?_
    refine WP_dup dX9_serve_193 rfl ?_
    refine WQ_getl dX9_serve_194 fX9_117 rfl (lyx_is hy 56 4 rfl) (fun l14559 el14559 => ?_)
    refine WP_iload dX9_serve_197 rfl ?_
    refine WP_iload dX9_serve_199 rfl ?_
    refine WP_iload dX9_serve_201 rfl ?_
    refine WQ_isub dX9_serve_203 (by omega) (by omega) (fun v14560 hv14560 => ?_)
    refine WQ_imulu dX9_serve_204 (fun v14561 => ?_)
    refine WQ_i2l dX9_serve_205 (fun l14562 hl14562 => ?_)
    refine WQ_ladd dX9_serve_206 (fun l14563 => ?_)
    refine WQ_putl dX9_serve_207 fX9_117 rfl rfl (lyx_is hy 56 4 rfl) (fun J14564 eJ14564 => ?_)
    have fr14565 : fz 74 g [45, 46, 56] J J14564 := by rw [eJ14564]; exact fzx_pp hy fr14537 (by decide) (by decide)
    clear eJ14564
    refine WP_aload_n dX9_serve_210 rfl ?_
    refine WP_getr dX9_serve_211 fX9_75 rfl (lyx_is hy 56 4 rfl) (rfx hrI14501 56 5 58 (by decide)) ?_
    refine WP_iload dX9_serve_214 rfl ?_
    refine WQ_iconst (2) (2) dX9_serve_216 rfl rfl (fun v14566 hv14566 => ?_)
    refine WQ_iadd dX9_serve_217 (by omega) (by omega) (fun v14567 hv14567 => ?_)
    refine WP_dup2 dX9_serve_218 rfl rfl ?_
    refine WQ_ialdu dX9_serve_219 (lyx_is hy 58 13 rfl) (lyx_n hy 58 28 rfl) (by omega) (by omega) (fun v14568 => ?_)
    refine WP_iload dX9_serve_220 rfl ?_
    refine WP_iload dX9_serve_222 rfl ?_
    refine WQ_imulb (99) (60) dX9_serve_224 ⟨by omega, by omega⟩ ⟨by omega, by omega⟩ (by decide) (fun v14569 pv14569 av14569 bv14569 cv14569 => ?_)
    refine WQ_iaddu dX9_serve_225 (fun v14570 => ?_)
    refine WQ_iast dX9_serve_226 (lyx_is hy 58 13 rfl) (lyx_n hy 58 28 rfl) (by omega) (by omega) (fun I14571 eI14571 => ?_)
    have hI14571 : XI g n L I14571 := by rw [eI14571]; exact (fa_put hy hI14550 (c := 58) (k := 2) (s := so.toInt.toNat) (by decide) (by omega) (by decide) (by rw [cl (n := 7 * so.toInt.toNat + 2) (by omega)]) (fun h => absurd h (by decide)) (fun h => absurd h (by decide)))
    have e14572 : I14571 (ad g 56) 1 = w14376 := by rw [eI14571, pp_ne _ _ (Or.inl (lyx_ne hy (by decide) (by decide) (by decide)))]; exact e14551
    have e14573 : I14571 (ad g 50) 3 = w14510 := by rw [eI14571, pp_ne _ _ (Or.inl (lyx_ne hy (by decide) (by decide) (by decide)))]; exact e14552
    have e14574 : I14571 (ad g 50) 4 = w14511 := by rw [eI14571, pp_ne _ _ (Or.inl (lyx_ne hy (by decide) (by decide) (by decide)))]; exact e14553
    have e14575 : I14571 (ad g 50) 0 = v14512 := by rw [eI14571, pp_ne _ _ (Or.inl (lyx_ne hy (by decide) (by decide) (by decide)))]; exact e14554
    have e14576 : I14571 (ad g 6) 4 = v14530 := by rw [eI14571, pp_ne _ _ (Or.inl (lyx_ne hy (by decide) (by decide) (by decide)))]; exact e14555
    have e14577 : I14571 (ad g 1) 1 = L := by rw [eI14571, pp_ne _ _ (Or.inl (lyx_ne hy (by decide) (by decide) (by decide)))]; exact e14556
    have e14578 : I14571 (ad g 56) 2 = v14549 := by rw [eI14571, pp_ne _ _ (Or.inl (lyx_ne hy (by decide) (by decide) (by decide)))]; exact e14557
    have fr14579 : fz 74 g [43, 44, 47, 48, 50, 51, 52, 56, 58] I I14571 := by rw [eI14571]; exact fzx_pp hy fr14558 (by decide) (by decide)
    clear eI14571
    refine WP_aload_n dX9_serve_227 rfl ?_
    refine WP_getr dX9_serve_228 fX9_75 rfl (lyx_is hy 56 4 rfl) (rfx hrI14501 56 5 58 (by decide)) ?_
    refine WP_iload dX9_serve_231 rfl ?_
    refine WQ_iconst (4) (4) dX9_serve_233 rfl rfl (fun v14580 hv14580 => ?_)
    refine WQ_iadd dX9_serve_234 (by omega) (by omega) (fun v14581 hv14581 => ?_)
    refine WP_dup2 dX9_serve_235 rfl rfl ?_
    refine WQ_ialdu dX9_serve_236 (lyx_is hy 58 13 rfl) (lyx_n hy 58 28 rfl) (by omega) (by omega) (fun v14582 => ?_)
    refine WP_iload dX9_serve_237 rfl ?_
    refine WP_aload_n dX9_serve_239 rfl ?_
    refine WP_getr dX9_serve_240 fX9_12 rfl (lyx_is hy 49 9 rfl) (rfx hrI14501 49 0 50 (by decide)) ?_
    refine WQ_geti dX9_serve_243 fX9_121 rfl (lyx_is hy 50 6 rfl) (BT_get hI14571.1 50 2 3 (0) (0) (99) (by decide) 2 (by decide) (by decide)) (fun v14583 ev14583 av14583 bv14583 => ?_)
    refine WQ_imulb (99) (99) dX9_serve_246 ⟨by omega, by omega⟩ ⟨by omega, by omega⟩ (by decide) (fun v14584 pv14584 av14584 bv14584 cv14584 => ?_)
    refine WP_iload dX9_serve_247 rfl ?_
    refine WP_iload dX9_serve_249 rfl ?_
    refine WQ_iadd dX9_serve_251 (by omega) (by omega) (fun v14585 hv14585 => ?_)
    refine WQ_imulb (9801) (6) dX9_serve_252 ⟨by omega, by omega⟩ ⟨by omega, by omega⟩ (by decide) (fun v14586 pv14586 av14586 bv14586 cv14586 => ?_)
    refine WQ_iaddu dX9_serve_253 (fun v14587 => ?_)
    refine WQ_iast dX9_serve_254 (lyx_is hy 58 13 rfl) (lyx_n hy 58 28 rfl) (by omega) (by omega) (fun I14588 eI14588 => ?_)
    have hI14588 : XI g n L I14588 := by rw [eI14588]; exact (fa_put hy hI14571 (c := 58) (k := 4) (s := so.toInt.toNat) (by decide) (by omega) (by decide) (by rw [cl (n := 7 * so.toInt.toNat + 4) (by omega)]) (fun h => absurd h (by decide)) (fun h => absurd h (by decide)))
    have e14589 : I14588 (ad g 56) 1 = w14376 := by rw [eI14588, pp_ne _ _ (Or.inl (lyx_ne hy (by decide) (by decide) (by decide)))]; exact e14572
    have e14590 : I14588 (ad g 50) 3 = w14510 := by rw [eI14588, pp_ne _ _ (Or.inl (lyx_ne hy (by decide) (by decide) (by decide)))]; exact e14573
    have e14591 : I14588 (ad g 50) 4 = w14511 := by rw [eI14588, pp_ne _ _ (Or.inl (lyx_ne hy (by decide) (by decide) (by decide)))]; exact e14574
    have e14592 : I14588 (ad g 50) 0 = v14512 := by rw [eI14588, pp_ne _ _ (Or.inl (lyx_ne hy (by decide) (by decide) (by decide)))]; exact e14575
    have e14593 : I14588 (ad g 6) 4 = v14530 := by rw [eI14588, pp_ne _ _ (Or.inl (lyx_ne hy (by decide) (by decide) (by decide)))]; exact e14576
    have e14594 : I14588 (ad g 1) 1 = L := by rw [eI14588, pp_ne _ _ (Or.inl (lyx_ne hy (by decide) (by decide) (by decide)))]; exact e14577
    have e14595 : I14588 (ad g 56) 2 = v14549 := by rw [eI14588, pp_ne _ _ (Or.inl (lyx_ne hy (by decide) (by decide) (by decide)))]; exact e14578
    have e14596 : I14588 (ad g 50) 2 = v14583 := by rw [eI14588, pp_ne _ _ (Or.inl (lyx_ne hy (by decide) (by decide) (by decide)))]; exact ev14583
    have fr14597 : fz 74 g [43, 44, 47, 48, 50, 51, 52, 56, 58] I I14588 := by rw [eI14588]; exact fzx_pp hy fr14579 (by decide) (by decide)
    clear eI14588
    refine WP_aload_n dX9_serve_255 rfl ?_
    refine WP_aload_n dX9_serve_256 rfl ?_
    refine WP_iload_n dX9_serve_257 rfl ?_
    refine WP_iload_n dX9_serve_258 rfl ?_
    refine WP_iload dX9_serve_259 rfl ?_
    refine WP_iload dX9_serve_261 rfl ?_
    refine WQ_isub dX9_serve_263 (by omega) (by omega) (fun v14598 hv14598 => ?_)
    refine WP_iload dX9_serve_264 rfl ?_
    refine WP_iload dX9_serve_266 rfl ?_
    refine WQ_isub dX9_serve_268 (by omega) (by omega) (fun v14599 hv14599 => ?_)
    refine WP_iload dX9_serve_269 rfl ?_
    refine WQ_iadd dX9_serve_271 (by omega) (by omega) (fun v14600 hv14600 => ?_)
    refine WP_callV5 (k := 9) dX9_serve_272 ⟨⟨⟨by decide, by decide⟩, zX9_sleep⟩, lX9_124, by decide, rfl, vX9_sleep.1, vX9_sleep.2⟩ (lyx_is hy 49 9 rfl) (sx_wsleepf_56_6 hy hrI14501 ht_I14501 hI14588 so da v14598 v14600 (by omega) (by omega) (by omega) (by omega) (by omega) (by omega) (by omega) (by omega) (by omega) (by rw [e14589]; omega)) (Nat.le_of_ble_eq_true rfl) ?_
    intro r I14601 J14602 Ra hq
    obtain ⟨⟨hI14601, ec, fiI14601, fjI14601, pI14601⟩, rfl⟩ := hq
    rw [ec]
    clear ec Ra
    have fr14603 : fz 74 g [43, 44, 47, 48, 50, 51, 52, 56, 58] I I14601 := fz_tr fr14597 (fz_mono fiI14601 (by decide))
    have fr14604 : fz 74 g [45, 46, 56] J J14602 := fz_tr fr14565 (fz_mono fjI14601 (by decide))
    have e14605 : I14601 (ad g 50) 3 = w14510 := by rw [fz_at fiI14601 50 (by decide) (by decide)]; exact e14590
    have e14606 : I14601 (ad g 50) 4 = w14511 := by rw [fz_at fiI14601 50 (by decide) (by decide)]; exact e14591
    have e14607 : I14601 (ad g 50) 0 = v14512 := by rw [fz_at fiI14601 50 (by decide) (by decide)]; exact e14592
    have e14608 : I14601 (ad g 6) 4 = v14530 := by rw [fz_at fiI14601 6 (by decide) (by decide)]; exact e14593
    have e14609 : I14601 (ad g 50) 2 = v14583 := by rw [fz_at fiI14601 50 (by decide) (by decide)]; exact e14596
    have e14610 : I14601 (ad g 1) 1 = L := hI14601.2
    have b14611 := BT_get hI14601.1 1 1 2 (0) (0) (900) (by decide) 1 (by decide) (by decide)
    rw [e14610] at b14611
    obtain ⟨w14612, ew14612⟩ : ∃ w : Int32, I14601 (ad g 56) 1 = w := ⟨_, rfl⟩
    have bw14612 := BT_get hI14601.1 56 1 2 (0) (23760) (700000) (by decide) 1 (by decide) (by decide)
    rw [ew14612] at bw14612
    rw [ew14612, e14589] at pI14601
    exact WP_vret dX9_serve_275 rfl ⟨⟨hI14601, ⟨hrI14501, ⟨ht_I14501.trans hT.symm, hs_I14501⟩, hpI14501⟩, fr14603, fr14604, (by rw [ew14612, ew14376]; omega)⟩, rfl⟩
set_option maxHeartbeats 4000000 in
set_option maxRecDepth 100000 in
theorem sx_serve_56_27 {g : GG} {n : Int} {L : Int32} (hy : LyX g)  {I : pI} {J : pJ} {R : pR} (hr : RfX g R) (hP : NL g R) (hT : R (ad g 5) 0 = some (ad g 27)) (hI : XI g n L I) (so : Int32) (da : Int32) (so_lo : 0 ≤ so.toInt) (so_hi : so.toInt ≤ 3) (da_lo : 0 ≤ da.toInt) (da_hi : da.toInt ≤ 6) (hn : 0 ≤ n ∧ n ≤ 40000) (hb : (I (ad g 56) 1).toInt ≤ 23760 * n + 700000 - 5940) : SP g mX9_serve [.ref (ad g 49), .ref (ad g 56), .int so, .int da] I J R (fun r I' J' R' => (XI g n L I' ∧ (RfX g R' ∧ (R' (ad g 5) 0 = R (ad g 5) 0 ∧ R' (ad g 0) 10 = R (ad g 0) 10) ∧ NL g R') ∧ fz 74 g [43, 44, 47, 48, 50, 51, 52, 56, 58] I I' ∧ fz 74 g [45, 46, 56] J J' ∧ (I' (ad g 56) 1).toInt ≤ (I (ad g 56) 1).toInt + 5940) ∧ r = none) := by
  refine SP_of ⟨by decide, rfl⟩ (Nat.le_of_ble_eq_true rfl) ?_
  have e14613 : I (ad g 1) 1 = L := hI.2
  have b14614 := BT_get hI.1 1 1 2 (0) (0) (900) (by decide) 1 (by decide) (by decide)
  rw [e14613] at b14614
  have fr0 : fz 74 g [43, 44, 47, 48, 50, 51, 52, 56, 58] I I := fz_rf
  have frj0 : fz 74 g [45, 46, 56] J J := fz_rf
  obtain ⟨w14615, ew14615⟩ : ∃ w : Int32, I (ad g 56) 1 = w := ⟨_, rfl⟩
  have bw14615 := BT_get hI.1 56 1 2 (0) (23760) (700000) (by decide) 1 (by decide) (by decide)
  rw [ew14615] at bw14615
  rw [ew14615] at hb
  refine WP_iload_n dX9_serve_0 rfl ?_
  refine WQ_bipush (7) (7) dX9_serve_1 rfl rfl (fun v14616 hv14616 => ?_)
  refine WQ_imulk (7) dX9_serve_3 hv14616 (by omega) (by omega) (fun v14617 hv14617 => ?_)
  refine WP_istore (ls' := [(0, _), (1, _), (2, _), (3, _), (4, _)]) dX9_serve_4 (by decide) rfl ?_
  refine WP_aload_n dX9_serve_6 rfl ?_
  refine WP_getr dX9_serve_7 fX9_25 rfl (lyx_is hy 49 9 rfl) (rfx hr 49 2 5 (by decide)) ?_
  refine WP_getr dX9_serve_10 fX9_49 rfl (lyx_is hy 5 0 rfl) hT ?_
  refine WP_getr dX9_serve_13 fX9_71 rfl (lyx_is hy 27 7 rfl) (rfx hr 27 6 29 (by decide)) ?_
  refine WP_iload_n dX9_serve_16 rfl ?_
  refine WQ_iald dX9_serve_17 (lyx_is hy 29 13 rfl) (lyx_n hy 29 4 rfl) (by omega) (by omega) (fun q hq => BT_get hI.1 29 0 4 (0) (0) (99) (by decide) q (Nat.zero_le _) hq) (fun v14618 av14618 bv14618 ev14618 => ?_)
  clear ev14618
  refine WP_istore (ls' := [(0, _), (1, _), (2, _), (3, _), (4, _), (5, _)]) dX9_serve_18 (by decide) rfl ?_
  refine WP_aload_n dX9_serve_20 rfl ?_
  refine WP_getr dX9_serve_21 fX9_75 rfl (lyx_is hy 56 4 rfl) (rfx hr 56 5 58 (by decide)) ?_
  refine WP_iload dX9_serve_24 rfl ?_
  refine WQ_iconst (1) (1) dX9_serve_26 rfl rfl (fun v14619 hv14619 => ?_)
  refine WQ_iadd dX9_serve_27 (by omega) (by omega) (fun v14620 hv14620 => ?_)
  refine WQ_ialdf (q := 7 * so.toInt.toNat + 1) dX9_serve_28 (lyx_is hy 58 13 rfl) (lyx_n hy 58 28 rfl) (by omega) (by omega) (by omega) (fa_get1 hI (c := 58) (by decide) (by omega)) (fun v14621 av14621 bv14621 => ?_)
  refine WP_istore (ls' := [(0, _), (1, _), (2, _), (3, _), (4, _), (5, _), (6, _)]) dX9_serve_29 (by decide) rfl ?_
  refine WP_aload_n dX9_serve_31 rfl ?_
  refine WP_getr dX9_serve_32 fX9_25 rfl (lyx_is hy 49 9 rfl) (rfx hr 49 2 5 (by decide)) ?_
  refine WP_iload_n dX9_serve_35 rfl ?_
  refine WP_iload_n dX9_serve_36 rfl ?_
  refine WP_aload_n dX9_serve_37 rfl ?_
  refine WP_getr dX9_serve_38 fX9_75 rfl (lyx_is hy 56 4 rfl) (rfx hr 56 5 58 (by decide)) ?_
  refine WP_iload dX9_serve_41 rfl ?_
  refine WQ_iconst (0) (0) dX9_serve_43 rfl rfl (fun v14622 hv14622 => ?_)
  refine WQ_iadd dX9_serve_44 (by omega) (by omega) (fun v14623 hv14623 => ?_)
  refine WQ_ialdf (q := 7 * so.toInt.toNat) dX9_serve_45 (lyx_is hy 58 13 rfl) (lyx_n hy 58 28 rfl) (by omega) (by omega) (by omega) (fa_get0 hI (c := 58) (by decide) (by omega)) (fun v14624 av14624 bv14624 => ?_)
  refine WP_callV3 (k := 0) dX9_serve_46 ⟨⟨⟨by decide, by decide⟩, zX0_earned⟩, lX9_81, by decide, rfl, vX0_earned.1, vX0_earned.2⟩ (lyx_is hy 5 0 rfl) (sx_earned_27 hy hr hT hI so da v14624 (by omega) (by omega) (by omega) (by omega) (by omega) (by omega)) (Nat.le_of_ble_eq_true rfl) ?_
  intro r Ia Ja Ra hq
  obtain ⟨⟨ea, eb, ec⟩, v14625, rfl, av14625, bv14625, cv14625⟩ := hq
  show WP _ _ _ _ (.int _ :: _) _ _ _ _
  rw [ea, eb, ec]
  clear ea eb ec Ia Ja Ra
  refine WP_istore (ls' := [(0, _), (1, _), (2, _), (3, _), (4, _), (5, _), (6, _), (7, _)]) dX9_serve_49 (by decide) rfl ?_
  refine WP_aload_n dX9_serve_51 rfl ?_
  refine WP_getr dX9_serve_52 fX9_85 rfl (lyx_is hy 56 4 rfl) (rfx hr 56 4 57 (by decide)) ?_
  refine WP_iload_n dX9_serve_55 rfl ?_
  refine WQ_ialdu dX9_serve_56 (lyx_is hy 57 13 rfl) (lyx_n hy 57 4 rfl) (by omega) (by omega) (fun v14626 => ?_)
  refine WP_istore (ls' := [(0, _), (1, _), (2, _), (3, _), (4, _), (5, _), (6, _), (7, _), (8, _)]) dX9_serve_57 (by decide) rfl ?_
  refine WP_aload_n dX9_serve_59 rfl ?_
  refine WP_getr dX9_serve_60 fX9_12 rfl (lyx_is hy 49 9 rfl) (rfx hr 49 0 50 (by decide)) ?_
  refine WP_aload_n dX9_serve_63 rfl ?_
  refine WP_getr dX9_serve_64 fX9_25 rfl (lyx_is hy 49 9 rfl) (rfx hr 49 2 5 (by decide)) ?_
  refine WP_iload_n dX9_serve_67 rfl ?_
  refine WP_iload_n dX9_serve_68 rfl ?_
  refine WP_callV3 (k := 6) dX9_serve_69 ⟨⟨⟨by decide, by decide⟩, zX6_load⟩, lX9_88, by decide, rfl, vX6_load.1, vX6_load.2⟩ (lyx_is hy 50 6 rfl) (sx_loadx_50_27 hy hr hT hI so da (by omega) (by omega) (by omega) (by omega)) (Nat.le_of_ble_eq_true rfl) ?_
  intro r I14627 J14628 Ra hq
  obtain ⟨⟨hI14627, ec, fiI14627, ejI14627, pI14627⟩, rfl⟩ := hq
  rw [ec]
  clear ec Ra
  have fr14629 : fz 74 g [43, 44, 47, 48, 50, 51, 52, 56, 58] I I14627 := fz_tr fr0 (fz_mono fiI14627 (by decide))
  rw [ejI14627]
  clear ejI14627 J14628
  have e14630 : I14627 (ad g 56) 1 = w14615 := by rw [fz_at fiI14627 56 (by decide) (by decide)]; exact ew14615
  have e14631 : I14627 (ad g 1) 1 = L := hI14627.2
  have b14632 := BT_get hI14627.1 1 1 2 (0) (0) (900) (by decide) 1 (by decide) (by decide)
  rw [e14631] at b14632
  refine WP_iload dX9_serve_72 rfl ?_
  refine WQ_iconst (3) (3) dX9_serve_74 rfl rfl (fun v14633 hv14633 => ?_)
  refine WQ_icmp_ne 96 dX9_serve_75 rfl (fun c14633 => ?_) (fun c14633 => ?_)
  · refine WP_aload_n dX9_serve_96 rfl ?_
    refine WP_getr dX9_serve_97 fX9_12 rfl (lyx_is hy 49 9 rfl) (rfx hr 49 0 50 (by decide)) ?_
    refine WP_iload dX9_serve_100 rfl ?_
    refine WP_iload dX9_serve_102 rfl ?_
    refine WP_iload dX9_serve_104 rfl ?_
    refine WP_callV3 (k := 6) dX9_serve_106 ⟨⟨⟨by decide, by decide⟩, zX6_habit⟩, lX9_98, by decide, rfl, vX6_habit.1, vX6_habit.2⟩ (lyx_is hy 50 6 rfl) (sx_habita hy hr hI14627 v14626 v14625 v14621  (by omega) (by omega) (by omega) (by omega)) (Nat.le_of_ble_eq_true rfl) ?_
    intro r Ia Ja Ra hq
    obtain ⟨⟨ea, eb, ec⟩, v14635, rfl, av14635, bv14635, cv14635⟩ := hq
    show WP _ _ _ _ (.int _ :: _) _ _ _ _
    rw [ea, eb, ec]
    clear ea eb ec Ia Ja Ra
    have acv14635 : AOKd (I14627 (ad g 50)) v14625.toInt v14621.toInt v14635.toInt := by unfold AOKd; exact ⟨by omega, by omega, cv14635.1, cv14635.2.1, cv14635.2.2⟩
    obtain ⟨w14636, ew14636⟩ : ∃ w : Int32, I14627 (ad g 50) 3 = w := ⟨_, rfl⟩
    have bw14636 := BT_get hI14627.1 50 3 4 (0) (0) (20) (by decide) 3 (by decide) (by decide)
    rw [ew14636] at bw14636
    obtain ⟨w14637, ew14637⟩ : ∃ w : Int32, I14627 (ad g 50) 4 = w := ⟨_, rfl⟩
    have bw14637 := BT_get hI14627.1 50 4 5 (0) (0) (20) (by decide) 4 (by decide) (by decide)
    rw [ew14637] at bw14637
    have adv14635 := acv14635
    unfold AOKd at adv14635
    rw [ew14636, ew14637] at adv14635
    obtain ⟨rav14635, rbv14635, rcv14635, rdv14635, rev14635⟩ := adv14635
    refine WP_istore (ls' := [(0, _), (1, _), (2, _), (3, _), (4, _), (5, _), (6, _), (7, _), (8, _), (9, _)]) dX9_serve_109 (by decide) rfl ?_
    refine WP_aload_n dX9_serve_111 rfl ?_
    refine WP_aload_n dX9_serve_112 rfl ?_
    refine WP_getr dX9_serve_113 fX9_12 rfl (lyx_is hy 49 9 rfl) (rfx hr 49 0 50 (by decide)) ?_
    refine WQ_geti dX9_serve_116 fX9_101 rfl (lyx_is hy 50 6 rfl) (BT_get hI14627.1 50 0 1 (-1) (0) (2) (by decide) 0 (by decide) (by decide)) (fun v14638 ev14638 av14638 bv14638 => ?_)
    refine WP_iload dX9_serve_119 rfl ?_
    refine WQ_iconst (3) (3) dX9_serve_121 rfl rfl (fun v14639 hv14639 => ?_)
    refine WQ_iand3 dX9_serve_122 hv14639 (by omega) (by omega) (fun v14640 hv14640 => ?_)
    refine WP_iload dX9_serve_123 rfl ?_
    refine WP_iload_n dX9_serve_125 rfl ?_
    refine WP_callV4 (k := 9) dX9_serve_126 ⟨⟨⟨by decide, by decide⟩, zX9_buy⟩, lX9_104, by decide, rfl, vX9_buy.1, vX9_buy.2⟩ (lyx_is hy 49 9 rfl) (sx_buyf hy hr hI14627 v14638 v14640 v14618 da (by omega) (by omega) (by omega) (by omega) (by omega) (by omega) (by omega) (by omega)) (Nat.le_of_ble_eq_true rfl) ?_
    intro r I14641 J14642 Ra hq
    obtain ⟨⟨hI14641, ec, fiI14641, fjI14641⟩, v14643, rfl, av14643, bv14643, cv14643⟩ := hq
    show WP _ _ _ _ (.int _ :: _) _ _ _ _
    rw [ec]
    clear ec Ra
    have fr14644 : fz 74 g [43, 44, 47, 48, 50, 51, 52, 56, 58] I I14641 := fz_tr fr14629 (fz_mono fiI14641 (by decide))
    have fr14645 : fz 74 g [45, 46, 56] J J14642 := fz_tr frj0 (fz_mono fjI14641 (by decide))
    have e14646 : I14641 (ad g 56) 1 = w14615 := by rw [fz_at fiI14641 56 (by decide) (by decide)]; exact e14630
    have e14647 : I14641 (ad g 50) 3 = w14636 := by rw [fz_at fiI14641 50 (by decide) (by decide)]; exact ew14636
    have e14648 : I14641 (ad g 50) 4 = w14637 := by rw [fz_at fiI14641 50 (by decide) (by decide)]; exact ew14637
    have e14649 : I14641 (ad g 50) 0 = v14638 := by rw [fz_at fiI14641 50 (by decide) (by decide)]; exact ev14638
    have e14650 : I14641 (ad g 1) 1 = L := hI14641.2
    have b14651 := BT_get hI14641.1 1 1 2 (0) (0) (900) (by decide) 1 (by decide) (by decide)
    rw [e14650] at b14651
    refine WP_istore (ls' := [(0, _), (1, _), (2, _), (3, _), (4, _), (5, _), (6, _), (7, _), (8, _), (9, _), (10, _)]) dX9_serve_129 (by decide) rfl ?_
    refine WP_iload dX9_serve_131 rfl ?_
    refine WQ_iconst (2) (2) dX9_serve_133 rfl rfl (fun v14652 hv14652 => ?_)
    refine WQ_ishr2 dX9_serve_134 hv14652 (by omega) (by omega) (fun v14653 hv14653 => ?_)
    refine WQ_iconst (3) (3) dX9_serve_135 rfl rfl (fun v14654 hv14654 => ?_)
    refine WQ_iand3 dX9_serve_136 hv14654 (by omega) (by omega) (fun v14655 hv14655 => ?_)
    refine WP_istore (ls' := [(0, _), (1, _), (2, _), (3, _), (4, _), (5, _), (6, _), (7, _), (8, _), (9, _), (10, _), (11, _)]) dX9_serve_137 (by decide) rfl ?_
    refine WP_aload_n dX9_serve_139 rfl ?_
    refine WP_aload_n dX9_serve_140 rfl ?_
    refine WP_getr dX9_serve_141 fX9_25 rfl (lyx_is hy 49 9 rfl) (rfx hr 49 2 5 (by decide)) ?_
    refine WP_getr dX9_serve_144 fX9_49 rfl (lyx_is hy 5 0 rfl) hT ?_
    refine WQ_geti dX9_serve_147 fX9_108 rfl (lyx_is hy 27 7 rfl) (BT_get hI14641.1 27 4 5 (-1) (0) (2) (by decide) 4 (by decide) (by decide)) (fun v14656 ev14656 av14656 bv14656 => ?_)
    refine WP_iload dX9_serve_150 rfl ?_
    refine WQ_iconst (4) (4) dX9_serve_152 rfl rfl (fun v14657 hv14657 => ?_)
    refine WQ_ishr4 dX9_serve_153 hv14657 (by omega) (by omega) (fun v14658 hv14658 => ?_)
    refine WP_iload dX9_serve_154 rfl ?_
    refine WP_iload_n dX9_serve_156 rfl ?_
    refine WP_callV4 (k := 9) dX9_serve_157 ⟨⟨⟨by decide, by decide⟩, zX9_buy⟩, lX9_104, by decide, rfl, vX9_buy.1, vX9_buy.2⟩ (lyx_is hy 49 9 rfl) (sx_buyf hy hr hI14641 v14656 v14658 v14618 da (by omega) (by omega) (by omega) (by omega) (by omega) (by omega) (by omega) (by omega)) (Nat.le_of_ble_eq_true rfl) ?_
    intro r I14659 J14660 Ra hq
    obtain ⟨⟨hI14659, ec, fiI14659, fjI14659⟩, v14661, rfl, av14661, bv14661, cv14661⟩ := hq
    show WP _ _ _ _ (.int _ :: _) _ _ _ _
    rw [ec]
    clear ec Ra
    have fr14662 : fz 74 g [43, 44, 47, 48, 50, 51, 52, 56, 58] I I14659 := fz_tr fr14644 (fz_mono fiI14659 (by decide))
    have fr14663 : fz 74 g [45, 46, 56] J J14660 := fz_tr fr14645 (fz_mono fjI14659 (by decide))
    have e14664 : I14659 (ad g 56) 1 = w14615 := by rw [fz_at fiI14659 56 (by decide) (by decide)]; exact e14646
    have e14665 : I14659 (ad g 50) 3 = w14636 := by rw [fz_at fiI14659 50 (by decide) (by decide)]; exact e14647
    have e14666 : I14659 (ad g 50) 4 = w14637 := by rw [fz_at fiI14659 50 (by decide) (by decide)]; exact e14648
    have e14667 : I14659 (ad g 50) 0 = v14638 := by rw [fz_at fiI14659 50 (by decide) (by decide)]; exact e14649
    have e14668 : I14659 (ad g 27) 4 = v14656 := by rw [fz_at fiI14659 27 (by decide) (by decide)]; exact ev14656
    have e14669 : I14659 (ad g 1) 1 = L := hI14659.2
    have b14670 := BT_get hI14659.1 1 1 2 (0) (0) (900) (by decide) 1 (by decide) (by decide)
    rw [e14669] at b14670
    refine WP_istore (ls' := [(0, _), (1, _), (2, _), (3, _), (4, _), (5, _), (6, _), (7, _), (8, _), (9, _), (10, _), (11, _), (12, _)]) dX9_serve_160 (by decide) rfl ?_
    refine WP_aload_n dX9_serve_162 rfl ?_
    refine WP_getr dX9_serve_163 fX9_12 rfl (lyx_is hy 49 9 rfl) (rfx hr 49 0 50 (by decide)) ?_
    refine WP_iload dX9_serve_166 rfl ?_
    refine WP_iload dX9_serve_168 rfl ?_
    refine WP_callV2 (k := 6) dX9_serve_170 ⟨⟨⟨by decide, by decide⟩, zX6_priceOf⟩, lX9_111, by decide, rfl, vX6_priceOf.1, vX6_priceOf.2⟩ (lyx_is hy 50 6 rfl) (sx_pricex hy hr hI14659 v14643 v14661 (by omega) (by omega) (by omega) (by omega)) (Nat.le_of_ble_eq_true rfl) ?_
    intro r Ia Ja Ra hq
    obtain ⟨⟨ea, eb, ec⟩, v14671, rfl, av14671, bv14671, cv14671⟩ := hq
    show WP _ _ _ _ (.int _ :: _) _ _ _ _
    rw [ea, eb, ec]
    clear ea eb ec Ia Ja Ra
    rw [e14665] at cv14671
    rw [e14666] at cv14671
    have k1 : v14643.toInt * w14636.toInt ≤ (v14635.toInt % 4) * w14636.toInt := Int.mul_le_mul_of_nonneg_right (by omega) (by omega)
    have k2 : v14661.toInt * w14637.toInt ≤ (v14635.toInt / 16) * w14637.toInt := Int.mul_le_mul_of_nonneg_right (by omega) (by omega)
    have kp : v14671.toInt ≤ v14625.toInt := by omega
    refine WP_istore (ls' := [(0, _), (1, _), (2, _), (3, _), (4, _), (5, _), (6, _), (7, _), (8, _), (9, _), (10, _), (11, _), (12, _), (13, _)]) dX9_serve_173 (by decide) rfl ?_
    refine WP_aload_n dX9_serve_175 rfl ?_
    refine WP_dup dX9_serve_176 rfl ?_
    refine WQ_getiu dX9_serve_177 fX9_114 rfl (lyx_is hy 56 4 rfl) (fun v14672 ev14672 => ?_)
    refine WP_iload dX9_serve_180 rfl ?_
    refine WP_iload dX9_serve_182 rfl ?_
    refine WP_iload dX9_serve_184 rfl ?_
    refine WQ_iadd dX9_serve_186 (by omega) (by omega) (fun v14673 hv14673 => ?_)
    refine WQ_imulb (99) (6) dX9_serve_187 ⟨by omega, by omega⟩ ⟨by omega, by omega⟩ (by decide) (fun v14674 pv14674 av14674 bv14674 cv14674 => ?_)
    refine WQ_iaddu dX9_serve_188 (fun v14675 => ?_)
    refine WQ_puti dX9_serve_189 fX9_114 rfl rfl (lyx_is hy 56 4 rfl) (fun I14676 eI14676 => ?_)
    have hI14676 : XI g n L I14676 := by rw [eI14676]; exact (xi_f0 hy hI14659 (c := 56) (by decide) (Or.inl (by decide)) (by decide))
    have e14677 : I14676 (ad g 56) 1 = w14615 := by rw [eI14676, pp_ne _ _ (Or.inr (by decide))]; exact e14664
    have e14678 : I14676 (ad g 50) 3 = w14636 := by rw [eI14676, pp_ne _ _ (Or.inl (lyx_ne hy (by decide) (by decide) (by decide)))]; exact e14665
    have e14679 : I14676 (ad g 50) 4 = w14637 := by rw [eI14676, pp_ne _ _ (Or.inl (lyx_ne hy (by decide) (by decide) (by decide)))]; exact e14666
    have e14680 : I14676 (ad g 50) 0 = v14638 := by rw [eI14676, pp_ne _ _ (Or.inl (lyx_ne hy (by decide) (by decide) (by decide)))]; exact e14667
    have e14681 : I14676 (ad g 27) 4 = v14656 := by rw [eI14676, pp_ne _ _ (Or.inl (lyx_ne hy (by decide) (by decide) (by decide)))]; exact e14668
    have e14682 : I14676 (ad g 1) 1 = L := by rw [eI14676, pp_ne _ _ (Or.inl (lyx_ne hy (by decide) (by decide) (by decide)))]; exact e14669
    have e14683 : I14676 (ad g 56) 2 = v14675 := by rw [eI14676, pp_self]
    have fr14684 : fz 74 g [43, 44, 47, 48, 50, 51, 52, 56, 58] I I14676 := by rw [eI14676]; exact fzx_pp hy fr14662 (by decide) (by decide)
    clear eI14676
    refine WP_aload_n dX9_serve_192 rfl ?_
    refine WP_dup dX9_serve_193 rfl ?_
    refine WQ_getl dX9_serve_194 fX9_117 rfl (lyx_is hy 56 4 rfl) (fun l14685 el14685 => ?_)
    refine WP_iload dX9_serve_197 rfl ?_
    refine WP_iload dX9_serve_199 rfl ?_
    refine WP_iload dX9_serve_201 rfl ?_
    refine WQ_isub dX9_serve_203 (by omega) (by omega) (fun v14686 hv14686 => ?_)
    refine WQ_imulu dX9_serve_204 (fun v14687 => ?_)
    refine WQ_i2l dX9_serve_205 (fun l14688 hl14688 => ?_)
    refine WQ_ladd dX9_serve_206 (fun l14689 => ?_)
    refine WQ_putl dX9_serve_207 fX9_117 rfl rfl (lyx_is hy 56 4 rfl) (fun J14690 eJ14690 => ?_)
    have fr14691 : fz 74 g [45, 46, 56] J J14690 := by rw [eJ14690]; exact fzx_pp hy fr14663 (by decide) (by decide)
    clear eJ14690
    refine WP_aload_n dX9_serve_210 rfl ?_
    refine WP_getr dX9_serve_211 fX9_75 rfl (lyx_is hy 56 4 rfl) (rfx hr 56 5 58 (by decide)) ?_
    refine WP_iload dX9_serve_214 rfl ?_
    refine WQ_iconst (2) (2) dX9_serve_216 rfl rfl (fun v14692 hv14692 => ?_)
    refine WQ_iadd dX9_serve_217 (by omega) (by omega) (fun v14693 hv14693 => ?_)
    refine WP_dup2 dX9_serve_218 rfl rfl ?_
    refine WQ_ialdu dX9_serve_219 (lyx_is hy 58 13 rfl) (lyx_n hy 58 28 rfl) (by omega) (by omega) (fun v14694 => ?_)
    refine WP_iload dX9_serve_220 rfl ?_
    refine WP_iload dX9_serve_222 rfl ?_
    refine WQ_imulb (99) (60) dX9_serve_224 ⟨by omega, by omega⟩ ⟨by omega, by omega⟩ (by decide) (fun v14695 pv14695 av14695 bv14695 cv14695 => ?_)
    refine WQ_iaddu dX9_serve_225 (fun v14696 => ?_)
    refine WQ_iast dX9_serve_226 (lyx_is hy 58 13 rfl) (lyx_n hy 58 28 rfl) (by omega) (by omega) (fun I14697 eI14697 => ?_)
    have hI14697 : XI g n L I14697 := by rw [eI14697]; exact (fa_put hy hI14676 (c := 58) (k := 2) (s := so.toInt.toNat) (by decide) (by omega) (by decide) (by rw [cl (n := 7 * so.toInt.toNat + 2) (by omega)]) (fun h => absurd h (by decide)) (fun h => absurd h (by decide)))
    have e14698 : I14697 (ad g 56) 1 = w14615 := by rw [eI14697, pp_ne _ _ (Or.inl (lyx_ne hy (by decide) (by decide) (by decide)))]; exact e14677
    have e14699 : I14697 (ad g 50) 3 = w14636 := by rw [eI14697, pp_ne _ _ (Or.inl (lyx_ne hy (by decide) (by decide) (by decide)))]; exact e14678
    have e14700 : I14697 (ad g 50) 4 = w14637 := by rw [eI14697, pp_ne _ _ (Or.inl (lyx_ne hy (by decide) (by decide) (by decide)))]; exact e14679
    have e14701 : I14697 (ad g 50) 0 = v14638 := by rw [eI14697, pp_ne _ _ (Or.inl (lyx_ne hy (by decide) (by decide) (by decide)))]; exact e14680
    have e14702 : I14697 (ad g 27) 4 = v14656 := by rw [eI14697, pp_ne _ _ (Or.inl (lyx_ne hy (by decide) (by decide) (by decide)))]; exact e14681
    have e14703 : I14697 (ad g 1) 1 = L := by rw [eI14697, pp_ne _ _ (Or.inl (lyx_ne hy (by decide) (by decide) (by decide)))]; exact e14682
    have e14704 : I14697 (ad g 56) 2 = v14675 := by rw [eI14697, pp_ne _ _ (Or.inl (lyx_ne hy (by decide) (by decide) (by decide)))]; exact e14683
    have fr14705 : fz 74 g [43, 44, 47, 48, 50, 51, 52, 56, 58] I I14697 := by rw [eI14697]; exact fzx_pp hy fr14684 (by decide) (by decide)
    clear eI14697
    refine WP_aload_n dX9_serve_227 rfl ?_
    refine WP_getr dX9_serve_228 fX9_75 rfl (lyx_is hy 56 4 rfl) (rfx hr 56 5 58 (by decide)) ?_
    refine WP_iload dX9_serve_231 rfl ?_
    refine WQ_iconst (4) (4) dX9_serve_233 rfl rfl (fun v14706 hv14706 => ?_)
    refine WQ_iadd dX9_serve_234 (by omega) (by omega) (fun v14707 hv14707 => ?_)
    refine WP_dup2 dX9_serve_235 rfl rfl ?_
    refine WQ_ialdu dX9_serve_236 (lyx_is hy 58 13 rfl) (lyx_n hy 58 28 rfl) (by omega) (by omega) (fun v14708 => ?_)
    refine WP_iload dX9_serve_237 rfl ?_
    refine WP_aload_n dX9_serve_239 rfl ?_
    refine WP_getr dX9_serve_240 fX9_12 rfl (lyx_is hy 49 9 rfl) (rfx hr 49 0 50 (by decide)) ?_
    refine WQ_geti dX9_serve_243 fX9_121 rfl (lyx_is hy 50 6 rfl) (BT_get hI14697.1 50 2 3 (0) (0) (99) (by decide) 2 (by decide) (by decide)) (fun v14709 ev14709 av14709 bv14709 => ?_)
    refine WQ_imulb (99) (99) dX9_serve_246 ⟨by omega, by omega⟩ ⟨by omega, by omega⟩ (by decide) (fun v14710 pv14710 av14710 bv14710 cv14710 => ?_)
    refine WP_iload dX9_serve_247 rfl ?_
    refine WP_iload dX9_serve_249 rfl ?_
    refine WQ_iadd dX9_serve_251 (by omega) (by omega) (fun v14711 hv14711 => ?_)
    refine WQ_imulb (9801) (6) dX9_serve_252 ⟨by omega, by omega⟩ ⟨by omega, by omega⟩ (by decide) (fun v14712 pv14712 av14712 bv14712 cv14712 => ?_)
    refine WQ_iaddu dX9_serve_253 (fun v14713 => ?_)
    refine WQ_iast dX9_serve_254 (lyx_is hy 58 13 rfl) (lyx_n hy 58 28 rfl) (by omega) (by omega) (fun I14714 eI14714 => ?_)
    have hI14714 : XI g n L I14714 := by rw [eI14714]; exact (fa_put hy hI14697 (c := 58) (k := 4) (s := so.toInt.toNat) (by decide) (by omega) (by decide) (by rw [cl (n := 7 * so.toInt.toNat + 4) (by omega)]) (fun h => absurd h (by decide)) (fun h => absurd h (by decide)))
    have e14715 : I14714 (ad g 56) 1 = w14615 := by rw [eI14714, pp_ne _ _ (Or.inl (lyx_ne hy (by decide) (by decide) (by decide)))]; exact e14698
    have e14716 : I14714 (ad g 50) 3 = w14636 := by rw [eI14714, pp_ne _ _ (Or.inl (lyx_ne hy (by decide) (by decide) (by decide)))]; exact e14699
    have e14717 : I14714 (ad g 50) 4 = w14637 := by rw [eI14714, pp_ne _ _ (Or.inl (lyx_ne hy (by decide) (by decide) (by decide)))]; exact e14700
    have e14718 : I14714 (ad g 50) 0 = v14638 := by rw [eI14714, pp_ne _ _ (Or.inl (lyx_ne hy (by decide) (by decide) (by decide)))]; exact e14701
    have e14719 : I14714 (ad g 27) 4 = v14656 := by rw [eI14714, pp_ne _ _ (Or.inl (lyx_ne hy (by decide) (by decide) (by decide)))]; exact e14702
    have e14720 : I14714 (ad g 1) 1 = L := by rw [eI14714, pp_ne _ _ (Or.inl (lyx_ne hy (by decide) (by decide) (by decide)))]; exact e14703
    have e14721 : I14714 (ad g 56) 2 = v14675 := by rw [eI14714, pp_ne _ _ (Or.inl (lyx_ne hy (by decide) (by decide) (by decide)))]; exact e14704
    have e14722 : I14714 (ad g 50) 2 = v14709 := by rw [eI14714, pp_ne _ _ (Or.inl (lyx_ne hy (by decide) (by decide) (by decide)))]; exact ev14709
    have fr14723 : fz 74 g [43, 44, 47, 48, 50, 51, 52, 56, 58] I I14714 := by rw [eI14714]; exact fzx_pp hy fr14705 (by decide) (by decide)
    clear eI14714
    refine WP_aload_n dX9_serve_255 rfl ?_
    refine WP_aload_n dX9_serve_256 rfl ?_
    refine WP_iload_n dX9_serve_257 rfl ?_
    refine WP_iload_n dX9_serve_258 rfl ?_
    refine WP_iload dX9_serve_259 rfl ?_
    refine WP_iload dX9_serve_261 rfl ?_
    refine WQ_isub dX9_serve_263 (by omega) (by omega) (fun v14724 hv14724 => ?_)
    refine WP_iload dX9_serve_264 rfl ?_
    refine WP_iload dX9_serve_266 rfl ?_
    refine WQ_isub dX9_serve_268 (by omega) (by omega) (fun v14725 hv14725 => ?_)
    refine WP_iload dX9_serve_269 rfl ?_
    refine WQ_iadd dX9_serve_271 (by omega) (by omega) (fun v14726 hv14726 => ?_)
    refine WP_callV5 (k := 9) dX9_serve_272 ⟨⟨⟨by decide, by decide⟩, zX9_sleep⟩, lX9_124, by decide, rfl, vX9_sleep.1, vX9_sleep.2⟩ (lyx_is hy 49 9 rfl) (sx_wsleepf_56_27 hy hr hT hI14714 so da v14724 v14726 (by omega) (by omega) (by omega) (by omega) (by omega) (by omega) (by omega) (by omega) (by omega) (by rw [e14715]; omega)) (Nat.le_of_ble_eq_true rfl) ?_
    intro r I14727 J14728 Ra hq
    obtain ⟨⟨hI14727, ec, fiI14727, fjI14727, pI14727⟩, rfl⟩ := hq
    rw [ec]
    clear ec Ra
    have fr14729 : fz 74 g [43, 44, 47, 48, 50, 51, 52, 56, 58] I I14727 := fz_tr fr14723 (fz_mono fiI14727 (by decide))
    have fr14730 : fz 74 g [45, 46, 56] J J14728 := fz_tr fr14691 (fz_mono fjI14727 (by decide))
    have e14731 : I14727 (ad g 50) 3 = w14636 := by rw [fz_at fiI14727 50 (by decide) (by decide)]; exact e14716
    have e14732 : I14727 (ad g 50) 4 = w14637 := by rw [fz_at fiI14727 50 (by decide) (by decide)]; exact e14717
    have e14733 : I14727 (ad g 50) 0 = v14638 := by rw [fz_at fiI14727 50 (by decide) (by decide)]; exact e14718
    have e14734 : I14727 (ad g 27) 4 = v14656 := by rw [fz_at fiI14727 27 (by decide) (by decide)]; exact e14719
    have e14735 : I14727 (ad g 50) 2 = v14709 := by rw [fz_at fiI14727 50 (by decide) (by decide)]; exact e14722
    have e14736 : I14727 (ad g 1) 1 = L := hI14727.2
    have b14737 := BT_get hI14727.1 1 1 2 (0) (0) (900) (by decide) 1 (by decide) (by decide)
    rw [e14736] at b14737
    obtain ⟨w14738, ew14738⟩ : ∃ w : Int32, I14727 (ad g 56) 1 = w := ⟨_, rfl⟩
    have bw14738 := BT_get hI14727.1 56 1 2 (0) (23760) (700000) (by decide) 1 (by decide) (by decide)
    rw [ew14738] at bw14738
    rw [ew14738, e14715] at pI14727
    exact WP_vret dX9_serve_275 rfl ⟨⟨hI14727, ⟨hr, ⟨hT.trans hT.symm, rfl⟩, hP⟩, fr14729, fr14730, (by rw [ew14738, ew14615]; omega)⟩, rfl⟩
  · refine WP_aload_n dX9_serve_78 rfl ?_
    refine WP_getr dX9_serve_79 fX9_29 rfl (lyx_is hy 49 9 rfl) (rfx hr 49 3 43 (by decide)) ?_
    refine WP_iload_n dX9_serve_82 rfl ?_
    refine WP_iload_n dX9_serve_83 rfl ?_
    refine WP_iload dX9_serve_84 rfl ?_
    refine WP_iload dX9_serve_86 rfl ?_
    refine WQ_bipush (7) (7) dX9_serve_88 rfl rfl (fun v14739 hv14739 => ?_)
    refine WP_callV5 (k := 2) dX9_serve_90 ⟨⟨⟨by decide, by decide⟩, zX2_search⟩, lX9_92, by decide, rfl, vX2_search.1, vX2_search.2⟩ (lyx_is hy 43 2 rfl) (sx_searchx_27 hy hr hP hT hI14627 so da v14625 v14621 v14739 (by omega) (by omega) (by omega) (by omega) (by omega) (by omega) (by omega) (by omega) (by omega) (by omega)) (Nat.le_of_ble_eq_true rfl) ?_
    intro r I14740 J14741 R14742 hq
    obtain ⟨⟨hI14740, ⟨hrI14740, ⟨htI14740, hsI14740⟩, hpI14740⟩, fiI14740, fjI14740⟩, v14743, rfl, av14743, bv14743, cv14743⟩ := hq
    show WP _ _ _ _ (.int _ :: _) _ _ _ _
    have ht_I14740 := htI14740.trans hT
    have hs_I14740 : R14742 (ad g 0) 10 = R (ad g 0) 10 := hsI14740.trans rfl
    have fr14744 : fz 74 g [43, 44, 47, 48, 50, 51, 52, 56, 58] I I14740 := fz_tr fr14629 (fz_mono fiI14740 (by decide))
    have fr14745 : fz 74 g [45, 46, 56] J J14741 := fz_tr frj0 (fz_mono fjI14740 (by decide))
    have e14746 : I14740 (ad g 56) 1 = w14615 := by rw [fz_at fiI14740 56 (by decide) (by decide)]; exact e14630
    have e14747 : I14740 (ad g 1) 1 = L := hI14740.2
    have b14748 := BT_get hI14740.1 1 1 2 (0) (0) (900) (by decide) 1 (by decide) (by decide)
    rw [e14747] at b14748
    refine WP_goto 109 dX9_serve_93 rfl ?_
    obtain ⟨T9, t1, t2⟩ := cv14743
    have acv14743 : AOKd (I14627 (ad g 50)) v14625.toInt v14621.toInt v14743.toInt := AOK_eq (LD_un t1 (LD_fr pI14627 (fz_at fiI14627 27 (by decide) (by decide)).symm (fz_at fiI14627 32 (by decide) (by decide)).symm (fz_at fiI14627 34 (by decide) (by decide)).symm (fz_at fiI14627 35 (by decide) (by decide)).symm (fz_at fiI14627 36 (by decide) (by decide)).symm (fz_at fiI14627 22 (by decide) (by decide)).symm)) t2
    obtain ⟨w14749, ew14749⟩ : ∃ w : Int32, I14740 (ad g 50) 3 = w := ⟨_, rfl⟩
    have bw14749 := BT_get hI14740.1 50 3 4 (0) (0) (20) (by decide) 3 (by decide) (by decide)
    rw [ew14749] at bw14749
    obtain ⟨w14750, ew14750⟩ : ∃ w : Int32, I14740 (ad g 50) 4 = w := ⟨_, rfl⟩
    have bw14750 := BT_get hI14740.1 50 4 5 (0) (0) (20) (by decide) 4 (by decide) (by decide)
    rw [ew14750] at bw14750
    have adv14743 := acv14743
    unfold AOKd at adv14743
    rw [← fz_at fiI14740 50 (by decide) (by decide)] at adv14743
    rw [ew14749, ew14750] at adv14743
    obtain ⟨rav14743, rbv14743, rcv14743, rdv14743, rev14743⟩ := adv14743
    refine WP_istore (ls' := [(0, _), (1, _), (2, _), (3, _), (4, _), (5, _), (6, _), (7, _), (8, _), (9, _)]) dX9_serve_109 (by decide) rfl ?_
    refine WP_aload_n dX9_serve_111 rfl ?_
    refine WP_aload_n dX9_serve_112 rfl ?_
    refine WP_getr dX9_serve_113 fX9_12 rfl (lyx_is hy 49 9 rfl) (rfx hrI14740 49 0 50 (by decide)) ?_
    refine WQ_geti dX9_serve_116 fX9_101 rfl (lyx_is hy 50 6 rfl) (BT_get hI14740.1 50 0 1 (-1) (0) (2) (by decide) 0 (by decide) (by decide)) (fun v14751 ev14751 av14751 bv14751 => ?_)
    refine WP_iload dX9_serve_119 rfl ?_
    refine WQ_iconst (3) (3) dX9_serve_121 rfl rfl (fun v14752 hv14752 => ?_)
    refine WQ_iand3 dX9_serve_122 hv14752 (by omega) (by omega) (fun v14753 hv14753 => ?_)
    refine WP_iload dX9_serve_123 rfl ?_
    refine WP_iload_n dX9_serve_125 rfl ?_
    refine WP_callV4 (k := 9) dX9_serve_126 ⟨⟨⟨by decide, by decide⟩, zX9_buy⟩, lX9_104, by decide, rfl, vX9_buy.1, vX9_buy.2⟩ (lyx_is hy 49 9 rfl) (sx_buyf hy hrI14740 hI14740 v14751 v14753 v14618 da (by omega) (by omega) (by omega) (by omega) (by omega) (by omega) (by omega) (by omega)) (Nat.le_of_ble_eq_true rfl) ?_
    intro r I14754 J14755 Ra hq
    obtain ⟨⟨hI14754, ec, fiI14754, fjI14754⟩, v14756, rfl, av14756, bv14756, cv14756⟩ := hq
    show WP _ _ _ _ (.int _ :: _) _ _ _ _
    rw [ec]
    clear ec Ra
    have fr14757 : fz 74 g [43, 44, 47, 48, 50, 51, 52, 56, 58] I I14754 := fz_tr fr14744 (fz_mono fiI14754 (by decide))
    have fr14758 : fz 74 g [45, 46, 56] J J14755 := fz_tr fr14745 (fz_mono fjI14754 (by decide))
    have e14759 : I14754 (ad g 56) 1 = w14615 := by rw [fz_at fiI14754 56 (by decide) (by decide)]; exact e14746
    have e14760 : I14754 (ad g 50) 3 = w14749 := by rw [fz_at fiI14754 50 (by decide) (by decide)]; exact ew14749
    have e14761 : I14754 (ad g 50) 4 = w14750 := by rw [fz_at fiI14754 50 (by decide) (by decide)]; exact ew14750
    have e14762 : I14754 (ad g 50) 0 = v14751 := by rw [fz_at fiI14754 50 (by decide) (by decide)]; exact ev14751
    have e14763 : I14754 (ad g 1) 1 = L := hI14754.2
    have b14764 := BT_get hI14754.1 1 1 2 (0) (0) (900) (by decide) 1 (by decide) (by decide)
    rw [e14763] at b14764
    refine WP_istore (ls' := [(0, _), (1, _), (2, _), (3, _), (4, _), (5, _), (6, _), (7, _), (8, _), (9, _), (10, _)]) dX9_serve_129 (by decide) rfl ?_
    refine WP_iload dX9_serve_131 rfl ?_
    refine WQ_iconst (2) (2) dX9_serve_133 rfl rfl (fun v14765 hv14765 => ?_)
    refine WQ_ishr2 dX9_serve_134 hv14765 (by omega) (by omega) (fun v14766 hv14766 => ?_)
    refine WQ_iconst (3) (3) dX9_serve_135 rfl rfl (fun v14767 hv14767 => ?_)
    refine WQ_iand3 dX9_serve_136 hv14767 (by omega) (by omega) (fun v14768 hv14768 => ?_)
    refine WP_istore (ls' := [(0, _), (1, _), (2, _), (3, _), (4, _), (5, _), (6, _), (7, _), (8, _), (9, _), (10, _), (11, _)]) dX9_serve_137 (by decide) rfl ?_
    refine WP_aload_n dX9_serve_139 rfl ?_
    refine WP_aload_n dX9_serve_140 rfl ?_
    refine WP_getr dX9_serve_141 fX9_25 rfl (lyx_is hy 49 9 rfl) (rfx hrI14740 49 2 5 (by decide)) ?_
    refine WP_getr dX9_serve_144 fX9_49 rfl (lyx_is hy 5 0 rfl) ht_I14740 ?_
    refine WQ_geti dX9_serve_147 fX9_108 rfl (lyx_is hy 27 7 rfl) (BT_get hI14754.1 27 4 5 (-1) (0) (2) (by decide) 4 (by decide) (by decide)) (fun v14769 ev14769 av14769 bv14769 => ?_)
    refine WP_iload dX9_serve_150 rfl ?_
    refine WQ_iconst (4) (4) dX9_serve_152 rfl rfl (fun v14770 hv14770 => ?_)
    refine WQ_ishr4 dX9_serve_153 hv14770 (by omega) (by omega) (fun v14771 hv14771 => ?_)
    refine WP_iload dX9_serve_154 rfl ?_
    refine WP_iload_n dX9_serve_156 rfl ?_
    refine WP_callV4 (k := 9) dX9_serve_157 ⟨⟨⟨by decide, by decide⟩, zX9_buy⟩, lX9_104, by decide, rfl, vX9_buy.1, vX9_buy.2⟩ (lyx_is hy 49 9 rfl) (sx_buyf hy hrI14740 hI14754 v14769 v14771 v14618 da (by omega) (by omega) (by omega) (by omega) (by omega) (by omega) (by omega) (by omega)) (Nat.le_of_ble_eq_true rfl) ?_
    intro r I14772 J14773 Ra hq
    obtain ⟨⟨hI14772, ec, fiI14772, fjI14772⟩, v14774, rfl, av14774, bv14774, cv14774⟩ := hq
    show WP _ _ _ _ (.int _ :: _) _ _ _ _
    rw [ec]
    clear ec Ra
    have fr14775 : fz 74 g [43, 44, 47, 48, 50, 51, 52, 56, 58] I I14772 := fz_tr fr14757 (fz_mono fiI14772 (by decide))
    have fr14776 : fz 74 g [45, 46, 56] J J14773 := fz_tr fr14758 (fz_mono fjI14772 (by decide))
    have e14777 : I14772 (ad g 56) 1 = w14615 := by rw [fz_at fiI14772 56 (by decide) (by decide)]; exact e14759
    have e14778 : I14772 (ad g 50) 3 = w14749 := by rw [fz_at fiI14772 50 (by decide) (by decide)]; exact e14760
    have e14779 : I14772 (ad g 50) 4 = w14750 := by rw [fz_at fiI14772 50 (by decide) (by decide)]; exact e14761
    have e14780 : I14772 (ad g 50) 0 = v14751 := by rw [fz_at fiI14772 50 (by decide) (by decide)]; exact e14762
    have e14781 : I14772 (ad g 27) 4 = v14769 := by rw [fz_at fiI14772 27 (by decide) (by decide)]; exact ev14769
    have e14782 : I14772 (ad g 1) 1 = L := hI14772.2
    have b14783 := BT_get hI14772.1 1 1 2 (0) (0) (900) (by decide) 1 (by decide) (by decide)
    rw [e14782] at b14783
    refine WP_istore (ls' := [(0, _), (1, _), (2, _), (3, _), (4, _), (5, _), (6, _), (7, _), (8, _), (9, _), (10, _), (11, _), (12, _)]) dX9_serve_160 (by decide) rfl ?_
    refine WP_aload_n dX9_serve_162 rfl ?_
    refine WP_getr dX9_serve_163 fX9_12 rfl (lyx_is hy 49 9 rfl) (rfx hrI14740 49 0 50 (by decide)) ?_
    refine WP_iload dX9_serve_166 rfl ?_
    refine WP_iload dX9_serve_168 rfl ?_
    refine WP_callV2 (k := 6) dX9_serve_170 ⟨⟨⟨by decide, by decide⟩, zX6_priceOf⟩, lX9_111, by decide, rfl, vX6_priceOf.1, vX6_priceOf.2⟩ (lyx_is hy 50 6 rfl) (sx_pricex hy hrI14740 hI14772 v14756 v14774 (by omega) (by omega) (by omega) (by omega)) (Nat.le_of_ble_eq_true rfl) ?_
    intro r Ia Ja Ra hq
    obtain ⟨⟨ea, eb, ec⟩, v14784, rfl, av14784, bv14784, cv14784⟩ := hq
    show WP _ _ _ _ (.int _ :: _) _ _ _ _
    rw [ea, eb, ec]
    clear ea eb ec Ia Ja Ra
    rw [e14778] at cv14784
    rw [e14779] at cv14784
    have k1 : v14756.toInt * w14749.toInt ≤ (v14743.toInt % 4) * w14749.toInt := Int.mul_le_mul_of_nonneg_right (by omega) (by omega)
    have k2 : v14774.toInt * w14750.toInt ≤ (v14743.toInt / 16) * w14750.toInt := Int.mul_le_mul_of_nonneg_right (by omega) (by omega)
    have kp : v14784.toInt ≤ v14625.toInt := by omega
    refine WP_istore (ls' := [(0, _), (1, _), (2, _), (3, _), (4, _), (5, _), (6, _), (7, _), (8, _), (9, _), (10, _), (11, _), (12, _), (13, _)]) dX9_serve_173 (by decide) rfl ?_
    refine WP_aload_n dX9_serve_175 rfl ?_
    refine WP_dup dX9_serve_176 rfl ?_
    refine WQ_getiu dX9_serve_177 fX9_114 rfl (lyx_is hy 56 4 rfl) (fun v14785 ev14785 => ?_)
    refine WP_iload dX9_serve_180 rfl ?_
    refine WP_iload dX9_serve_182 rfl ?_
    refine WP_iload dX9_serve_184 rfl ?_
    refine WQ_iadd dX9_serve_186 (by omega) (by omega) (fun v14786 hv14786 => ?_)
    refine WQ_imulb (99) (6) dX9_serve_187 ⟨by omega, by omega⟩ ⟨by omega, by omega⟩ (by decide) (fun v14787 pv14787 av14787 bv14787 cv14787 => ?_)
    refine WQ_iaddu dX9_serve_188 (fun v14788 => ?_)
    refine WQ_puti dX9_serve_189 fX9_114 rfl rfl (lyx_is hy 56 4 rfl) (fun I14789 eI14789 => ?_)
    have hI14789 : XI g n L I14789 := by rw [eI14789]; exact (xi_f0 hy hI14772 (c := 56) (by decide) (Or.inl (by decide)) (by decide))
    have e14790 : I14789 (ad g 56) 1 = w14615 := by rw [eI14789, pp_ne _ _ (Or.inr (by decide))]; exact e14777
    have e14791 : I14789 (ad g 50) 3 = w14749 := by rw [eI14789, pp_ne _ _ (Or.inl (lyx_ne hy (by decide) (by decide) (by decide)))]; exact e14778
    have e14792 : I14789 (ad g 50) 4 = w14750 := by rw [eI14789, pp_ne _ _ (Or.inl (lyx_ne hy (by decide) (by decide) (by decide)))]; exact e14779
    have e14793 : I14789 (ad g 50) 0 = v14751 := by rw [eI14789, pp_ne _ _ (Or.inl (lyx_ne hy (by decide) (by decide) (by decide)))]; exact e14780
    have e14794 : I14789 (ad g 27) 4 = v14769 := by rw [eI14789, pp_ne _ _ (Or.inl (lyx_ne hy (by decide) (by decide) (by decide)))]; exact e14781
    have e14795 : I14789 (ad g 1) 1 = L := by rw [eI14789, pp_ne _ _ (Or.inl (lyx_ne hy (by decide) (by decide) (by decide)))]; exact e14782
    have e14796 : I14789 (ad g 56) 2 = v14788 := by rw [eI14789, pp_self]
    have fr14797 : fz 74 g [43, 44, 47, 48, 50, 51, 52, 56, 58] I I14789 := by rw [eI14789]; exact fzx_pp hy fr14775 (by decide) (by decide)
    clear eI14789
    refine WP_aload_n dX9_serve_192 rfl ?_
    refine WP_dup dX9_serve_193 rfl ?_
    refine WQ_getl dX9_serve_194 fX9_117 rfl (lyx_is hy 56 4 rfl) (fun l14798 el14798 => ?_)
    refine WP_iload dX9_serve_197 rfl ?_
    refine WP_iload dX9_serve_199 rfl ?_
    refine WP_iload dX9_serve_201 rfl ?_
    refine WQ_isub dX9_serve_203 (by omega) (by omega) (fun v14799 hv14799 => ?_)
    refine WQ_imulu dX9_serve_204 (fun v14800 => ?_)
    refine WQ_i2l dX9_serve_205 (fun l14801 hl14801 => ?_)
    refine WQ_ladd dX9_serve_206 (fun l14802 => ?_)
    refine WQ_putl dX9_serve_207 fX9_117 rfl rfl (lyx_is hy 56 4 rfl) (fun J14803 eJ14803 => ?_)
    have fr14804 : fz 74 g [45, 46, 56] J J14803 := by rw [eJ14803]; exact fzx_pp hy fr14776 (by decide) (by decide)
    clear eJ14803
    refine WP_aload_n dX9_serve_210 rfl ?_
    refine WP_getr dX9_serve_211 fX9_75 rfl (lyx_is hy 56 4 rfl) (rfx hrI14740 56 5 58 (by decide)) ?_
    refine WP_iload dX9_serve_214 rfl ?_
    refine WQ_iconst (2) (2) dX9_serve_216 rfl rfl (fun v14805 hv14805 => ?_)
    refine WQ_iadd dX9_serve_217 (by omega) (by omega) (fun v14806 hv14806 => ?_)
    refine WP_dup2 dX9_serve_218 rfl rfl ?_
    refine WQ_ialdu dX9_serve_219 (lyx_is hy 58 13 rfl) (lyx_n hy 58 28 rfl) (by omega) (by omega) (fun v14807 => ?_)
    refine WP_iload dX9_serve_220 rfl ?_
    refine WP_iload dX9_serve_222 rfl ?_
    refine WQ_imulb (99) (60) dX9_serve_224 ⟨by omega, by omega⟩ ⟨by omega, by omega⟩ (by decide) (fun v14808 pv14808 av14808 bv14808 cv14808 => ?_)
    refine WQ_iaddu dX9_serve_225 (fun v14809 => ?_)
    refine WQ_iast dX9_serve_226 (lyx_is hy 58 13 rfl) (lyx_n hy 58 28 rfl) (by omega) (by omega) (fun I14810 eI14810 => ?_)
    have hI14810 : XI g n L I14810 := by rw [eI14810]; exact (fa_put hy hI14789 (c := 58) (k := 2) (s := so.toInt.toNat) (by decide) (by omega) (by decide) (by rw [cl (n := 7 * so.toInt.toNat + 2) (by omega)]) (fun h => absurd h (by decide)) (fun h => absurd h (by decide)))
    have e14811 : I14810 (ad g 56) 1 = w14615 := by rw [eI14810, pp_ne _ _ (Or.inl (lyx_ne hy (by decide) (by decide) (by decide)))]; exact e14790
    have e14812 : I14810 (ad g 50) 3 = w14749 := by rw [eI14810, pp_ne _ _ (Or.inl (lyx_ne hy (by decide) (by decide) (by decide)))]; exact e14791
    have e14813 : I14810 (ad g 50) 4 = w14750 := by rw [eI14810, pp_ne _ _ (Or.inl (lyx_ne hy (by decide) (by decide) (by decide)))]; exact e14792
    have e14814 : I14810 (ad g 50) 0 = v14751 := by rw [eI14810, pp_ne _ _ (Or.inl (lyx_ne hy (by decide) (by decide) (by decide)))]; exact e14793
    have e14815 : I14810 (ad g 27) 4 = v14769 := by rw [eI14810, pp_ne _ _ (Or.inl (lyx_ne hy (by decide) (by decide) (by decide)))]; exact e14794
    have e14816 : I14810 (ad g 1) 1 = L := by rw [eI14810, pp_ne _ _ (Or.inl (lyx_ne hy (by decide) (by decide) (by decide)))]; exact e14795
    have e14817 : I14810 (ad g 56) 2 = v14788 := by rw [eI14810, pp_ne _ _ (Or.inl (lyx_ne hy (by decide) (by decide) (by decide)))]; exact e14796
    have fr14818 : fz 74 g [43, 44, 47, 48, 50, 51, 52, 56, 58] I I14810 := by rw [eI14810]; exact fzx_pp hy fr14797 (by decide) (by decide)
    clear eI14810
    refine WP_aload_n dX9_serve_227 rfl ?_
    refine WP_getr dX9_serve_228 fX9_75 rfl (lyx_is hy 56 4 rfl) (rfx hrI14740 56 5 58 (by decide)) ?_
    refine WP_iload dX9_serve_231 rfl ?_
    refine WQ_iconst (4) (4) dX9_serve_233 rfl rfl (fun v14819 hv14819 => ?_)
    refine WQ_iadd dX9_serve_234 (by omega) (by omega) (fun v14820 hv14820 => ?_)
    refine WP_dup2 dX9_serve_235 rfl rfl ?_
    refine WQ_ialdu dX9_serve_236 (lyx_is hy 58 13 rfl) (lyx_n hy 58 28 rfl) (by omega) (by omega) (fun v14821 => ?_)
    refine WP_iload dX9_serve_237 rfl ?_
    refine WP_aload_n dX9_serve_239 rfl ?_
    refine WP_getr dX9_serve_240 fX9_12 rfl (lyx_is hy 49 9 rfl) (rfx hrI14740 49 0 50 (by decide)) ?_
    refine WQ_geti dX9_serve_243 fX9_121 rfl (lyx_is hy 50 6 rfl) (BT_get hI14810.1 50 2 3 (0) (0) (99) (by decide) 2 (by decide) (by decide)) (fun v14822 ev14822 av14822 bv14822 => ?_)
    refine WQ_imulb (99) (99) dX9_serve_246 ⟨by omega, by omega⟩ ⟨by omega, by omega⟩ (by decide) (fun v14823 pv14823 av14823 bv14823 cv14823 => ?_)
    refine WP_iload dX9_serve_247 rfl ?_
    refine WP_iload dX9_serve_249 rfl ?_
    refine WQ_iadd dX9_serve_251 (by omega) (by omega) (fun v14824 hv14824 => ?_)
    refine WQ_imulb (9801) (6) dX9_serve_252 ⟨by omega, by omega⟩ ⟨by omega, by omega⟩ (by decide) (fun v14825 pv14825 av14825 bv14825 cv14825 => ?_)
    refine WQ_iaddu dX9_serve_253 (fun v14826 => ?_)
    refine WQ_iast dX9_serve_254 (lyx_is hy 58 13 rfl) (lyx_n hy 58 28 rfl) (by omega) (by omega) (fun I14827 eI14827 => ?_)
    have hI14827 : XI g n L I14827 := by rw [eI14827]; exact (fa_put hy hI14810 (c := 58) (k := 4) (s := so.toInt.toNat) (by decide) (by omega) (by decide) (by rw [cl (n := 7 * so.toInt.toNat + 4) (by omega)]) (fun h => absurd h (by decide)) (fun h => absurd h (by decide)))
    have e14828 : I14827 (ad g 56) 1 = w14615 := by rw [eI14827, pp_ne _ _ (Or.inl (lyx_ne hy (by decide) (by decide) (by decide)))]; exact e14811
    have e14829 : I14827 (ad g 50) 3 = w14749 := by rw [eI14827, pp_ne _ _ (Or.inl (lyx_ne hy (by decide) (by decide) (by decide)))]; exact e14812
    have e14830 : I14827 (ad g 50) 4 = w14750 := by rw [eI14827, pp_ne _ _ (Or.inl (lyx_ne hy (by decide) (by decide) (by decide)))]; exact e14813
    have e14831 : I14827 (ad g 50) 0 = v14751 := by rw [eI14827, pp_ne _ _ (Or.inl (lyx_ne hy (by decide) (by decide) (by decide)))]; exact e14814
    have e14832 : I14827 (ad g 27) 4 = v14769 := by rw [eI14827, pp_ne _ _ (Or.inl (lyx_ne hy (by decide) (by decide) (by decide)))]; exact e14815
    have e14833 : I14827 (ad g 1) 1 = L := by rw [eI14827, pp_ne _ _ (Or.inl (lyx_ne hy (by decide) (by decide) (by decide)))]; exact e14816
    have e14834 : I14827 (ad g 56) 2 = v14788 := by rw [eI14827, pp_ne _ _ (Or.inl (lyx_ne hy (by decide) (by decide) (by decide)))]; exact e14817
    have e14835 : I14827 (ad g 50) 2 = v14822 := by rw [eI14827, pp_ne _ _ (Or.inl (lyx_ne hy (by decide) (by decide) (by decide)))]; exact ev14822
    have fr14836 : fz 74 g [43, 44, 47, 48, 50, 51, 52, 56, 58] I I14827 := by rw [eI14827]; exact fzx_pp hy fr14818 (by decide) (by decide)
    clear eI14827
    refine WP_aload_n dX9_serve_255 rfl ?_
    refine WP_aload_n dX9_serve_256 rfl ?_
    refine WP_iload_n dX9_serve_257 rfl ?_
    refine WP_iload_n dX9_serve_258 rfl ?_
    refine WP_iload dX9_serve_259 rfl ?_
    refine WP_iload dX9_serve_261 rfl ?_
    refine WQ_isub dX9_serve_263 (by omega) (by omega) (fun v14837 hv14837 => ?_)
    refine WP_iload dX9_serve_264 rfl ?_
    refine WP_iload dX9_serve_266 rfl ?_
    refine WQ_isub dX9_serve_268 (by omega) (by omega) (fun v14838 hv14838 => ?_)
    refine WP_iload dX9_serve_269 rfl ?_
    refine WQ_iadd dX9_serve_271 (by omega) (by omega) (fun v14839 hv14839 => ?_)
    refine WP_callV5 (k := 9) dX9_serve_272 ⟨⟨⟨by decide, by decide⟩, zX9_sleep⟩, lX9_124, by decide, rfl, vX9_sleep.1, vX9_sleep.2⟩ (lyx_is hy 49 9 rfl) (sx_wsleepf_56_27 hy hrI14740 ht_I14740 hI14827 so da v14837 v14839 (by omega) (by omega) (by omega) (by omega) (by omega) (by omega) (by omega) (by omega) (by omega) (by rw [e14828]; omega)) (Nat.le_of_ble_eq_true rfl) ?_
    intro r I14840 J14841 Ra hq
    obtain ⟨⟨hI14840, ec, fiI14840, fjI14840, pI14840⟩, rfl⟩ := hq
    rw [ec]
    clear ec Ra
    have fr14842 : fz 74 g [43, 44, 47, 48, 50, 51, 52, 56, 58] I I14840 := fz_tr fr14836 (fz_mono fiI14840 (by decide))
    have fr14843 : fz 74 g [45, 46, 56] J J14841 := fz_tr fr14804 (fz_mono fjI14840 (by decide))
    have e14844 : I14840 (ad g 50) 3 = w14749 := by rw [fz_at fiI14840 50 (by decide) (by decide)]; exact e14829
    have e14845 : I14840 (ad g 50) 4 = w14750 := by rw [fz_at fiI14840 50 (by decide) (by decide)]; exact e14830
    have e14846 : I14840 (ad g 50) 0 = v14751 := by rw [fz_at fiI14840 50 (by decide) (by decide)]; exact e14831
    have e14847 : I14840 (ad g 27) 4 = v14769 := by rw [fz_at fiI14840 27 (by decide) (by decide)]; exact e14832
    have e14848 : I14840 (ad g 50) 2 = v14822 := by rw [fz_at fiI14840 50 (by decide) (by decide)]; exact e14835
    have e14849 : I14840 (ad g 1) 1 = L := hI14840.2
    have b14850 := BT_get hI14840.1 1 1 2 (0) (0) (900) (by decide) 1 (by decide) (by decide)
    rw [e14849] at b14850
    obtain ⟨w14851, ew14851⟩ : ∃ w : Int32, I14840 (ad g 56) 1 = w := ⟨_, rfl⟩
    have bw14851 := BT_get hI14840.1 56 1 2 (0) (23760) (700000) (by decide) 1 (by decide) (by decide)
    rw [ew14851] at bw14851
    rw [ew14851, e14828] at pI14840
    exact WP_vret dX9_serve_275 rfl ⟨⟨hI14840, ⟨hrI14740, ⟨ht_I14740.trans hT.symm, hs_I14740⟩, hpI14740⟩, fr14842, fr14843, (by rw [ew14851, ew14615]; omega)⟩, rfl⟩
