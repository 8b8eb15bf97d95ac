set_option maxHeartbeats 4000000 in
set_option maxRecDepth 100000 in
theorem sx_buy {g : GG} {n : Int} {L : Int32} (hy : LyX g)  {I : pI} {J : pJ} {R : pR} (hr : RfX g R) (hI : XI g n L I) (th : Int32) (un : Int32) (pe : Int32) (da : Int32) (th_lo : -1 ≤ th.toInt) (th_hi : th.toInt ≤ 2) (un_lo : 0 ≤ un.toInt) (un_hi : un.toInt ≤ 3) (pe_lo : 0 ≤ pe.toInt) (pe_hi : pe.toInt ≤ 99) (da_lo : 0 ≤ da.toInt) (da_hi : da.toInt ≤ 6) : SP g mX9_buy [.ref (ad g 49), .int th, .int un, .int pe, .int da] I J R (fun r I' J' R' => (XI g n L I' ∧ R' = R) ∧ ∃ v : Int32, r = some (.int v) ∧ 0 ≤ v.toInt ∧ v.toInt ≤ 3 ∧ v.toInt ≤ un.toInt) := by
  refine SP_of ⟨by decide, rfl⟩ (Nat.le_of_ble_eq_true rfl) ?_
  have e7270 : I (ad g 1) 1 = L := hI.2
  have b7271 := BT_get hI.1 1 1 2 (0) (0) (900) (by decide) 1 (by decide) (by decide)
  rw [e7270] at b7271
  refine WP_iload_n dX9_buy_0 rfl ?_
  refine WQ_iconst (-1) (-1) dX9_buy_1 rfl rfl (fun v7272 hv7272 => ?_)
  refine WQ_icmp_eq 10 dX9_buy_2 rfl (fun c7272 => ?_) (fun c7272 => ?_)
  · refine WQ_iconst (0) (0) dX9_buy_10 rfl rfl (fun v7274 hv7274 => ?_)
    exact WP_iret dX9_buy_11 rfl ⟨⟨hI, rfl⟩, _, rfl, by omega, by omega, by omega⟩
  · refine WP_iload_n dX9_buy_5 rfl ?_
    refine WQ_iconst (1) (1) dX9_buy_6 rfl rfl (fun v7275 hv7275 => ?_)
    refine WQ_icmp_ge 12 dX9_buy_7 rfl (fun c7275 => ?_) (fun c7275 => ?_)
    · refine WP_iload_n dX9_buy_12 rfl ?_
      refine WP_aload_n dX9_buy_13 rfl ?_
      refine WP_getr dX9_buy_14 fX9_22 rfl (lyx_is hy 49 9 rfl) (rfx hr 49 4 52 (by decide)) ?_
      refine WP_iload_n dX9_buy_17 rfl ?_
      refine WQ_iald dX9_buy_18 (lyx_is hy 52 13 rfl) (lyx_n hy 52 3 rfl) (by omega) (by omega) (fun q hq => BT_get hI.1 52 0 3 (0) (0) (1000000) (by decide) q (Nat.zero_le _) hq) (fun v7277 av7277 bv7277 ev7277 => ?_)
      refine WP_iload_n dX9_buy_19 rfl ?_
      refine WQ_idivb dX9_buy_20 (by omega) (by omega) (fun v7278 pv7278 av7278 bv7278 cv7278 => ?_)
      refine WQ_min dX9_buy_21 lX9_78 ⟨by decide, Nat.le_of_ble_eq_true rfl⟩ (fun v7279 av7279 bv7279 cv7279 => ?_)
      refine WP_istore (ls' := [(0, _), (1, _), (2, _), (3, _), (4, _), (5, _)]) dX9_buy_24 (by decide) rfl ?_
      refine WP_aload_n dX9_buy_26 rfl ?_
      refine WP_getr dX9_buy_27 fX9_22 rfl (lyx_is hy 49 9 rfl) (rfx hr 49 4 52 (by decide)) ?_
      refine WP_iload_n dX9_buy_30 rfl ?_
      refine WP_dup2 dX9_buy_31 rfl rfl ?_
      refine WQ_ialde dX9_buy_32 (lyx_is hy 52 13 rfl) (lyx_n hy 52 3 rfl) (by omega) (by omega) ev7277 ?_
      refine WP_iload dX9_buy_33 rfl ?_
      refine WP_iload_n dX9_buy_35 rfl ?_
      refine WQ_imulb (3) (99) dX9_buy_36 ⟨by omega, by omega⟩ ⟨by omega, by omega⟩ (by decide) (fun v7281 pv7281 av7281 bv7281 cv7281 => ?_)
      have k0 : v7279.toInt * pe.toInt ≤ v7278.toInt * pe.toInt := Int.mul_le_mul_of_nonneg_right (by omega) (by omega)
      refine WQ_isub dX9_buy_37 (by omega) (by omega) (fun v7282 hv7282 => ?_)
      refine WQ_iast dX9_buy_38 (lyx_is hy 52 13 rfl) (lyx_n hy 52 3 rfl) (by omega) (by omega) (fun I7283 eI7283 => ?_)
      have hI7283 : XI g n L I7283 := by rw [eI7283]; exact (xi_r hy hI (c := 52) (0) (0) (1000000) (by decide) (Or.inl (by decide)) (by decide) (by omega) (by omega))
      have e7284 : I7283 (ad g 1) 1 = L := by rw [eI7283, pp_ne _ _ (Or.inl (lyx_ne hy (by decide) (by decide) (by decide)))]; exact e7270
      clear eI7283
      refine WP_aload_n dX9_buy_39 rfl ?_
      refine WP_getr dX9_buy_40 fX9_18 rfl (lyx_is hy 49 9 rfl) (rfx hr 49 1 51 (by decide)) ?_
      refine WP_iload_n dX9_buy_43 rfl ?_
      refine WQ_bipush (7) (7) dX9_buy_44 rfl rfl (fun v7285 hv7285 => ?_)
      refine WQ_imulk (7) dX9_buy_46 hv7285 (by omega) (by omega) (fun v7286 hv7286 => ?_)
      refine WP_iload dX9_buy_47 rfl ?_
      refine WQ_iadd dX9_buy_49 (by omega) (by omega) (fun v7287 hv7287 => ?_)
      refine WP_dup2 dX9_buy_50 rfl rfl ?_
      refine WQ_ialdu dX9_buy_51 (lyx_is hy 51 13 rfl) (lyx_n hy 51 21 rfl) (by omega) (by omega) (fun v7288 => ?_)
      refine WP_iload dX9_buy_52 rfl ?_
      refine WP_iload_n dX9_buy_54 rfl ?_
      refine WQ_imulb (3) (99) dX9_buy_55 ⟨by omega, by omega⟩ ⟨by omega, by omega⟩ (by decide) (fun v7289 pv7289 av7289 bv7289 cv7289 => ?_)
      refine WQ_iaddu dX9_buy_56 (fun v7290 => ?_)
      refine WQ_iast dX9_buy_57 (lyx_is hy 51 13 rfl) (lyx_n hy 51 21 rfl) (by omega) (by omega) (fun I7291 eI7291 => ?_)
      have hI7291 : XI g n L I7291 := by rw [eI7291]; exact (xi_r0 hy hI7283 (c := 51) (by decide) (Or.inl (by decide)) (by decide))
      have e7292 : I7291 (ad g 1) 1 = L := by rw [eI7291, pp_ne _ _ (Or.inl (lyx_ne hy (by decide) (by decide) (by decide)))]; exact e7284
      clear eI7291
      refine WP_iload dX9_buy_58 rfl ?_
      exact WP_iret dX9_buy_60 rfl ⟨⟨hI7291, rfl⟩, _, rfl, by omega, by omega, by omega⟩
    · refine WQ_iconst (0) (0) dX9_buy_10 rfl rfl (fun v7293 hv7293 => ?_)
      exact WP_iret dX9_buy_11 rfl ⟨⟨hI, rfl⟩, _, rfl, by omega, by omega, by omega⟩
set_option maxHeartbeats 4000000 in
set_option maxRecDepth 100000 in
theorem sx_openChest_53_6 {g : GG} {n : Int} {L : Int32} (hy : LyX g)  {I : pI} {J : pJ} {R : pR} (hr : RfX g R) (hT : R (ad g 5) 0 = some (ad g 6)) (hI : XI g n L I)   (hn : 0 ≤ n ∧ n ≤ 40000) : SP g mX9_openChest [.ref (ad g 49), .ref (ad g 53)] I J R (fun r I' J' R' => (XI g n L I' ∧ R' = R ∧ (I' (ad g 53) 1).toInt ≤ (I (ad g 53) 1).toInt) ∧ r = none) := by
  refine SP_of ⟨by decide, rfl⟩ (Nat.le_of_ble_eq_true rfl) ?_
  have e7294 : I (ad g 1) 1 = L := hI.2
  have b7295 := BT_get hI.1 1 1 2 (0) (0) (900) (by decide) 1 (by decide) (by decide)
  rw [e7294] at b7295
  obtain ⟨w7296, ew7296⟩ : ∃ w : Int32, I (ad g 53) 1 = w := ⟨_, rfl⟩
  have bw7296 := BT_get hI.1 53 1 2 (0) (23760) (0) (by decide) 1 (by decide) (by decide)
  rw [ew7296] at bw7296
  refine WP_aload_n dX9_openChest_0 rfl ?_
  refine WP_getr dX9_openChest_1 fX9_25 rfl (lyx_is hy 49 9 rfl) (rfx hr 49 2 5 (by decide)) ?_
  refine WP_getr dX9_openChest_4 fX9_49 rfl (lyx_is hy 5 0 rfl) hT ?_
  refine WQ_geti dX9_openChest_7 fX9_68 rfl (lyx_is hy 6 7 rfl) (BT_get hI.1 6 3 4 (-1) (0) (3) (by decide) 3 (by decide) (by decide)) (fun v7297 ev7297 av7297 bv7297 => ?_)
  refine WP_istore_n (ls' := [(0, _), (1, _), (2, _)]) dX9_openChest_10 (by decide) rfl ?_
  refine WP_iload_n dX9_openChest_11 rfl ?_
  refine WQ_iconst (-1) (-1) dX9_openChest_12 rfl rfl (fun v7298 hv7298 => ?_)
  refine WQ_icmp_eq 32 dX9_openChest_13 rfl (fun c7298 => ?_) (fun c7298 => ?_)
  · exact WP_vret dX9_openChest_32 rfl ⟨⟨hI, rfl, (by rw [ew7296, ew7296]; omega)⟩, rfl⟩
  · refine WP_aload_n dX9_openChest_16 rfl ?_
    refine WP_getr dX9_openChest_17 fX9_25 rfl (lyx_is hy 49 9 rfl) (rfx hr 49 2 5 (by decide)) ?_
    refine WP_getr dX9_openChest_20 fX9_49 rfl (lyx_is hy 5 0 rfl) hT ?_
    refine WP_getr dX9_openChest_23 fX9_71 rfl (lyx_is hy 6 7 rfl) (rfx hr 6 6 8 (by decide)) ?_
    refine WP_iload_n dX9_openChest_26 rfl ?_
    refine WQ_iald dX9_openChest_27 (lyx_is hy 8 13 rfl) (lyx_n hy 8 4 rfl) (by omega) (by omega) (fun q hq => BT_get hI.1 8 0 4 (0) (0) (99) (by decide) q (Nat.zero_le _) hq) (fun v7300 av7300 bv7300 ev7300 => ?_)
    clear ev7300
    refine WQ_iconst (1) (1) dX9_openChest_28 rfl rfl (fun v7301 hv7301 => ?_)
    refine WQ_icmp_ge 33 dX9_openChest_29 rfl (fun c7301 => ?_) (fun c7301 => ?_)
    · refine WP_aload_n dX9_openChest_33 rfl ?_
      refine WP_getr dX9_openChest_34 fX9_25 rfl (lyx_is hy 49 9 rfl) (rfx hr 49 2 5 (by decide)) ?_
      refine WP_getr dX9_openChest_37 fX9_49 rfl (lyx_is hy 5 0 rfl) hT ?_
      refine WP_getr dX9_openChest_40 fX9_71 rfl (lyx_is hy 6 7 rfl) (rfx hr 6 6 8 (by decide)) ?_
      refine WP_iload_n dX9_openChest_43 rfl ?_
      refine WQ_iald dX9_openChest_44 (lyx_is hy 8 13 rfl) (lyx_n hy 8 4 rfl) (by omega) (by omega) (fun q hq => BT_get hI.1 8 0 4 (0) (0) (99) (by decide) q (Nat.zero_le _) hq) (fun v7303 av7303 bv7303 ev7303 => ?_)
      clear ev7303
      refine WP_istore_n (ls' := [(0, _), (1, _), (2, _), (3, _)]) dX9_openChest_45 (by decide) rfl ?_
      refine WP_aload_n dX9_openChest_46 rfl ?_
      refine WQ_getim dX9_openChest_47 fX9_74 rfl (lyx_is hy 53 4 rfl) ew7296 ?_
      refine WP_iload_n dX9_openChest_50 rfl ?_
      refine WQ_idivu dX9_openChest_51 (by omega) (fun v7304 => ?_)
      refine WP_istore (ls' := [(0, _), (1, _), (2, _), (3, _), (4, _)]) dX9_openChest_52 (by decide) rfl ?_
      refine WP_iload_n dX9_openChest_54 rfl ?_
      refine WQ_bipush (7) (7) dX9_openChest_55 rfl rfl (fun v7305 hv7305 => ?_)
      refine WQ_imulk (7) dX9_openChest_57 hv7305 (by omega) (by omega) (fun v7306 hv7306 => ?_)
      refine WP_istore (ls' := [(0, _), (1, _), (2, _), (3, _), (4, _), (5, _)]) dX9_openChest_58 (by decide) rfl ?_
      refine WP_aload_n dX9_openChest_60 rfl ?_
      refine WP_dup dX9_openChest_61 rfl ?_
      refine WQ_getim dX9_openChest_62 fX9_74 rfl (lyx_is hy 53 4 rfl) ew7296 ?_
      refine WP_iload dX9_openChest_65 rfl ?_
      refine WP_iload_n dX9_openChest_67 rfl ?_
      have knv7307 : 0 ≤ v7304.toInt * v7303.toInt := Int.mul_nonneg (by omega) (by omega)
      refine WQ_imulx dX9_openChest_68 (by omega) (by omega) (fun v7307 pv7307 => ?_)
      refine WQ_isub dX9_openChest_69 (by omega) (by omega) (fun v7308 hv7308 => ?_)
      refine WQ_puti dX9_openChest_70 fX9_74 rfl rfl (lyx_is hy 53 4 rfl) (fun I7309 eI7309 => ?_)
      have hI7309 : XI g n L I7309 := by rw [eI7309]; exact (xi_f hy hI (c := 53) (0) (23760) (0) (by decide) (Or.inl (by decide)) (by decide) (by omega) (by omega))
      have e7310 : I7309 (ad g 1) 1 = L := by rw [eI7309, pp_ne _ _ (Or.inl (lyx_ne hy (by decide) (by decide) (by decide)))]; exact e7294
      have e7311 : I7309 (ad g 6) 3 = v7297 := by rw [eI7309, pp_ne _ _ (Or.inl (lyx_ne hy (by decide) (by decide) (by decide)))]; exact ev7297
      have e7312 : I7309 (ad g 53) 1 = v7308 := by rw [eI7309, pp_self]
      clear eI7309
      refine WP_aload_n dX9_openChest_73 rfl ?_
      refine WP_getr dX9_openChest_74 fX9_75 rfl (lyx_is hy 53 4 rfl) (rfx hr 53 5 55 (by decide)) ?_
      refine WP_iload dX9_openChest_77 rfl ?_
      refine WQ_bipush (6) (6) dX9_openChest_79 rfl rfl (fun v7313 hv7313 => ?_)
      refine WQ_iadd dX9_openChest_81 (by omega) (by omega) (fun v7314 hv7314 => ?_)
      refine WP_dup2 dX9_openChest_82 rfl rfl ?_
      refine WQ_ialdu dX9_openChest_83 (lyx_is hy 55 13 rfl) (lyx_n hy 55 28 rfl) (by omega) (by omega) (fun v7315 => ?_)
      refine WP_iload dX9_openChest_84 rfl ?_
      refine WP_iload_n dX9_openChest_86 rfl ?_
      have knv7316 : 0 ≤ v7304.toInt * v7303.toInt := Int.mul_nonneg (by omega) (by omega)
      refine WQ_imulx dX9_openChest_87 (by omega) (by omega) (fun v7316 pv7316 => ?_)
      refine WQ_iaddu dX9_openChest_88 (fun v7317 => ?_)
      refine WQ_iast dX9_openChest_89 (lyx_is hy 55 13 rfl) (lyx_n hy 55 28 rfl) (by omega) (by omega) (fun I7318 eI7318 => ?_)
      have hI7318 : XI g n L I7318 := by rw [eI7318]; exact (fa_put hy hI7309 (c := 55) (k := 6) (s := v7297.toInt.toNat) (by decide) (by omega) (by decide) (by rw [cl (n := 7 * v7297.toInt.toNat + 6) (by omega)]) (fun h => absurd h (by decide)) (fun h => absurd h (by decide)))
      have e7319 : I7318 (ad g 1) 1 = L := by rw [eI7318, pp_ne _ _ (Or.inl (lyx_ne hy (by decide) (by decide) (by decide)))]; exact e7310
      have e7320 : I7318 (ad g 6) 3 = v7297 := by rw [eI7318, pp_ne _ _ (Or.inl (lyx_ne hy (by decide) (by decide) (by decide)))]; exact e7311
      have e7321 : I7318 (ad g 53) 1 = v7308 := by rw [eI7318, pp_ne _ _ (Or.inl (lyx_ne hy (by decide) (by decide) (by decide)))]; exact e7312
      clear eI7318
      refine WP_aload_n dX9_openChest_90 rfl ?_
      refine WP_getr dX9_openChest_91 fX9_75 rfl (lyx_is hy 53 4 rfl) (rfx hr 53 5 55 (by decide)) ?_
      refine WP_iload dX9_openChest_94 rfl ?_
      refine WQ_iconst (0) (0) dX9_openChest_96 rfl rfl (fun v7322 hv7322 => ?_)
      refine WQ_iadd dX9_openChest_97 (by omega) (by omega) (fun v7323 hv7323 => ?_)
      refine WQ_bipush (60) (60) dX9_openChest_98 rfl rfl (fun v7324 hv7324 => ?_)
      refine WP_aload_n dX9_openChest_100 rfl ?_
      refine WP_getr dX9_openChest_101 fX9_75 rfl (lyx_is hy 53 4 rfl) (rfx hr 53 5 55 (by decide)) ?_
      refine WP_iload dX9_openChest_104 rfl ?_
      refine WQ_iconst (0) (0) dX9_openChest_106 rfl rfl (fun v7325 hv7325 => ?_)
      refine WQ_iadd dX9_openChest_107 (by omega) (by omega) (fun v7326 hv7326 => ?_)
      refine WQ_ialdf (q := 7 * v7297.toInt.toNat) dX9_openChest_108 (lyx_is hy 55 13 rfl) (lyx_n hy 55 28 rfl) (by omega) (by omega) (by omega) (fa_get0 hI7318 (c := 55) (by decide) (by omega)) (fun v7327 av7327 bv7327 => ?_)
      refine WP_iload dX9_openChest_109 rfl ?_
      refine WQ_iaddu dX9_openChest_111 (fun v7328 => ?_)
      refine WQ_min dX9_openChest_112 lX9_78 ⟨by decide, Nat.le_of_ble_eq_true rfl⟩ (fun v7329 av7329 bv7329 cv7329 => ?_)
      refine WQ_iast dX9_openChest_115 (lyx_is hy 55 13 rfl) (lyx_n hy 55 28 rfl) (by omega) (by omega) (fun I7330 eI7330 => ?_)
      have hI7330 : XI g n L I7330 := by rw [eI7330]; exact (fa_put hy hI7318 (c := 55) (k := 0) (s := v7297.toInt.toNat) (by decide) (by omega) (by decide) (by rw [cl (n := 7 * v7297.toInt.toNat + 0) (by omega)]) (fun _ => by omega) (fun _ => by omega))
      have e7331 : I7330 (ad g 1) 1 = L := by rw [eI7330, pp_ne _ _ (Or.inl (lyx_ne hy (by decide) (by decide) (by decide)))]; exact e7319
      have e7332 : I7330 (ad g 6) 3 = v7297 := by rw [eI7330, pp_ne _ _ (Or.inl (lyx_ne hy (by decide) (by decide) (by decide)))]; exact e7320
      have e7333 : I7330 (ad g 53) 1 = v7308 := by rw [eI7330, pp_ne _ _ (Or.inl (lyx_ne hy (by decide) (by decide) (by decide)))]; exact e7321
      clear eI7330
      exact WP_vret dX9_openChest_116 rfl ⟨⟨hI7330, rfl, (by rw [e7333, ew7296]; omega)⟩, rfl⟩
    · exact WP_vret dX9_openChest_32 rfl ⟨⟨hI, rfl, (by rw [ew7296, ew7296]; omega)⟩, rfl⟩
set_option maxHeartbeats 4000000 in
set_option maxRecDepth 100000 in
theorem sx_wsleep_53_6 {g : GG} {n : Int} {L : Int32} (hy : LyX g)  {I : pI} {J : pJ} {R : pR} (hr : RfX g R) (hT : R (ad g 5) 0 = some (ad g 6)) (hI : XI g n L I) (so : Int32) (da : Int32) (co : Int32) (st : Int32) (so_lo : 0 ≤ so.toInt) (so_hi : so.toInt ≤ 3) (da_lo : 0 ≤ da.toInt) (da_hi : da.toInt ≤ 6) (co_lo : 0 ≤ co.toInt) (co_hi : co.toInt ≤ 60) (st_lo : 0 ≤ st.toInt) (st_hi : st.toInt ≤ 5) (hn : 0 ≤ n ∧ n ≤ 40000) (hb : (I (ad g 53) 1).toInt ≤ 23760 * n + 0 - 5940) : SP g mX9_sleep [.ref (ad g 49), .ref (ad g 53), .int so, .int da, .int co, .int st] I J R (fun r I' J' R' => (XI g n L I' ∧ R' = R ∧ (I' (ad g 53) 1).toInt ≤ (I (ad g 53) 1).toInt + 5940) ∧ r = none) := by
  refine SP_of ⟨by decide, rfl⟩ (Nat.le_of_ble_eq_true rfl) ?_
  have e7334 : I (ad g 1) 1 = L := hI.2
  have b7335 := BT_get hI.1 1 1 2 (0) (0) (900) (by decide) 1 (by decide) (by decide)
  rw [e7334] at b7335
  obtain ⟨w7336, ew7336⟩ : ∃ w : Int32, I (ad g 53) 1 = w := ⟨_, rfl⟩
  have bw7336 := BT_get hI.1 53 1 2 (0) (23760) (0) (by decide) 1 (by decide) (by decide)
  rw [ew7336] at bw7336
  rw [ew7336] at hb
  refine WP_iload_n dX9_sleep_0 rfl ?_
  refine WQ_bipush (7) (7) dX9_sleep_1 rfl rfl (fun v7337 hv7337 => ?_)
  refine WQ_imulk (7) dX9_sleep_3 hv7337 (by omega) (by omega) (fun v7338 hv7338 => ?_)
  refine WP_istore (ls' := [(0, _), (1, _), (2, _), (3, _), (4, _), (5, _), (6, _)]) dX9_sleep_4 (by decide) rfl ?_
  refine WP_aload_n dX9_sleep_6 rfl ?_
  refine WP_getr dX9_sleep_7 fX9_25 rfl (lyx_is hy 49 9 rfl) (rfx hr 49 2 5 (by decide)) ?_
  refine WP_getr dX9_sleep_10 fX9_49 rfl (lyx_is hy 5 0 rfl) hT ?_
  refine WP_getr dX9_sleep_13 fX9_71 rfl (lyx_is hy 6 7 rfl) (rfx hr 6 6 8 (by decide)) ?_
  refine WP_iload_n dX9_sleep_16 rfl ?_
  refine WQ_iald dX9_sleep_17 (lyx_is hy 8 13 rfl) (lyx_n hy 8 4 rfl) (by omega) (by omega) (fun q hq => BT_get hI.1 8 0 4 (0) (0) (99) (by decide) q (Nat.zero_le _) hq) (fun v7339 av7339 bv7339 ev7339 => ?_)
  clear ev7339
  refine WP_istore (ls' := [(0, _), (1, _), (2, _), (3, _), (4, _), (5, _), (6, _), (7, _)]) dX9_sleep_18 (by decide) rfl ?_
  refine WP_iload dX9_sleep_20 rfl ?_
  refine WP_iload dX9_sleep_22 rfl ?_
  refine WP_aload_n dX9_sleep_24 rfl ?_
  refine WP_getr dX9_sleep_25 fX9_25 rfl (lyx_is hy 49 9 rfl) (rfx hr 49 2 5 (by decide)) ?_
  refine WP_getr dX9_sleep_28 fX9_128 rfl (lyx_is hy 5 0 rfl) (rfx hr 5 2 23 (by decide)) ?_
  refine WP_iload_n dX9_sleep_31 rfl ?_
  refine WQ_iald dX9_sleep_32 (lyx_is hy 23 13 rfl) (lyx_n hy 23 7 rfl) (by omega) (by omega) (fun q hq => BT_get hI.1 23 0 7 (0) (0) (900) (by decide) q (Nat.zero_le _) hq) (fun v7340 av7340 bv7340 ev7340 => ?_)
  clear ev7340
  refine WP_callN2 dX9_sleep_33 ⟨⟨⟨by decide, by decide⟩, zX10_stampsOf⟩, lX9_131, tX10_stampsOf⟩ (sx_stampsOf hy hr hI co v7340 (by omega) (by omega) (by omega) (by omega)) (Nat.le_of_ble_eq_true rfl) ?_
  intro r Ia Ja Ra hq
  obtain ⟨⟨ea, eb, ec⟩, v7341, rfl, av7341, bv7341, cv7341⟩ := hq
  show WP _ _ _ _ (.int _ :: _) _ _ _ _
  rw [ea, eb, ec]
  clear ea eb ec Ia Ja Ra
  refine WQ_imulb (99) (999) dX9_sleep_36 ⟨by omega, by omega⟩ ⟨by omega, by omega⟩ (by decide) (fun v7342 pv7342 av7342 bv7342 cv7342 => ?_)
  refine WP_istore (ls' := [(0, _), (1, _), (2, _), (3, _), (4, _), (5, _), (6, _), (7, _), (8, _)]) dX9_sleep_37 (by decide) rfl ?_
  refine WP_aload_n dX9_sleep_39 rfl ?_
  refine WP_getr dX9_sleep_40 fX9_25 rfl (lyx_is hy 49 9 rfl) (rfx hr 49 2 5 (by decide)) ?_
  refine WP_getr dX9_sleep_43 fX9_134 rfl (lyx_is hy 5 0 rfl) (rfx hr 5 5 26 (by decide)) ?_
  refine WP_iload dX9_sleep_46 rfl ?_
  refine WQ_iald dX9_sleep_48 (lyx_is hy 26 13 rfl) (lyx_n hy 26 6 rfl) (by omega) (by omega) (fun q hq => BT_get hI.1 26 0 6 (0) (0) (5) (by decide) q (Nat.zero_le _) hq) (fun v7343 av7343 bv7343 ev7343 => ?_)
  clear ev7343
  refine WP_istore (ls' := [(0, _), (1, _), (2, _), (3, _), (4, _), (5, _), (6, _), (7, _), (8, _), (9, _)]) dX9_sleep_49 (by decide) rfl ?_
  refine WP_aload_n dX9_sleep_51 rfl ?_
  refine WP_dup dX9_sleep_52 rfl ?_
  refine WQ_getim dX9_sleep_53 fX9_74 rfl (lyx_is hy 53 4 rfl) ew7336 ?_
  refine WP_iload dX9_sleep_56 rfl ?_
  refine WQ_iadd dX9_sleep_58 (by omega) (by omega) (fun v7344 hv7344 => ?_)
  refine WQ_puti dX9_sleep_59 fX9_74 rfl rfl (lyx_is hy 53 4 rfl) (fun I7345 eI7345 => ?_)
  have hI7345 : XI g n L I7345 := by rw [eI7345]; exact (xi_f hy hI (c := 53) (0) (23760) (0) (by decide) (Or.inl (by decide)) (by decide) (by omega) (by omega))
  have e7346 : I7345 (ad g 1) 1 = L := by rw [eI7345, pp_ne _ _ (Or.inl (lyx_ne hy (by decide) (by decide) (by decide)))]; exact e7334
  have e7347 : I7345 (ad g 53) 1 = v7344 := by rw [eI7345, pp_self]
  clear eI7345
  refine WP_aload_n dX9_sleep_62 rfl ?_
  refine WP_getr dX9_sleep_63 fX9_75 rfl (lyx_is hy 53 4 rfl) (rfx hr 53 5 55 (by decide)) ?_
  refine WP_iload dX9_sleep_66 rfl ?_
  refine WQ_iconst (3) (3) dX9_sleep_68 rfl rfl (fun v7348 hv7348 => ?_)
  refine WQ_iadd dX9_sleep_69 (by omega) (by omega) (fun v7349 hv7349 => ?_)
  refine WP_dup2 dX9_sleep_70 rfl rfl ?_
  refine WQ_ialdu dX9_sleep_71 (lyx_is hy 55 13 rfl) (lyx_n hy 55 28 rfl) (by omega) (by omega) (fun v7350 => ?_)
  refine WP_iload dX9_sleep_72 rfl ?_
  refine WQ_iaddu dX9_sleep_74 (fun v7351 => ?_)
  refine WQ_iast dX9_sleep_75 (lyx_is hy 55 13 rfl) (lyx_n hy 55 28 rfl) (by omega) (by omega) (fun I7352 eI7352 => ?_)
  have hI7352 : XI g n L I7352 := by rw [eI7352]; exact (fa_put hy hI7345 (c := 55) (k := 3) (s := so.toInt.toNat) (by decide) (by omega) (by decide) (by rw [cl (n := 7 * so.toInt.toNat + 3) (by omega)]) (fun h => absurd h (by decide)) (fun h => absurd h (by decide)))
  have e7353 : I7352 (ad g 1) 1 = L := by rw [eI7352, pp_ne _ _ (Or.inl (lyx_ne hy (by decide) (by decide) (by decide)))]; exact e7346
  have e7354 : I7352 (ad g 53) 1 = v7344 := by rw [eI7352, pp_ne _ _ (Or.inl (lyx_ne hy (by decide) (by decide) (by decide)))]; exact e7347
  clear eI7352
  refine WP_aload_n dX9_sleep_76 rfl ?_
  refine WP_getr dX9_sleep_77 fX9_75 rfl (lyx_is hy 53 4 rfl) (rfx hr 53 5 55 (by decide)) ?_
  refine WP_iload dX9_sleep_80 rfl ?_
  refine WQ_iconst (5) (5) dX9_sleep_82 rfl rfl (fun v7355 hv7355 => ?_)
  refine WQ_iadd dX9_sleep_83 (by omega) (by omega) (fun v7356 hv7356 => ?_)
  refine WP_dup2 dX9_sleep_84 rfl rfl ?_
  refine WQ_ialdu dX9_sleep_85 (lyx_is hy 55 13 rfl) (lyx_n hy 55 28 rfl) (by omega) (by omega) (fun v7357 => ?_)
  refine WP_iload dX9_sleep_86 rfl ?_
  refine WP_iload dX9_sleep_88 rfl ?_
  refine WP_iload dX9_sleep_90 rfl ?_
  refine WQ_isub dX9_sleep_92 (by omega) (by omega) (fun v7358 hv7358 => ?_)
  refine WQ_imulu dX9_sleep_93 (fun v7359 => ?_)
  refine WQ_iaddu dX9_sleep_94 (fun v7360 => ?_)
  refine WQ_iast dX9_sleep_95 (lyx_is hy 55 13 rfl) (lyx_n hy 55 28 rfl) (by omega) (by omega) (fun I7361 eI7361 => ?_)
  have hI7361 : XI g n L I7361 := by rw [eI7361]; exact (fa_put hy hI7352 (c := 55) (k := 5) (s := so.toInt.toNat) (by decide) (by omega) (by decide) (by rw [cl (n := 7 * so.toInt.toNat + 5) (by omega)]) (fun h => absurd h (by decide)) (fun h => absurd h (by decide)))
  have e7362 : I7361 (ad g 1) 1 = L := by rw [eI7361, pp_ne _ _ (Or.inl (lyx_ne hy (by decide) (by decide) (by decide)))]; exact e7353
  have e7363 : I7361 (ad g 53) 1 = v7344 := by rw [eI7361, pp_ne _ _ (Or.inl (lyx_ne hy (by decide) (by decide) (by decide)))]; exact e7354
  clear eI7361
  refine WP_aload_n dX9_sleep_96 rfl ?_
  refine WP_getr dX9_sleep_97 fX9_75 rfl (lyx_is hy 53 4 rfl) (rfx hr 53 5 55 (by decide)) ?_
  refine WP_iload dX9_sleep_100 rfl ?_
  refine WQ_iconst (0) (0) dX9_sleep_102 rfl rfl (fun v7364 hv7364 => ?_)
  refine WQ_iadd dX9_sleep_103 (by omega) (by omega) (fun v7365 hv7365 => ?_)
  refine WP_aload_n dX9_sleep_104 rfl ?_
  refine WP_getr dX9_sleep_105 fX9_25 rfl (lyx_is hy 49 9 rfl) (rfx hr 49 2 5 (by decide)) ?_
  refine WP_iload dX9_sleep_108 rfl ?_
  refine WP_iload dX9_sleep_110 rfl ?_
  refine WP_iload_n dX9_sleep_112 rfl ?_
  refine WP_callV3 (k := 0) dX9_sleep_113 ⟨⟨⟨by decide, by decide⟩, zX0_coinsBehind⟩, lX9_137, by decide, rfl, vX0_coinsBehind.1, vX0_coinsBehind.2⟩ (lyx_is hy 5 0 rfl) (sx_coinsBehind hy hr hI7361 co st da (by omega) (by omega) (by omega) (by omega) (by omega) (by omega)) (Nat.le_of_ble_eq_true rfl) ?_
  intro r Ia Ja Ra hq
  obtain ⟨⟨ea, eb, ec⟩, v7366, rfl, av7366, bv7366⟩ := hq
  show WP _ _ _ _ (.int _ :: _) _ _ _ _
  rw [ea, eb, ec]
  clear ea eb ec Ia Ja Ra
  refine WQ_iast dX9_sleep_116 (lyx_is hy 55 13 rfl) (lyx_n hy 55 28 rfl) (by omega) (by omega) (fun I7367 eI7367 => ?_)
  have hI7367 : XI g n L I7367 := by rw [eI7367]; exact (fa_put hy hI7361 (c := 55) (k := 0) (s := so.toInt.toNat) (by decide) (by omega) (by decide) (by rw [cl (n := 7 * so.toInt.toNat + 0) (by omega)]) (fun _ => by omega) (fun _ => by omega))
  have e7368 : I7367 (ad g 1) 1 = L := by rw [eI7367, pp_ne _ _ (Or.inl (lyx_ne hy (by decide) (by decide) (by decide)))]; exact e7362
  have e7369 : I7367 (ad g 53) 1 = v7344 := by rw [eI7367, pp_ne _ _ (Or.inl (lyx_ne hy (by decide) (by decide) (by decide)))]; exact e7363
  clear eI7367
  refine WP_aload_n dX9_sleep_117 rfl ?_
  refine WP_getr dX9_sleep_118 fX9_75 rfl (lyx_is hy 53 4 rfl) (rfx hr 53 5 55 (by decide)) ?_
  refine WP_iload dX9_sleep_121 rfl ?_
  refine WQ_iconst (1) (1) dX9_sleep_123 rfl rfl (fun v7370 hv7370 => ?_)
  refine WQ_iadd dX9_sleep_124 (by omega) (by omega) (fun v7371 hv7371 => ?_)
  refine WP_iload dX9_sleep_125 rfl ?_
  refine WQ_iast dX9_sleep_127 (lyx_is hy 55 13 rfl) (lyx_n hy 55 28 rfl) (by omega) (by omega) (fun I7372 eI7372 => ?_)
  have hI7372 : XI g n L I7372 := by rw [eI7372]; exact (fa_put hy hI7367 (c := 55) (k := 1) (s := so.toInt.toNat) (by decide) (by omega) (by decide) (by rw [cl (n := 7 * so.toInt.toNat + 1) (by omega)]) (fun _ => by omega) (fun _ => by omega))
  have e7373 : I7372 (ad g 1) 1 = L := by rw [eI7372, pp_ne _ _ (Or.inl (lyx_ne hy (by decide) (by decide) (by decide)))]; exact e7368
  have e7374 : I7372 (ad g 53) 1 = v7344 := by rw [eI7372, pp_ne _ _ (Or.inl (lyx_ne hy (by decide) (by decide) (by decide)))]; exact e7369
  clear eI7372
  exact WP_vret dX9_sleep_128 rfl ⟨⟨hI7372, rfl, (by rw [e7374, ew7336]; omega)⟩, rfl⟩
set_option maxHeartbeats 4000000 in
set_option maxRecDepth 100000 in
theorem sx_openChest_53_27 {g : GG} {n : Int} {L : Int32} (hy : LyX g)  {I : pI} {J : pJ} {R : pR} (hr : RfX g R) (hT : R (ad g 5) 0 = some (ad g 27)) (hI : XI g n L I)   (hn : 0 ≤ n ∧ n ≤ 40000) : SP g mX9_openChest [.ref (ad g 49), .ref (ad g 53)] I J R (fun r I' J' R' => (XI g n L I' ∧ R' = R ∧ (I' (ad g 53) 1).toInt ≤ (I (ad g 53) 1).toInt) ∧ r = none) := by
  refine SP_of ⟨by decide, rfl⟩ (Nat.le_of_ble_eq_true rfl) ?_
  have e7375 : I (ad g 1) 1 = L := hI.2
  have b7376 := BT_get hI.1 1 1 2 (0) (0) (900) (by decide) 1 (by decide) (by decide)
  rw [e7375] at b7376
  obtain ⟨w7377, ew7377⟩ : ∃ w : Int32, I (ad g 53) 1 = w := ⟨_, rfl⟩
  have bw7377 := BT_get hI.1 53 1 2 (0) (23760) (0) (by decide) 1 (by decide) (by decide)
  rw [ew7377] at bw7377
  refine WP_aload_n dX9_openChest_0 rfl ?_
  refine WP_getr dX9_openChest_1 fX9_25 rfl (lyx_is hy 49 9 rfl) (rfx hr 49 2 5 (by decide)) ?_
  refine WP_getr dX9_openChest_4 fX9_49 rfl (lyx_is hy 5 0 rfl) hT ?_
  refine WQ_geti dX9_openChest_7 fX9_68 rfl (lyx_is hy 27 7 rfl) (BT_get hI.1 27 3 4 (-1) (0) (3) (by decide) 3 (by decide) (by decide)) (fun v7378 ev7378 av7378 bv7378 => ?_)
  refine WP_istore_n (ls' := [(0, _), (1, _), (2, _)]) dX9_openChest_10 (by decide) rfl ?_
  refine WP_iload_n dX9_openChest_11 rfl ?_
  refine WQ_iconst (-1) (-1) dX9_openChest_12 rfl rfl (fun v7379 hv7379 => ?_)
  refine WQ_icmp_eq 32 dX9_openChest_13 rfl (fun c7379 => ?_) (fun c7379 => ?_)
  · exact WP_vret dX9_openChest_32 rfl ⟨⟨hI, rfl, (by rw [ew7377, ew7377]; omega)⟩, rfl⟩
  · refine WP_aload_n dX9_openChest_16 rfl ?_
    refine WP_getr dX9_openChest_17 fX9_25 rfl (lyx_is hy 49 9 rfl) (rfx hr 49 2 5 (by decide)) ?_
    refine WP_getr dX9_openChest_20 fX9_49 rfl (lyx_is hy 5 0 rfl) hT ?_
    refine WP_getr dX9_openChest_23 fX9_71 rfl (lyx_is hy 27 7 rfl) (rfx hr 27 6 29 (by decide)) ?_
    refine WP_iload_n dX9_openChest_26 rfl ?_
    refine WQ_iald dX9_openChest_27 (lyx_is hy 29 13 rfl) (lyx_n hy 29 4 rfl) (by omega) (by omega) (fun q hq => BT_get hI.1 29 0 4 (0) (0) (99) (by decide) q (Nat.zero_le _) hq) (fun v7381 av7381 bv7381 ev7381 => ?_)
    clear ev7381
    refine WQ_iconst (1) (1) dX9_openChest_28 rfl rfl (fun v7382 hv7382 => ?_)
    refine WQ_icmp_ge 33 dX9_openChest_29 rfl (fun c7382 => ?_) (fun c7382 => ?_)
    · refine WP_aload_n dX9_openChest_33 rfl ?_
      refine WP_getr dX9_openChest_34 fX9_25 rfl (lyx_is hy 49 9 rfl) (rfx hr 49 2 5 (by decide)) ?_
      refine WP_getr dX9_openChest_37 fX9_49 rfl (lyx_is hy 5 0 rfl) hT ?_
      refine WP_getr dX9_openChest_40 fX9_71 rfl (lyx_is hy 27 7 rfl) (rfx hr 27 6 29 (by decide)) ?_
      refine WP_iload_n dX9_openChest_43 rfl ?_
      refine WQ_iald dX9_openChest_44 (lyx_is hy 29 13 rfl) (lyx_n hy 29 4 rfl) (by omega) (by omega) (fun q hq => BT_get hI.1 29 0 4 (0) (0) (99) (by decide) q (Nat.zero_le _) hq) (fun v7384 av7384 bv7384 ev7384 => ?_)
      clear ev7384
      refine WP_istore_n (ls' := [(0, _), (1, _), (2, _), (3, _)]) dX9_openChest_45 (by decide) rfl ?_
      refine WP_aload_n dX9_openChest_46 rfl ?_
      refine WQ_getim dX9_openChest_47 fX9_74 rfl (lyx_is hy 53 4 rfl) ew7377 ?_
      refine WP_iload_n dX9_openChest_50 rfl ?_
      refine WQ_idivu dX9_openChest_51 (by omega) (fun v7385 => ?_)
      refine WP_istore (ls' := [(0, _), (1, _), (2, _), (3, _), (4, _)]) dX9_openChest_52 (by decide) rfl ?_
      refine WP_iload_n dX9_openChest_54 rfl ?_
      refine WQ_bipush (7) (7) dX9_openChest_55 rfl rfl (fun v7386 hv7386 => ?_)
      refine WQ_imulk (7) dX9_openChest_57 hv7386 (by omega) (by omega) (fun v7387 hv7387 => ?_)
      refine WP_istore (ls' := [(0, _), (1, _), (2, _), (3, _), (4, _), (5, _)]) dX9_openChest_58 (by decide) rfl ?_
      refine WP_aload_n dX9_openChest_60 rfl ?_
      refine WP_dup dX9_openChest_61 rfl ?_
      refine WQ_getim dX9_openChest_62 fX9_74 rfl (lyx_is hy 53 4 rfl) ew7377 ?_
      refine WP_iload dX9_openChest_65 rfl ?_
      refine WP_iload_n dX9_openChest_67 rfl ?_
      have knv7388 : 0 ≤ v7385.toInt * v7384.toInt := Int.mul_nonneg (by omega) (by omega)
      refine WQ_imulx dX9_openChest_68 (by omega) (by omega) (fun v7388 pv7388 => ?_)
      refine WQ_isub dX9_openChest_69 (by omega) (by omega) (fun v7389 hv7389 => ?_)
      refine WQ_puti dX9_openChest_70 fX9_74 rfl rfl (lyx_is hy 53 4 rfl) (fun I7390 eI7390 => ?_)
      have hI7390 : XI g n L I7390 := by rw [eI7390]; exact (xi_f hy hI (c := 53) (0) (23760) (0) (by decide) (Or.inl (by decide)) (by decide) (by omega) (by omega))
      have e7391 : I7390 (ad g 1) 1 = L := by rw [eI7390, pp_ne _ _ (Or.inl (lyx_ne hy (by decide) (by decide) (by decide)))]; exact e7375
      have e7392 : I7390 (ad g 27) 3 = v7378 := by rw [eI7390, pp_ne _ _ (Or.inl (lyx_ne hy (by decide) (by decide) (by decide)))]; exact ev7378
      have e7393 : I7390 (ad g 53) 1 = v7389 := by rw [eI7390, pp_self]
      clear eI7390
      refine WP_aload_n dX9_openChest_73 rfl ?_
      refine WP_getr dX9_openChest_74 fX9_75 rfl (lyx_is hy 53 4 rfl) (rfx hr 53 5 55 (by decide)) ?_
      refine WP_iload dX9_openChest_77 rfl ?_
      refine WQ_bipush (6) (6) dX9_openChest_79 rfl rfl (fun v7394 hv7394 => ?_)
      refine WQ_iadd dX9_openChest_81 (by omega) (by omega) (fun v7395 hv7395 => ?_)
      refine WP_dup2 dX9_openChest_82 rfl rfl ?_
      refine WQ_ialdu dX9_openChest_83 (lyx_is hy 55 13 rfl) (lyx_n hy 55 28 rfl) (by omega) (by omega) (fun v7396 => ?_)
      refine WP_iload dX9_openChest_84 rfl ?_
      refine WP_iload_n dX9_openChest_86 rfl ?_
      have knv7397 : 0 ≤ v7385.toInt * v7384.toInt := Int.mul_nonneg (by omega) (by omega)
      refine WQ_imulx dX9_openChest_87 (by omega) (by omega) (fun v7397 pv7397 => ?_)
      refine WQ_iaddu dX9_openChest_88 (fun v7398 => ?_)
      refine WQ_iast dX9_openChest_89 (lyx_is hy 55 13 rfl) (lyx_n hy 55 28 rfl) (by omega) (by omega) (fun I7399 eI7399 => ?_)
      have hI7399 : XI g n L I7399 := by rw [eI7399]; exact (fa_put hy hI7390 (c := 55) (k := 6) (s := v7378.toInt.toNat) (by decide) (by omega) (by decide) (by rw [cl (n := 7 * v7378.toInt.toNat + 6) (by omega)]) (fun h => absurd h (by decide)) (fun h => absurd h (by decide)))
      have e7400 : I7399 (ad g 1) 1 = L := by rw [eI7399, pp_ne _ _ (Or.inl (lyx_ne hy (by decide) (by decide) (by decide)))]; exact e7391
      have e7401 : I7399 (ad g 27) 3 = v7378 := by rw [eI7399, pp_ne _ _ (Or.inl (lyx_ne hy (by decide) (by decide) (by decide)))]; exact e7392
      have e7402 : I7399 (ad g 53) 1 = v7389 := by rw [eI7399, pp_ne _ _ (Or.inl (lyx_ne hy (by decide) (by decide) (by decide)))]; exact e7393
      clear eI7399
      refine WP_aload_n dX9_openChest_90 rfl ?_
      refine WP_getr dX9_openChest_91 fX9_75 rfl (lyx_is hy 53 4 rfl) (rfx hr 53 5 55 (by decide)) ?_
      refine WP_iload dX9_openChest_94 rfl ?_
      refine WQ_iconst (0) (0) dX9_openChest_96 rfl rfl (fun v7403 hv7403 => ?_)
      refine WQ_iadd dX9_openChest_97 (by omega) (by omega) (fun v7404 hv7404 => ?_)
      refine WQ_bipush (60) (60) dX9_openChest_98 rfl rfl (fun v7405 hv7405 => ?_)
      refine WP_aload_n dX9_openChest_100 rfl ?_
      refine WP_getr dX9_openChest_101 fX9_75 rfl (lyx_is hy 53 4 rfl) (rfx hr 53 5 55 (by decide)) ?_
      refine WP_iload dX9_openChest_104 rfl ?_
      refine WQ_iconst (0) (0) dX9_openChest_106 rfl rfl (fun v7406 hv7406 => ?_)
      refine WQ_iadd dX9_openChest_107 (by omega) (by omega) (fun v7407 hv7407 => ?_)
      refine WQ_ialdf (q := 7 * v7378.toInt.toNat) dX9_openChest_108 (lyx_is hy 55 13 rfl) (lyx_n hy 55 28 rfl) (by omega) (by omega) (by omega) (fa_get0 hI7399 (c := 55) (by decide) (by omega)) (fun v7408 av7408 bv7408 => ?_)
      refine WP_iload dX9_openChest_109 rfl ?_
      refine WQ_iaddu dX9_openChest_111 (fun v7409 => ?_)
      refine WQ_min dX9_openChest_112 lX9_78 ⟨by decide, Nat.le_of_ble_eq_true rfl⟩ (fun v7410 av7410 bv7410 cv7410 => ?_)
      refine WQ_iast dX9_openChest_115 (lyx_is hy 55 13 rfl) (lyx_n hy 55 28 rfl) (by omega) (by omega) (fun I7411 eI7411 => ?_)
      have hI7411 : XI g n L I7411 := by rw [eI7411]; exact (fa_put hy hI7399 (c := 55) (k := 0) (s := v7378.toInt.toNat) (by decide) (by omega) (by decide) (by rw [cl (n := 7 * v7378.toInt.toNat + 0) (by omega)]) (fun _ => by omega) (fun _ => by omega))
      have e7412 : I7411 (ad g 1) 1 = L := by rw [eI7411, pp_ne _ _ (Or.inl (lyx_ne hy (by decide) (by decide) (by decide)))]; exact e7400
      have e7413 : I7411 (ad g 27) 3 = v7378 := by rw [eI7411, pp_ne _ _ (Or.inl (lyx_ne hy (by decide) (by decide) (by decide)))]; exact e7401
      have e7414 : I7411 (ad g 53) 1 = v7389 := by rw [eI7411, pp_ne _ _ (Or.inl (lyx_ne hy (by decide) (by decide) (by decide)))]; exact e7402
      clear eI7411
      exact WP_vret dX9_openChest_116 rfl ⟨⟨hI7411, rfl, (by rw [e7414, ew7377]; omega)⟩, rfl⟩
    · exact WP_vret dX9_openChest_32 rfl ⟨⟨hI, rfl, (by rw [ew7377, ew7377]; omega)⟩, rfl⟩
set_option maxHeartbeats 4000000 in
set_option maxRecDepth 100000 in
theorem sx_wsleep_53_27 {g : GG} {n : Int} {L : Int32} (hy : LyX g)  {I : pI} {J : pJ} {R : pR} (hr : RfX g R) (hT : R (ad g 5) 0 = some (ad g 27)) (hI : XI g n L I) (so : Int32) (da : Int32) (co : Int32) (st : Int32) (so_lo : 0 ≤ so.toInt) (so_hi : so.toInt ≤ 3) (da_lo : 0 ≤ da.toInt) (da_hi : da.toInt ≤ 6) (co_lo : 0 ≤ co.toInt) (co_hi : co.toInt ≤ 60) (st_lo : 0 ≤ st.toInt) (st_hi : st.toInt ≤ 5) (hn : 0 ≤ n ∧ n ≤ 40000) (hb : (I (ad g 53) 1).toInt ≤ 23760 * n + 0 - 5940) : SP g mX9_sleep [.ref (ad g 49), .ref (ad g 53), .int so, .int da, .int co, .int st] I J R (fun r I' J' R' => (XI g n L I' ∧ R' = R ∧ (I' (ad g 53) 1).toInt ≤ (I (ad g 53) 1).toInt + 5940) ∧ r = none) := by
  refine SP_of ⟨by decide, rfl⟩ (Nat.le_of_ble_eq_true rfl) ?_
  have e7415 : I (ad g 1) 1 = L := hI.2
  have b7416 := BT_get hI.1 1 1 2 (0) (0) (900) (by decide) 1 (by decide) (by decide)
  rw [e7415] at b7416
  obtain ⟨w7417, ew7417⟩ : ∃ w : Int32, I (ad g 53) 1 = w := ⟨_, rfl⟩
  have bw7417 := BT_get hI.1 53 1 2 (0) (23760) (0) (by decide) 1 (by decide) (by decide)
  rw [ew7417] at bw7417
  rw [ew7417] at hb
  refine WP_iload_n dX9_sleep_0 rfl ?_
  refine WQ_bipush (7) (7) dX9_sleep_1 rfl rfl (fun v7418 hv7418 => ?_)
  refine WQ_imulk (7) dX9_sleep_3 hv7418 (by omega) (by omega) (fun v7419 hv7419 => ?_)
  refine WP_istore (ls' := [(0, _), (1, _), (2, _), (3, _), (4, _), (5, _), (6, _)]) dX9_sleep_4 (by decide) rfl ?_
  refine WP_aload_n dX9_sleep_6 rfl ?_
  refine WP_getr dX9_sleep_7 fX9_25 rfl (lyx_is hy 49 9 rfl) (rfx hr 49 2 5 (by decide)) ?_
  refine WP_getr dX9_sleep_10 fX9_49 rfl (lyx_is hy 5 0 rfl) hT ?_
  refine WP_getr dX9_sleep_13 fX9_71 rfl (lyx_is hy 27 7 rfl) (rfx hr 27 6 29 (by decide)) ?_
  refine WP_iload_n dX9_sleep_16 rfl ?_
  refine WQ_iald dX9_sleep_17 (lyx_is hy 29 13 rfl) (lyx_n hy 29 4 rfl) (by omega) (by omega) (fun q hq => BT_get hI.1 29 0 4 (0) (0) (99) (by decide) q (Nat.zero_le _) hq) (fun v7420 av7420 bv7420 ev7420 => ?_)
  clear ev7420
  refine WP_istore (ls' := [(0, _), (1, _), (2, _), (3, _), (4, _), (5, _), (6, _), (7, _)]) dX9_sleep_18 (by decide) rfl ?_
  refine WP_iload dX9_sleep_20 rfl ?_
  refine WP_iload dX9_sleep_22 rfl ?_
  refine WP_aload_n dX9_sleep_24 rfl ?_
  refine WP_getr dX9_sleep_25 fX9_25 rfl (lyx_is hy 49 9 rfl) (rfx hr 49 2 5 (by decide)) ?_
  refine WP_getr dX9_sleep_28 fX9_128 rfl (lyx_is hy 5 0 rfl) (rfx hr 5 2 23 (by decide)) ?_
  refine WP_iload_n dX9_sleep_31 rfl ?_
  refine WQ_iald dX9_sleep_32 (lyx_is hy 23 13 rfl) (lyx_n hy 23 7 rfl) (by omega) (by omega) (fun q hq => BT_get hI.1 23 0 7 (0) (0) (900) (by decide) q (Nat.zero_le _) hq) (fun v7421 av7421 bv7421 ev7421 => ?_)
  clear ev7421
  refine WP_callN2 dX9_sleep_33 ⟨⟨⟨by decide, by decide⟩, zX10_stampsOf⟩, lX9_131, tX10_stampsOf⟩ (sx_stampsOf hy hr hI co v7421 (by omega) (by omega) (by omega) (by omega)) (Nat.le_of_ble_eq_true rfl) ?_
  intro r Ia Ja Ra hq
  obtain ⟨⟨ea, eb, ec⟩, v7422, rfl, av7422, bv7422, cv7422⟩ := hq
  show WP _ _ _ _ (.int _ :: _) _ _ _ _
  rw [ea, eb, ec]
  clear ea eb ec Ia Ja Ra
  refine WQ_imulb (99) (999) dX9_sleep_36 ⟨by omega, by omega⟩ ⟨by omega, by omega⟩ (by decide) (fun v7423 pv7423 av7423 bv7423 cv7423 => ?_)
  refine WP_istore (ls' := [(0, _), (1, _), (2, _), (3, _), (4, _), (5, _), (6, _), (7, _), (8, _)]) dX9_sleep_37 (by decide) rfl ?_
  refine WP_aload_n dX9_sleep_39 rfl ?_
  refine WP_getr dX9_sleep_40 fX9_25 rfl (lyx_is hy 49 9 rfl) (rfx hr 49 2 5 (by decide)) ?_
  refine WP_getr dX9_sleep_43 fX9_134 rfl (lyx_is hy 5 0 rfl) (rfx hr 5 5 26 (by decide)) ?_
  refine WP_iload dX9_sleep_46 rfl ?_
  refine WQ_iald dX9_sleep_48 (lyx_is hy 26 13 rfl) (lyx_n hy 26 6 rfl) (by omega) (by omega) (fun q hq => BT_get hI.1 26 0 6 (0) (0) (5) (by decide) q (Nat.zero_le _) hq) (fun v7424 av7424 bv7424 ev7424 => ?_)
  clear ev7424
  refine WP_istore (ls' := [(0, _), (1, _), (2, _), (3, _), (4, _), (5, _), (6, _), (7, _), (8, _), (9, _)]) dX9_sleep_49 (by decide) rfl ?_
  refine WP_aload_n dX9_sleep_51 rfl ?_
  refine WP_dup dX9_sleep_52 rfl ?_
  refine WQ_getim dX9_sleep_53 fX9_74 rfl (lyx_is hy 53 4 rfl) ew7417 ?_
  refine WP_iload dX9_sleep_56 rfl ?_
  refine WQ_iadd dX9_sleep_58 (by omega) (by omega) (fun v7425 hv7425 => ?_)
  refine WQ_puti dX9_sleep_59 fX9_74 rfl rfl (lyx_is hy 53 4 rfl) (fun I7426 eI7426 => ?_)
  have hI7426 : XI g n L I7426 := by rw [eI7426]; exact (xi_f hy hI (c := 53) (0) (23760) (0) (by decide) (Or.inl (by decide)) (by decide) (by omega) (by omega))
  have e7427 : I7426 (ad g 1) 1 = L := by rw [eI7426, pp_ne _ _ (Or.inl (lyx_ne hy (by decide) (by decide) (by decide)))]; exact e7415
  have e7428 : I7426 (ad g 53) 1 = v7425 := by rw [eI7426, pp_self]
  clear eI7426
  refine WP_aload_n dX9_sleep_62 rfl ?_
  refine WP_getr dX9_sleep_63 fX9_75 rfl (lyx_is hy 53 4 rfl) (rfx hr 53 5 55 (by decide)) ?_
  refine WP_iload dX9_sleep_66 rfl ?_
  refine WQ_iconst (3) (3) dX9_sleep_68 rfl rfl (fun v7429 hv7429 => ?_)
  refine WQ_iadd dX9_sleep_69 (by omega) (by omega) (fun v7430 hv7430 => ?_)
  refine WP_dup2 dX9_sleep_70 rfl rfl ?_
  refine WQ_ialdu dX9_sleep_71 (lyx_is hy 55 13 rfl) (lyx_n hy 55 28 rfl) (by omega) (by omega) (fun v7431 => ?_)
  refine WP_iload dX9_sleep_72 rfl ?_
  refine WQ_iaddu dX9_sleep_74 (fun v7432 => ?_)
  refine WQ_iast dX9_sleep_75 (lyx_is hy 55 13 rfl) (lyx_n hy 55 28 rfl) (by omega) (by omega) (fun I7433 eI7433 => ?_)
  have hI7433 : XI g n L I7433 := by rw [eI7433]; exact (fa_put hy hI7426 (c := 55) (k := 3) (s := so.toInt.toNat) (by decide) (by omega) (by decide) (by rw [cl (n := 7 * so.toInt.toNat + 3) (by omega)]) (fun h => absurd h (by decide)) (fun h => absurd h (by decide)))
  have e7434 : I7433 (ad g 1) 1 = L := by rw [eI7433, pp_ne _ _ (Or.inl (lyx_ne hy (by decide) (by decide) (by decide)))]; exact e7427
  have e7435 : I7433 (ad g 53) 1 = v7425 := by rw [eI7433, pp_ne _ _ (Or.inl (lyx_ne hy (by decide) (by decide) (by decide)))]; exact e7428
  clear eI7433
  refine WP_aload_n dX9_sleep_76 rfl ?_
  refine WP_getr dX9_sleep_77 fX9_75 rfl (lyx_is hy 53 4 rfl) (rfx hr 53 5 55 (by decide)) ?_
  refine WP_iload dX9_sleep_80 rfl ?_
  refine WQ_iconst (5) (5) dX9_sleep_82 rfl rfl (fun v7436 hv7436 => ?_)
  refine WQ_iadd dX9_sleep_83 (by omega) (by omega) (fun v7437 hv7437 => ?_)
  refine WP_dup2 dX9_sleep_84 rfl rfl ?_
  refine WQ_ialdu dX9_sleep_85 (lyx_is hy 55 13 rfl) (lyx_n hy 55 28 rfl) (by omega) (by omega) (fun v7438 => ?_)
  refine WP_iload dX9_sleep_86 rfl ?_
  refine WP_iload dX9_sleep_88 rfl ?_
  refine WP_iload dX9_sleep_90 rfl ?_
  refine WQ_isub dX9_sleep_92 (by omega) (by omega) (fun v7439 hv7439 => ?_)
  refine WQ_imulu dX9_sleep_93 (fun v7440 => ?_)
  refine WQ_iaddu dX9_sleep_94 (fun v7441 => ?_)
  refine WQ_iast dX9_sleep_95 (lyx_is hy 55 13 rfl) (lyx_n hy 55 28 rfl) (by omega) (by omega) (fun I7442 eI7442 => ?_)
  have hI7442 : XI g n L I7442 := by rw [eI7442]; exact (fa_put hy hI7433 (c := 55) (k := 5) (s := so.toInt.toNat) (by decide) (by omega) (by decide) (by rw [cl (n := 7 * so.toInt.toNat + 5) (by omega)]) (fun h => absurd h (by decide)) (fun h => absurd h (by decide)))
  have e7443 : I7442 (ad g 1) 1 = L := by rw [eI7442, pp_ne _ _ (Or.inl (lyx_ne hy (by decide) (by decide) (by decide)))]; exact e7434
  have e7444 : I7442 (ad g 53) 1 = v7425 := by rw [eI7442, pp_ne _ _ (Or.inl (lyx_ne hy (by decide) (by decide) (by decide)))]; exact e7435
  clear eI7442
  refine WP_aload_n dX9_sleep_96 rfl ?_
  refine WP_getr dX9_sleep_97 fX9_75 rfl (lyx_is hy 53 4 rfl) (rfx hr 53 5 55 (by decide)) ?_
  refine WP_iload dX9_sleep_100 rfl ?_
  refine WQ_iconst (0) (0) dX9_sleep_102 rfl rfl (fun v7445 hv7445 => ?_)
  refine WQ_iadd dX9_sleep_103 (by omega) (by omega) (fun v7446 hv7446 => ?_)
  refine WP_aload_n dX9_sleep_104 rfl ?_
  refine WP_getr dX9_sleep_105 fX9_25 rfl (lyx_is hy 49 9 rfl) (rfx hr 49 2 5 (by decide)) ?_
  refine WP_iload dX9_sleep_108 rfl ?_
  refine WP_iload dX9_sleep_110 rfl ?_
  refine WP_iload_n dX9_sleep_112 rfl ?_
  refine WP_callV3 (k := 0) dX9_sleep_113 ⟨⟨⟨by decide, by decide⟩, zX0_coinsBehind⟩, lX9_137, by decide, rfl, vX0_coinsBehind.1, vX0_coinsBehind.2⟩ (lyx_is hy 5 0 rfl) (sx_coinsBehind hy hr hI7442 co st da (by omega) (by omega) (by omega) (by omega) (by omega) (by omega)) (Nat.le_of_ble_eq_true rfl) ?_
  intro r Ia Ja Ra hq
  obtain ⟨⟨ea, eb, ec⟩, v7447, rfl, av7447, bv7447⟩ := hq
  show WP _ _ _ _ (.int _ :: _) _ _ _ _
  rw [ea, eb, ec]
  clear ea eb ec Ia Ja Ra
  refine WQ_iast dX9_sleep_116 (lyx_is hy 55 13 rfl) (lyx_n hy 55 28 rfl) (by omega) (by omega) (fun I7448 eI7448 => ?_)
  have hI7448 : XI g n L I7448 := by rw [eI7448]; exact (fa_put hy hI7442 (c := 55) (k := 0) (s := so.toInt.toNat) (by decide) (by omega) (by decide) (by rw [cl (n := 7 * so.toInt.toNat + 0) (by omega)]) (fun _ => by omega) (fun _ => by omega))
  have e7449 : I7448 (ad g 1) 1 = L := by rw [eI7448, pp_ne _ _ (Or.inl (lyx_ne hy (by decide) (by decide) (by decide)))]; exact e7443
  have e7450 : I7448 (ad g 53) 1 = v7425 := by rw [eI7448, pp_ne _ _ (Or.inl (lyx_ne hy (by decide) (by decide) (by decide)))]; exact e7444
  clear eI7448
  refine WP_aload_n dX9_sleep_117 rfl ?_
  refine WP_getr dX9_sleep_118 fX9_75 rfl (lyx_is hy 53 4 rfl) (rfx hr 53 5 55 (by decide)) ?_
  refine WP_iload dX9_sleep_121 rfl ?_
  refine WQ_iconst (1) (1) dX9_sleep_123 rfl rfl (fun v7451 hv7451 => ?_)
  refine WQ_iadd dX9_sleep_124 (by omega) (by omega) (fun v7452 hv7452 => ?_)
  refine WP_iload dX9_sleep_125 rfl ?_
  refine WQ_iast dX9_sleep_127 (lyx_is hy 55 13 rfl) (lyx_n hy 55 28 rfl) (by omega) (by omega) (fun I7453 eI7453 => ?_)
  have hI7453 : XI g n L I7453 := by rw [eI7453]; exact (fa_put hy hI7448 (c := 55) (k := 1) (s := so.toInt.toNat) (by decide) (by omega) (by decide) (by rw [cl (n := 7 * so.toInt.toNat + 1) (by omega)]) (fun _ => by omega) (fun _ => by omega))
  have e7454 : I7453 (ad g 1) 1 = L := by rw [eI7453, pp_ne _ _ (Or.inl (lyx_ne hy (by decide) (by decide) (by decide)))]; exact e7449
  have e7455 : I7453 (ad g 53) 1 = v7425 := by rw [eI7453, pp_ne _ _ (Or.inl (lyx_ne hy (by decide) (by decide) (by decide)))]; exact e7450
  clear eI7453
  exact WP_vret dX9_sleep_128 rfl ⟨⟨hI7453, rfl, (by rw [e7455, ew7417]; omega)⟩, rfl⟩
set_option maxHeartbeats 4000000 in
set_option maxRecDepth 100000 in
theorem sx_openChest_56_6 {g : GG} {n : Int} {L : Int32} (hy : LyX g)  {I : pI} {J : pJ} {R : pR} (hr : RfX g R) (hT : R (ad g 5) 0 = some (ad g 6)) (hI : XI g n L I)   (hn : 0 ≤ n ∧ n ≤ 40000) : SP g mX9_openChest [.ref (ad g 49), .ref (ad g 56)] I J R (fun r I' J' R' => (XI g n L I' ∧ R' = R ∧ (I' (ad g 56) 1).toInt ≤ (I (ad g 56) 1).toInt) ∧ r = none) := by
  refine SP_of ⟨by decide, rfl⟩ (Nat.le_of_ble_eq_true rfl) ?_
  have e7456 : I (ad g 1) 1 = L := hI.2
  have b7457 := BT_get hI.1 1 1 2 (0) (0) (900) (by decide) 1 (by decide) (by decide)
  rw [e7456] at b7457
  obtain ⟨w7458, ew7458⟩ : ∃ w : Int32, I (ad g 56) 1 = w := ⟨_, rfl⟩
  have bw7458 := BT_get hI.1 56 1 2 (0) (23760) (700000) (by decide) 1 (by decide) (by decide)
  rw [ew7458] at bw7458
  refine WP_aload_n dX9_openChest_0 rfl ?_
  refine WP_getr dX9_openChest_1 fX9_25 rfl (lyx_is hy 49 9 rfl) (rfx hr 49 2 5 (by decide)) ?_
  refine WP_getr dX9_openChest_4 fX9_49 rfl (lyx_is hy 5 0 rfl) hT ?_
  refine WQ_geti dX9_openChest_7 fX9_68 rfl (lyx_is hy 6 7 rfl) (BT_get hI.1 6 3 4 (-1) (0) (3) (by decide) 3 (by decide) (by decide)) (fun v7459 ev7459 av7459 bv7459 => ?_)
  refine WP_istore_n (ls' := [(0, _), (1, _), (2, _)]) dX9_openChest_10 (by decide) rfl ?_
  refine WP_iload_n dX9_openChest_11 rfl ?_
  refine WQ_iconst (-1) (-1) dX9_openChest_12 rfl rfl (fun v7460 hv7460 => ?_)
  refine WQ_icmp_eq 32 dX9_openChest_13 rfl (fun c7460 => ?_) (fun c7460 => ?_)
  · exact WP_vret dX9_openChest_32 rfl ⟨⟨hI, rfl, (by rw [ew7458, ew7458]; omega)⟩, rfl⟩
  · refine WP_aload_n dX9_openChest_16 rfl ?_
    refine WP_getr dX9_openChest_17 fX9_25 rfl (lyx_is hy 49 9 rfl) (rfx hr 49 2 5 (by decide)) ?_
    refine WP_getr dX9_openChest_20 fX9_49 rfl (lyx_is hy 5 0 rfl) hT ?_
    refine WP_getr dX9_openChest_23 fX9_71 rfl (lyx_is hy 6 7 rfl) (rfx hr 6 6 8 (by decide)) ?_
    refine WP_iload_n dX9_openChest_26 rfl ?_
    refine WQ_iald dX9_openChest_27 (lyx_is hy 8 13 rfl) (lyx_n hy 8 4 rfl) (by omega) (by omega) (fun q hq => BT_get hI.1 8 0 4 (0) (0) (99) (by decide) q (Nat.zero_le _) hq) (fun v7462 av7462 bv7462 ev7462 => ?_)
    clear ev7462
    refine WQ_iconst (1) (1) dX9_openChest_28 rfl rfl (fun v7463 hv7463 => ?_)
    refine WQ_icmp_ge 33 dX9_openChest_29 rfl (fun c7463 => ?_) (fun c7463 => ?_)
    · refine WP_aload_n dX9_openChest_33 rfl ?_
      refine WP_getr dX9_openChest_34 fX9_25 rfl (lyx_is hy 49 9 rfl) (rfx hr 49 2 5 (by decide)) ?_
      refine WP_getr dX9_openChest_37 fX9_49 rfl (lyx_is hy 5 0 rfl) hT ?_
      refine WP_getr dX9_openChest_40 fX9_71 rfl (lyx_is hy 6 7 rfl) (rfx hr 6 6 8 (by decide)) ?_
      refine WP_iload_n dX9_openChest_43 rfl ?_
      refine WQ_iald dX9_openChest_44 (lyx_is hy 8 13 rfl) (lyx_n hy 8 4 rfl) (by omega) (by omega) (fun q hq => BT_get hI.1 8 0 4 (0) (0) (99) (by decide) q (Nat.zero_le _) hq) (fun v7465 av7465 bv7465 ev7465 => ?_)
      clear ev7465
      refine WP_istore_n (ls' := [(0, _), (1, _), (2, _), (3, _)]) dX9_openChest_45 (by decide) rfl ?_
      refine WP_aload_n dX9_openChest_46 rfl ?_
      refine WQ_getim dX9_openChest_47 fX9_74 rfl (lyx_is hy 56 4 rfl) ew7458 ?_
      refine WP_iload_n dX9_openChest_50 rfl ?_
      refine WQ_idivu dX9_openChest_51 (by omega) (fun v7466 => ?_)
      refine WP_istore (ls' := [(0, _), (1, _), (2, _), (3, _), (4, _)]) dX9_openChest_52 (by decide) rfl ?_
      refine WP_iload_n dX9_openChest_54 rfl ?_
      refine WQ_bipush (7) (7) dX9_openChest_55 rfl rfl (fun v7467 hv7467 => ?_)
      refine WQ_imulk (7) dX9_openChest_57 hv7467 (by omega) (by omega) (fun v7468 hv7468 => ?_)
      refine WP_istore (ls' := [(0, _), (1, _), (2, _), (3, _), (4, _), (5, _)]) dX9_openChest_58 (by decide) rfl ?_
      refine WP_aload_n dX9_openChest_60 rfl ?_
      refine WP_dup dX9_openChest_61 rfl ?_
      refine WQ_getim dX9_openChest_62 fX9_74 rfl (lyx_is hy 56 4 rfl) ew7458 ?_
      refine WP_iload dX9_openChest_65 rfl ?_
      refine WP_iload_n dX9_openChest_67 rfl ?_
      have knv7469 : 0 ≤ v7466.toInt * v7465.toInt := Int.mul_nonneg (by omega) (by omega)
      refine WQ_imulx dX9_openChest_68 (by omega) (by omega) (fun v7469 pv7469 => ?_)
      refine WQ_isub dX9_openChest_69 (by omega) (by omega) (fun v7470 hv7470 => ?_)
      refine WQ_puti dX9_openChest_70 fX9_74 rfl rfl (lyx_is hy 56 4 rfl) (fun I7471 eI7471 => ?_)
      have hI7471 : XI g n L I7471 := by rw [eI7471]; exact (xi_f hy hI (c := 56) (0) (23760) (700000) (by decide) (Or.inl (by decide)) (by decide) (by omega) (by omega))
      have e7472 : I7471 (ad g 1) 1 = L := by rw [eI7471, pp_ne _ _ (Or.inl (lyx_ne hy (by decide) (by decide) (by decide)))]; exact e7456
      have e7473 : I7471 (ad g 6) 3 = v7459 := by rw [eI7471, pp_ne _ _ (Or.inl (lyx_ne hy (by decide) (by decide) (by decide)))]; exact ev7459
      have e7474 : I7471 (ad g 56) 1 = v7470 := by rw [eI7471, pp_self]
      clear eI7471
      refine WP_aload_n dX9_openChest_73 rfl ?_
      refine WP_getr dX9_openChest_74 fX9_75 rfl (lyx_is hy 56 4 rfl) (rfx hr 56 5 58 (by decide)) ?_
      refine WP_iload dX9_openChest_77 rfl ?_
      refine WQ_bipush (6) (6) dX9_openChest_79 rfl rfl (fun v7475 hv7475 => ?_)
      refine WQ_iadd dX9_openChest_81 (by omega) (by omega) (fun v7476 hv7476 => ?_)
      refine WP_dup2 dX9_openChest_82 rfl rfl ?_
      refine WQ_ialdu dX9_openChest_83 (lyx_is hy 58 13 rfl) (lyx_n hy 58 28 rfl) (by omega) (by omega) (fun v7477 => ?_)
      refine WP_iload dX9_openChest_84 rfl ?_
      refine WP_iload_n dX9_openChest_86 rfl ?_
      have knv7478 : 0 ≤ v7466.toInt * v7465.toInt := Int.mul_nonneg (by omega) (by omega)
      refine WQ_imulx dX9_openChest_87 (by omega) (by omega) (fun v7478 pv7478 => ?_)
      refine WQ_iaddu dX9_openChest_88 (fun v7479 => ?_)
      refine WQ_iast dX9_openChest_89 (lyx_is hy 58 13 rfl) (lyx_n hy 58 28 rfl) (by omega) (by omega) (fun I7480 eI7480 => ?_)
      have hI7480 : XI g n L I7480 := by rw [eI7480]; exact (fa_put hy hI7471 (c := 58) (k := 6) (s := v7459.toInt.toNat) (by decide) (by omega) (by decide) (by rw [cl (n := 7 * v7459.toInt.toNat + 6) (by omega)]) (fun h => absurd h (by decide)) (fun h => absurd h (by decide)))
      have e7481 : I7480 (ad g 1) 1 = L := by rw [eI7480, pp_ne _ _ (Or.inl (lyx_ne hy (by decide) (by decide) (by decide)))]; exact e7472
      have e7482 : I7480 (ad g 6) 3 = v7459 := by rw [eI7480, pp_ne _ _ (Or.inl (lyx_ne hy (by decide) (by decide) (by decide)))]; exact e7473
      have e7483 : I7480 (ad g 56) 1 = v7470 := by rw [eI7480, pp_ne _ _ (Or.inl (lyx_ne hy (by decide) (by decide) (by decide)))]; exact e7474
      clear eI7480
      refine WP_aload_n dX9_openChest_90 rfl ?_
      refine WP_getr dX9_openChest_91 fX9_75 rfl (lyx_is hy 56 4 rfl) (rfx hr 56 5 58 (by decide)) ?_
      refine WP_iload dX9_openChest_94 rfl ?_
      refine WQ_iconst (0) (0) dX9_openChest_96 rfl rfl (fun v7484 hv7484 => ?_)
      refine WQ_iadd dX9_openChest_97 (by omega) (by omega) (fun v7485 hv7485 => ?_)
      refine WQ_bipush (60) (60) dX9_openChest_98 rfl rfl (fun v7486 hv7486 => ?_)
      refine WP_aload_n dX9_openChest_100 rfl ?_
      refine WP_getr dX9_openChest_101 fX9_75 rfl (lyx_is hy 56 4 rfl) (rfx hr 56 5 58 (by decide)) ?_
      refine WP_iload dX9_openChest_104 rfl ?_
      refine WQ_iconst (0) (0) dX9_openChest_106 rfl rfl (fun v7487 hv7487 => ?_)
      refine WQ_iadd dX9_openChest_107 (by omega) (by omega) (fun v7488 hv7488 => ?_)
      refine WQ_ialdf (q := 7 * v7459.toInt.toNat) dX9_openChest_108 (lyx_is hy 58 13 rfl) (lyx_n hy 58 28 rfl) (by omega) (by omega) (by omega) (fa_get0 hI7480 (c := 58) (by decide) (by omega)) (fun v7489 av7489 bv7489 => ?_)
      refine WP_iload dX9_openChest_109 rfl ?_
      refine WQ_iaddu dX9_openChest_111 (fun v7490 => ?_)
      refine WQ_min dX9_openChest_112 lX9_78 ⟨by decide, Nat.le_of_ble_eq_true rfl⟩ (fun v7491 av7491 bv7491 cv7491 => ?_)
      refine WQ_iast dX9_openChest_115 (lyx_is hy 58 13 rfl) (lyx_n hy 58 28 rfl) (by omega) (by omega) (fun I7492 eI7492 => ?_)
      have hI7492 : XI g n L I7492 := by rw [eI7492]; exact (fa_put hy hI7480 (c := 58) (k := 0) (s := v7459.toInt.toNat) (by decide) (by omega) (by decide) (by rw [cl (n := 7 * v7459.toInt.toNat + 0) (by omega)]) (fun _ => by omega) (fun _ => by omega))
      have e7493 : I7492 (ad g 1) 1 = L := by rw [eI7492, pp_ne _ _ (Or.inl (lyx_ne hy (by decide) (by decide) (by decide)))]; exact e7481
      have e7494 : I7492 (ad g 6) 3 = v7459 := by rw [eI7492, pp_ne _ _ (Or.inl (lyx_ne hy (by decide) (by decide) (by decide)))]; exact e7482
      have e7495 : I7492 (ad g 56) 1 = v7470 := by rw [eI7492, pp_ne _ _ (Or.inl (lyx_ne hy (by decide) (by decide) (by decide)))]; exact e7483
      clear eI7492
      exact WP_vret dX9_openChest_116 rfl ⟨⟨hI7492, rfl, (by rw [e7495, ew7458]; omega)⟩, rfl⟩
    · exact WP_vret dX9_openChest_32 rfl ⟨⟨hI, rfl, (by rw [ew7458, ew7458]; omega)⟩, rfl⟩
set_option maxHeartbeats 4000000 in
set_option maxRecDepth 100000 in
theorem sx_wsleep_56_6 {g : GG} {n : Int} {L : Int32} (hy : LyX g)  {I : pI} {J : pJ} {R : pR} (hr : RfX g R) (hT : R (ad g 5) 0 = some (ad g 6)) (hI : XI g n L I) (so : Int32) (da : Int32) (co : Int32) (st : Int32) (so_lo : 0 ≤ so.toInt) (so_hi : so.toInt ≤ 3) (da_lo : 0 ≤ da.toInt) (da_hi : da.toInt ≤ 6) (co_lo : 0 ≤ co.toInt) (co_hi : co.toInt ≤ 60) (st_lo : 0 ≤ st.toInt) (st_hi : st.toInt ≤ 5) (hn : 0 ≤ n ∧ n ≤ 40000) (hb : (I (ad g 56) 1).toInt ≤ 23760 * n + 700000 - 5940) : SP g mX9_sleep [.ref (ad g 49), .ref (ad g 56), .int so, .int da, .int co, .int st] I J R (fun r I' J' R' => (XI g n L I' ∧ R' = R ∧ (I' (ad g 56) 1).toInt ≤ (I (ad g 56) 1).toInt + 5940) ∧ r = none) := by
  refine SP_of ⟨by decide, rfl⟩ (Nat.le_of_ble_eq_true rfl) ?_
  have e7496 : I (ad g 1) 1 = L := hI.2
  have b7497 := BT_get hI.1 1 1 2 (0) (0) (900) (by decide) 1 (by decide) (by decide)
  rw [e7496] at b7497
  obtain ⟨w7498, ew7498⟩ : ∃ w : Int32, I (ad g 56) 1 = w := ⟨_, rfl⟩
  have bw7498 := BT_get hI.1 56 1 2 (0) (23760) (700000) (by decide) 1 (by decide) (by decide)
  rw [ew7498] at bw7498
  rw [ew7498] at hb
  refine WP_iload_n dX9_sleep_0 rfl ?_
  refine WQ_bipush (7) (7) dX9_sleep_1 rfl rfl (fun v7499 hv7499 => ?_)
  refine WQ_imulk (7) dX9_sleep_3 hv7499 (by omega) (by omega) (fun v7500 hv7500 => ?_)
  refine WP_istore (ls' := [(0, _), (1, _), (2, _), (3, _), (4, _), (5, _), (6, _)]) dX9_sleep_4 (by decide) rfl ?_
  refine WP_aload_n dX9_sleep_6 rfl ?_
  refine WP_getr dX9_sleep_7 fX9_25 rfl (lyx_is hy 49 9 rfl) (rfx hr 49 2 5 (by decide)) ?_
  refine WP_getr dX9_sleep_10 fX9_49 rfl (lyx_is hy 5 0 rfl) hT ?_
  refine WP_getr dX9_sleep_13 fX9_71 rfl (lyx_is hy 6 7 rfl) (rfx hr 6 6 8 (by decide)) ?_
  refine WP_iload_n dX9_sleep_16 rfl ?_
  refine WQ_iald dX9_sleep_17 (lyx_is hy 8 13 rfl) (lyx_n hy 8 4 rfl) (by omega) (by omega) (fun q hq => BT_get hI.1 8 0 4 (0) (0) (99) (by decide) q (Nat.zero_le _) hq) (fun v7501 av7501 bv7501 ev7501 => ?_)
  clear ev7501
  refine WP_istore (ls' := [(0, _), (1, _), (2, _), (3, _), (4, _), (5, _), (6, _), (7, _)]) dX9_sleep_18 (by decide) rfl ?_
  refine WP_iload dX9_sleep_20 rfl ?_
  refine WP_iload dX9_sleep_22 rfl ?_
  refine WP_aload_n dX9_sleep_24 rfl ?_
  refine WP_getr dX9_sleep_25 fX9_25 rfl (lyx_is hy 49 9 rfl) (rfx hr 49 2 5 (by decide)) ?_
  refine WP_getr dX9_sleep_28 fX9_128 rfl (lyx_is hy 5 0 rfl) (rfx hr 5 2 23 (by decide)) ?_
  refine WP_iload_n dX9_sleep_31 rfl ?_
  refine WQ_iald dX9_sleep_32 (lyx_is hy 23 13 rfl) (lyx_n hy 23 7 rfl) (by omega) (by omega) (fun q hq => BT_get hI.1 23 0 7 (0) (0) (900) (by decide) q (Nat.zero_le _) hq) (fun v7502 av7502 bv7502 ev7502 => ?_)
  clear ev7502
  refine WP_callN2 dX9_sleep_33 ⟨⟨⟨by decide, by decide⟩, zX10_stampsOf⟩, lX9_131, tX10_stampsOf⟩ (sx_stampsOf hy hr hI co v7502 (by omega) (by omega) (by omega) (by omega)) (Nat.le_of_ble_eq_true rfl) ?_
  intro r Ia Ja Ra hq
  obtain ⟨⟨ea, eb, ec⟩, v7503, rfl, av7503, bv7503, cv7503⟩ := hq
  show WP _ _ _ _ (.int _ :: _) _ _ _ _
  rw [ea, eb, ec]
  clear ea eb ec Ia Ja Ra
  refine WQ_imulb (99) (999) dX9_sleep_36 ⟨by omega, by omega⟩ ⟨by omega, by omega⟩ (by decide) (fun v7504 pv7504 av7504 bv7504 cv7504 => ?_)
  refine WP_istore (ls' := [(0, _), (1, _), (2, _), (3, _), (4, _), (5, _), (6, _), (7, _), (8, _)]) dX9_sleep_37 (by decide) rfl ?_
  refine WP_aload_n dX9_sleep_39 rfl ?_
  refine WP_getr dX9_sleep_40 fX9_25 rfl (lyx_is hy 49 9 rfl) (rfx hr 49 2 5 (by decide)) ?_
  refine WP_getr dX9_sleep_43 fX9_134 rfl (lyx_is hy 5 0 rfl) (rfx hr 5 5 26 (by decide)) ?_
  refine WP_iload dX9_sleep_46 rfl ?_
  refine WQ_iald dX9_sleep_48 (lyx_is hy 26 13 rfl) (lyx_n hy 26 6 rfl) (by omega) (by omega) (fun q hq => BT_get hI.1 26 0 6 (0) (0) (5) (by decide) q (Nat.zero_le _) hq) (fun v7505 av7505 bv7505 ev7505 => ?_)
  clear ev7505
  refine WP_istore (ls' := [(0, _), (1, _), (2, _), (3, _), (4, _), (5, _), (6, _), (7, _), (8, _), (9, _)]) dX9_sleep_49 (by decide) rfl ?_
  refine WP_aload_n dX9_sleep_51 rfl ?_
  refine WP_dup dX9_sleep_52 rfl ?_
  refine WQ_getim dX9_sleep_53 fX9_74 rfl (lyx_is hy 56 4 rfl) ew7498 ?_
  refine WP_iload dX9_sleep_56 rfl ?_
  refine WQ_iadd dX9_sleep_58 (by omega) (by omega) (fun v7506 hv7506 => ?_)
  refine WQ_puti dX9_sleep_59 fX9_74 rfl rfl (lyx_is hy 56 4 rfl) (fun I7507 eI7507 => ?_)
  have hI7507 : XI g n L I7507 := by rw [eI7507]; exact (xi_f hy hI (c := 56) (0) (23760) (700000) (by decide) (Or.inl (by decide)) (by decide) (by omega) (by omega))
  have e7508 : I7507 (ad g 1) 1 = L := by rw [eI7507, pp_ne _ _ (Or.inl (lyx_ne hy (by decide) (by decide) (by decide)))]; exact e7496
  have e7509 : I7507 (ad g 56) 1 = v7506 := by rw [eI7507, pp_self]
  clear eI7507
  refine WP_aload_n dX9_sleep_62 rfl ?_
  refine WP_getr dX9_sleep_63 fX9_75 rfl (lyx_is hy 56 4 rfl) (rfx hr 56 5 58 (by decide)) ?_
  refine WP_iload dX9_sleep_66 rfl ?_
  refine WQ_iconst (3) (3) dX9_sleep_68 rfl rfl (fun v7510 hv7510 => ?_)
  refine WQ_iadd dX9_sleep_69 (by omega) (by omega) (fun v7511 hv7511 => ?_)
  refine WP_dup2 dX9_sleep_70 rfl rfl ?_
  refine WQ_ialdu dX9_sleep_71 (lyx_is hy 58 13 rfl) (lyx_n hy 58 28 rfl) (by omega) (by omega) (fun v7512 => ?_)
  refine WP_iload dX9_sleep_72 rfl ?_
  refine WQ_iaddu dX9_sleep_74 (fun v7513 => ?_)
  refine WQ_iast dX9_sleep_75 (lyx_is hy 58 13 rfl) (lyx_n hy 58 28 rfl) (by omega) (by omega) (fun I7514 eI7514 => ?_)
  have hI7514 : XI g n L I7514 := by rw [eI7514]; exact (fa_put hy hI7507 (c := 58) (k := 3) (s := so.toInt.toNat) (by decide) (by omega) (by decide) (by rw [cl (n := 7 * so.toInt.toNat + 3) (by omega)]) (fun h => absurd h (by decide)) (fun h => absurd h (by decide)))
  have e7515 : I7514 (ad g 1) 1 = L := by rw [eI7514, pp_ne _ _ (Or.inl (lyx_ne hy (by decide) (by decide) (by decide)))]; exact e7508
  have e7516 : I7514 (ad g 56) 1 = v7506 := by rw [eI7514, pp_ne _ _ (Or.inl (lyx_ne hy (by decide) (by decide) (by decide)))]; exact e7509
  clear eI7514
  refine WP_aload_n dX9_sleep_76 rfl ?_
  refine WP_getr dX9_sleep_77 fX9_75 rfl (lyx_is hy 56 4 rfl) (rfx hr 56 5 58 (by decide)) ?_
  refine WP_iload dX9_sleep_80 rfl ?_
  refine WQ_iconst (5) (5) dX9_sleep_82 rfl rfl (fun v7517 hv7517 => ?_)
  refine WQ_iadd dX9_sleep_83 (by omega) (by omega) (fun v7518 hv7518 => ?_)
  refine WP_dup2 dX9_sleep_84 rfl rfl ?_
  refine WQ_ialdu dX9_sleep_85 (lyx_is hy 58 13 rfl) (lyx_n hy 58 28 rfl) (by omega) (by omega) (fun v7519 => ?_)
  refine WP_iload dX9_sleep_86 rfl ?_
  refine WP_iload dX9_sleep_88 rfl ?_
  refine WP_iload dX9_sleep_90 rfl ?_
  refine WQ_isub dX9_sleep_92 (by omega) (by omega) (fun v7520 hv7520 => ?_)
  refine WQ_imulu dX9_sleep_93 (fun v7521 => ?_)
  refine WQ_iaddu dX9_sleep_94 (fun v7522 => ?_)
  refine WQ_iast dX9_sleep_95 (lyx_is hy 58 13 rfl) (lyx_n hy 58 28 rfl) (by omega) (by omega) (fun I7523 eI7523 => ?_)
  have hI7523 : XI g n L I7523 := by rw [eI7523]; exact (fa_put hy hI7514 (c := 58) (k := 5) (s := so.toInt.toNat) (by decide) (by omega) (by decide) (by rw [cl (n := 7 * so.toInt.toNat + 5) (by omega)]) (fun h => absurd h (by decide)) (fun h => absurd h (by decide)))
  have e7524 : I7523 (ad g 1) 1 = L := by rw [eI7523, pp_ne _ _ (Or.inl (lyx_ne hy (by decide) (by decide) (by decide)))]; exact e7515
  have e7525 : I7523 (ad g 56) 1 = v7506 := by rw [eI7523, pp_ne _ _ (Or.inl (lyx_ne hy (by decide) (by decide) (by decide)))]; exact e7516
  clear eI7523
  refine WP_aload_n dX9_sleep_96 rfl ?_
  refine WP_getr dX9_sleep_97 fX9_75 rfl (lyx_is hy 56 4 rfl) (rfx hr 56 5 58 (by decide)) ?_
  refine WP_iload dX9_sleep_100 rfl ?_
  refine WQ_iconst (0) (0) dX9_sleep_102 rfl rfl (fun v7526 hv7526 => ?_)
  refine WQ_iadd dX9_sleep_103 (by omega) (by omega) (fun v7527 hv7527 => ?_)
  refine WP_aload_n dX9_sleep_104 rfl ?_
  refine WP_getr dX9_sleep_105 fX9_25 rfl (lyx_is hy 49 9 rfl) (rfx hr 49 2 5 (by decide)) ?_
  refine WP_iload dX9_sleep_108 rfl ?_
  refine WP_iload dX9_sleep_110 rfl ?_
  refine WP_iload_n dX9_sleep_112 rfl ?_
  refine WP_callV3 (k := 0) dX9_sleep_113 ⟨⟨⟨by decide, by decide⟩, zX0_coinsBehind⟩, lX9_137, by decide, rfl, vX0_coinsBehind.1, vX0_coinsBehind.2⟩ (lyx_is hy 5 0 rfl) (sx_coinsBehind hy hr hI7523 co st da (by omega) (by omega) (by omega) (by omega) (by omega) (by omega)) (Nat.le_of_ble_eq_true rfl) ?_
  intro r Ia Ja Ra hq
  obtain ⟨⟨ea, eb, ec⟩, v7528, rfl, av7528, bv7528⟩ := hq
  show WP _ _ _ _ (.int _ :: _) _ _ _ _
  rw [ea, eb, ec]
  clear ea eb ec Ia Ja Ra
  refine WQ_iast dX9_sleep_116 (lyx_is hy 58 13 rfl) (lyx_n hy 58 28 rfl) (by omega) (by omega) (fun I7529 eI7529 => ?_)
  have hI7529 : XI g n L I7529 := by rw [eI7529]; exact (fa_put hy hI7523 (c := 58) (k := 0) (s := so.toInt.toNat) (by decide) (by omega) (by decide) (by rw [cl (n := 7 * so.toInt.toNat + 0) (by omega)]) (fun _ => by omega) (fun _ => by omega))
  have e7530 : I7529 (ad g 1) 1 = L := by rw [eI7529, pp_ne _ _ (Or.inl (lyx_ne hy (by decide) (by decide) (by decide)))]; exact e7524
  have e7531 : I7529 (ad g 56) 1 = v7506 := by rw [eI7529, pp_ne _ _ (Or.inl (lyx_ne hy (by decide) (by decide) (by decide)))]; exact e7525
  clear eI7529
  refine WP_aload_n dX9_sleep_117 rfl ?_
  refine WP_getr dX9_sleep_118 fX9_75 rfl (lyx_is hy 56 4 rfl) (rfx hr 56 5 58 (by decide)) ?_
  refine WP_iload dX9_sleep_121 rfl ?_
  refine WQ_iconst (1) (1) dX9_sleep_123 rfl rfl (fun v7532 hv7532 => ?_)
  refine WQ_iadd dX9_sleep_124 (by omega) (by omega) (fun v7533 hv7533 => ?_)
  refine WP_iload dX9_sleep_125 rfl ?_
  refine WQ_iast dX9_sleep_127 (lyx_is hy 58 13 rfl) (lyx_n hy 58 28 rfl) (by omega) (by omega) (fun I7534 eI7534 => ?_)
  have hI7534 : XI g n L I7534 := by rw [eI7534]; exact (fa_put hy hI7529 (c := 58) (k := 1) (s := so.toInt.toNat) (by decide) (by omega) (by decide) (by rw [cl (n := 7 * so.toInt.toNat + 1) (by omega)]) (fun _ => by omega) (fun _ => by omega))
  have e7535 : I7534 (ad g 1) 1 = L := by rw [eI7534, pp_ne _ _ (Or.inl (lyx_ne hy (by decide) (by decide) (by decide)))]; exact e7530
  have e7536 : I7534 (ad g 56) 1 = v7506 := by rw [eI7534, pp_ne _ _ (Or.inl (lyx_ne hy (by decide) (by decide) (by decide)))]; exact e7531
  clear eI7534
  exact WP_vret dX9_sleep_128 rfl ⟨⟨hI7534, rfl, (by rw [e7536, ew7498]; omega)⟩, rfl⟩
set_option maxHeartbeats 4000000 in
set_option maxRecDepth 100000 in
theorem sx_openChest_56_27 {g : GG} {n : Int} {L : Int32} (hy : LyX g)  {I : pI} {J : pJ} {R : pR} (hr : RfX g R) (hT : R (ad g 5) 0 = some (ad g 27)) (hI : XI g n L I)   (hn : 0 ≤ n ∧ n ≤ 40000) : SP g mX9_openChest [.ref (ad g 49), .ref (ad g 56)] I J R (fun r I' J' R' => (XI g n L I' ∧ R' = R ∧ (I' (ad g 56) 1).toInt ≤ (I (ad g 56) 1).toInt) ∧ r = none) := by
  refine SP_of ⟨by decide, rfl⟩ (Nat.le_of_ble_eq_true rfl) ?_
  have e7537 : I (ad g 1) 1 = L := hI.2
  have b7538 := BT_get hI.1 1 1 2 (0) (0) (900) (by decide) 1 (by decide) (by decide)
  rw [e7537] at b7538
  obtain ⟨w7539, ew7539⟩ : ∃ w : Int32, I (ad g 56) 1 = w := ⟨_, rfl⟩
  have bw7539 := BT_get hI.1 56 1 2 (0) (23760) (700000) (by decide) 1 (by decide) (by decide)
  rw [ew7539] at bw7539
  refine WP_aload_n dX9_openChest_0 rfl ?_
  refine WP_getr dX9_openChest_1 fX9_25 rfl (lyx_is hy 49 9 rfl) (rfx hr 49 2 5 (by decide)) ?_
  refine WP_getr dX9_openChest_4 fX9_49 rfl (lyx_is hy 5 0 rfl) hT ?_
  refine WQ_geti dX9_openChest_7 fX9_68 rfl (lyx_is hy 27 7 rfl) (BT_get hI.1 27 3 4 (-1) (0) (3) (by decide) 3 (by decide) (by decide)) (fun v7540 ev7540 av7540 bv7540 => ?_)
  refine WP_istore_n (ls' := [(0, _), (1, _), (2, _)]) dX9_openChest_10 (by decide) rfl ?_
  refine WP_iload_n dX9_openChest_11 rfl ?_
  refine WQ_iconst (-1) (-1) dX9_openChest_12 rfl rfl (fun v7541 hv7541 => ?_)
  refine WQ_icmp_eq 32 dX9_openChest_13 rfl (fun c7541 => ?_) (fun c7541 => ?_)
  · exact WP_vret dX9_openChest_32 rfl ⟨⟨hI, rfl, (by rw [ew7539, ew7539]; omega)⟩, rfl⟩
  · refine WP_aload_n dX9_openChest_16 rfl ?_
    refine WP_getr dX9_openChest_17 fX9_25 rfl (lyx_is hy 49 9 rfl) (rfx hr 49 2 5 (by decide)) ?_
    refine WP_getr dX9_openChest_20 fX9_49 rfl (lyx_is hy 5 0 rfl) hT ?_
    refine WP_getr dX9_openChest_23 fX9_71 rfl (lyx_is hy 27 7 rfl) (rfx hr 27 6 29 (by decide)) ?_
    refine WP_iload_n dX9_openChest_26 rfl ?_
    refine WQ_iald dX9_openChest_27 (lyx_is hy 29 13 rfl) (lyx_n hy 29 4 rfl) (by omega) (by omega) (fun q hq => BT_get hI.1 29 0 4 (0) (0) (99) (by decide) q (Nat.zero_le _) hq) (fun v7543 av7543 bv7543 ev7543 => ?_)
    clear ev7543
    refine WQ_iconst (1) (1) dX9_openChest_28 rfl rfl (fun v7544 hv7544 => ?_)
    refine WQ_icmp_ge 33 dX9_openChest_29 rfl (fun c7544 => ?_) (fun c7544 => ?_)
    · refine WP_aload_n dX9_openChest_33 rfl ?_
      refine WP_getr dX9_openChest_34 fX9_25 rfl (lyx_is hy 49 9 rfl) (rfx hr 49 2 5 (by decide)) ?_
      refine WP_getr dX9_openChest_37 fX9_49 rfl (lyx_is hy 5 0 rfl) hT ?_
      refine WP_getr dX9_openChest_40 fX9_71 rfl (lyx_is hy 27 7 rfl) (rfx hr 27 6 29 (by decide)) ?_
      refine WP_iload_n dX9_openChest_43 rfl ?_
      refine WQ_iald dX9_openChest_44 (lyx_is hy 29 13 rfl) (lyx_n hy 29 4 rfl) (by omega) (by omega) (fun q hq => BT_get hI.1 29 0 4 (0) (0) (99) (by decide) q (Nat.zero_le _) hq) (fun v7546 av7546 bv7546 ev7546 => ?_)
      clear ev7546
      refine WP_istore_n (ls' := [(0, _), (1, _), (2, _), (3, _)]) dX9_openChest_45 (by decide) rfl ?_
      refine WP_aload_n dX9_openChest_46 rfl ?_
      refine WQ_getim dX9_openChest_47 fX9_74 rfl (lyx_is hy 56 4 rfl) ew7539 ?_
      refine WP_iload_n dX9_openChest_50 rfl ?_
      refine WQ_idivu dX9_openChest_51 (by omega) (fun v7547 => ?_)
      refine WP_istore (ls' := [(0, _), (1, _), (2, _), (3, _), (4, _)]) dX9_openChest_52 (by decide) rfl ?_
      refine WP_iload_n dX9_openChest_54 rfl ?_
      refine WQ_bipush (7) (7) dX9_openChest_55 rfl rfl (fun v7548 hv7548 => ?_)
      refine WQ_imulk (7) dX9_openChest_57 hv7548 (by omega) (by omega) (fun v7549 hv7549 => ?_)
      refine WP_istore (ls' := [(0, _), (1, _), (2, _), (3, _), (4, _), (5, _)]) dX9_openChest_58 (by decide) rfl ?_
      refine WP_aload_n dX9_openChest_60 rfl ?_
      refine WP_dup dX9_openChest_61 rfl ?_
      refine WQ_getim dX9_openChest_62 fX9_74 rfl (lyx_is hy 56 4 rfl) ew7539 ?_
      refine WP_iload dX9_openChest_65 rfl ?_
      refine WP_iload_n dX9_openChest_67 rfl ?_
      have knv7550 : 0 ≤ v7547.toInt * v7546.toInt := Int.mul_nonneg (by omega) (by omega)
      refine WQ_imulx dX9_openChest_68 (by omega) (by omega) (fun v7550 pv7550 => ?_)
      refine WQ_isub dX9_openChest_69 (by omega) (by omega) (fun v7551 hv7551 => ?_)
      refine WQ_puti dX9_openChest_70 fX9_74 rfl rfl (lyx_is hy 56 4 rfl) (fun I7552 eI7552 => ?_)
      have hI7552 : XI g n L I7552 := by rw [eI7552]; exact (xi_f hy hI (c := 56) (0) (23760) (700000) (by decide) (Or.inl (by decide)) (by decide) (by omega) (by omega))
      have e7553 : I7552 (ad g 1) 1 = L := by rw [eI7552, pp_ne _ _ (Or.inl (lyx_ne hy (by decide) (by decide) (by decide)))]; exact e7537
      have e7554 : I7552 (ad g 27) 3 = v7540 := by rw [eI7552, pp_ne _ _ (Or.inl (lyx_ne hy (by decide) (by decide) (by decide)))]; exact ev7540
      have e7555 : I7552 (ad g 56) 1 = v7551 := by rw [eI7552, pp_self]
      clear eI7552
      refine WP_aload_n dX9_openChest_73 rfl ?_
      refine WP_getr dX9_openChest_74 fX9_75 rfl (lyx_is hy 56 4 rfl) (rfx hr 56 5 58 (by decide)) ?_
      refine WP_iload dX9_openChest_77 rfl ?_
      refine WQ_bipush (6) (6) dX9_openChest_79 rfl rfl (fun v7556 hv7556 => ?_)
      refine WQ_iadd dX9_openChest_81 (by omega) (by omega) (fun v7557 hv7557 => ?_)
      refine WP_dup2 dX9_openChest_82 rfl rfl ?_
      refine WQ_ialdu dX9_openChest_83 (lyx_is hy 58 13 rfl) (lyx_n hy 58 28 rfl) (by omega) (by omega) (fun v7558 => ?_)
      refine WP_iload dX9_openChest_84 rfl ?_
      refine WP_iload_n dX9_openChest_86 rfl ?_
      have knv7559 : 0 ≤ v7547.toInt * v7546.toInt := Int.mul_nonneg (by omega) (by omega)
      refine WQ_imulx dX9_openChest_87 (by omega) (by omega) (fun v7559 pv7559 => ?_)
      refine WQ_iaddu dX9_openChest_88 (fun v7560 => ?_)
      refine WQ_iast dX9_openChest_89 (lyx_is hy 58 13 rfl) (lyx_n hy 58 28 rfl) (by omega) (by omega) (fun I7561 eI7561 => ?_)
      have hI7561 : XI g n L I7561 := by rw [eI7561]; exact (fa_put hy hI7552 (c := 58) (k := 6) (s := v7540.toInt.toNat) (by decide) (by omega) (by decide) (by rw [cl (n := 7 * v7540.toInt.toNat + 6) (by omega)]) (fun h => absurd h (by decide)) (fun h => absurd h (by decide)))
      have e7562 : I7561 (ad g 1) 1 = L := by rw [eI7561, pp_ne _ _ (Or.inl (lyx_ne hy (by decide) (by decide) (by decide)))]; exact e7553
      have e7563 : I7561 (ad g 27) 3 = v7540 := by rw [eI7561, pp_ne _ _ (Or.inl (lyx_ne hy (by decide) (by decide) (by decide)))]; exact e7554
      have e7564 : I7561 (ad g 56) 1 = v7551 := by rw [eI7561, pp_ne _ _ (Or.inl (lyx_ne hy (by decide) (by decide) (by decide)))]; exact e7555
      clear eI7561
      refine WP_aload_n dX9_openChest_90 rfl ?_
      refine WP_getr dX9_openChest_91 fX9_75 rfl (lyx_is hy 56 4 rfl) (rfx hr 56 5 58 (by decide)) ?_
      refine WP_iload dX9_openChest_94 rfl ?_
      refine WQ_iconst (0) (0) dX9_openChest_96 rfl rfl (fun v7565 hv7565 => ?_)
      refine WQ_iadd dX9_openChest_97 (by omega) (by omega) (fun v7566 hv7566 => ?_)
      refine WQ_bipush (60) (60) dX9_openChest_98 rfl rfl (fun v7567 hv7567 => ?_)
      refine WP_aload_n dX9_openChest_100 rfl ?_
      refine WP_getr dX9_openChest_101 fX9_75 rfl (lyx_is hy 56 4 rfl) (rfx hr 56 5 58 (by decide)) ?_
      refine WP_iload dX9_openChest_104 rfl ?_
      refine WQ_iconst (0) (0) dX9_openChest_106 rfl rfl (fun v7568 hv7568 => ?_)
      refine WQ_iadd dX9_openChest_107 (by omega) (by omega) (fun v7569 hv7569 => ?_)
      refine WQ_ialdf (q := 7 * v7540.toInt.toNat) dX9_openChest_108 (lyx_is hy 58 13 rfl) (lyx_n hy 58 28 rfl) (by omega) (by omega) (by omega) (fa_get0 hI7561 (c := 58) (by decide) (by omega)) (fun v7570 av7570 bv7570 => ?_)
      refine WP_iload dX9_openChest_109 rfl ?_
      refine WQ_iaddu dX9_openChest_111 (fun v7571 => ?_)
      refine WQ_min dX9_openChest_112 lX9_78 ⟨by decide, Nat.le_of_ble_eq_true rfl⟩ (fun v7572 av7572 bv7572 cv7572 => ?_)
      refine WQ_iast dX9_openChest_115 (lyx_is hy 58 13 rfl) (lyx_n hy 58 28 rfl) (by omega) (by omega) (fun I7573 eI7573 => ?_)
      have hI7573 : XI g n L I7573 := by rw [eI7573]; exact (fa_put hy hI7561 (c := 58) (k := 0) (s := v7540.toInt.toNat) (by decide) (by omega) (by decide) (by rw [cl (n := 7 * v7540.toInt.toNat + 0) (by omega)]) (fun _ => by omega) (fun _ => by omega))
      have e7574 : I7573 (ad g 1) 1 = L := by rw [eI7573, pp_ne _ _ (Or.inl (lyx_ne hy (by decide) (by decide) (by decide)))]; exact e7562
      have e7575 : I7573 (ad g 27) 3 = v7540 := by rw [eI7573, pp_ne _ _ (Or.inl (lyx_ne hy (by decide) (by decide) (by decide)))]; exact e7563
      have e7576 : I7573 (ad g 56) 1 = v7551 := by rw [eI7573, pp_ne _ _ (Or.inl (lyx_ne hy (by decide) (by decide) (by decide)))]; exact e7564
      clear eI7573
      exact WP_vret dX9_openChest_116 rfl ⟨⟨hI7573, rfl, (by rw [e7576, ew7539]; omega)⟩, rfl⟩
    · exact WP_vret dX9_openChest_32 rfl ⟨⟨hI, rfl, (by rw [ew7539, ew7539]; omega)⟩, rfl⟩
set_option maxHeartbeats 4000000 in
set_option maxRecDepth 100000 in
theorem sx_wsleep_56_27 {g : GG} {n : Int} {L : Int32} (hy : LyX g)  {I : pI} {J : pJ} {R : pR} (hr : RfX g R) (hT : R (ad g 5) 0 = some (ad g 27)) (hI : XI g n L I) (so : Int32) (da : Int32) (co : Int32) (st : Int32) (so_lo : 0 ≤ so.toInt) (so_hi : so.toInt ≤ 3) (da_lo : 0 ≤ da.toInt) (da_hi : da.toInt ≤ 6) (co_lo : 0 ≤ co.toInt) (co_hi : co.toInt ≤ 60) (st_lo : 0 ≤ st.toInt) (st_hi : st.toInt ≤ 5) (hn : 0 ≤ n ∧ n ≤ 40000) (hb : (I (ad g 56) 1).toInt ≤ 23760 * n + 700000 - 5940) : SP g mX9_sleep [.ref (ad g 49), .ref (ad g 56), .int so, .int da, .int co, .int st] I J R (fun r I' J' R' => (XI g n L I' ∧ R' = R ∧ (I' (ad g 56) 1).toInt ≤ (I (ad g 56) 1).toInt + 5940) ∧ r = none) := by
  refine SP_of ⟨by decide, rfl⟩ (Nat.le_of_ble_eq_true rfl) ?_
  have e7577 : I (ad g 1) 1 = L := hI.2
  have b7578 := BT_get hI.1 1 1 2 (0) (0) (900) (by decide) 1 (by decide) (by decide)
  rw [e7577] at b7578
  obtain ⟨w7579, ew7579⟩ : ∃ w : Int32, I (ad g 56) 1 = w := ⟨_, rfl⟩
  have bw7579 := BT_get hI.1 56 1 2 (0) (23760) (700000) (by decide) 1 (by decide) (by decide)
  rw [ew7579] at bw7579
  rw [ew7579] at hb
  refine WP_iload_n dX9_sleep_0 rfl ?_
  refine WQ_bipush (7) (7) dX9_sleep_1 rfl rfl (fun v7580 hv7580 => ?_)
  refine WQ_imulk (7) dX9_sleep_3 hv7580 (by omega) (by omega) (fun v7581 hv7581 => ?_)
  refine WP_istore (ls' := [(0, _), (1, _), (2, _), (3, _), (4, _), (5, _), (6, _)]) dX9_sleep_4 (by decide) rfl ?_
  refine WP_aload_n dX9_sleep_6 rfl ?_
  refine WP_getr dX9_sleep_7 fX9_25 rfl (lyx_is hy 49 9 rfl) (rfx hr 49 2 5 (by decide)) ?_
  refine WP_getr dX9_sleep_10 fX9_49 rfl (lyx_is hy 5 0 rfl) hT ?_
  refine WP_getr dX9_sleep_13 fX9_71 rfl (lyx_is hy 27 7 rfl) (rfx hr 27 6 29 (by decide)) ?_
  refine WP_iload_n dX9_sleep_16 rfl ?_
  refine WQ_iald dX9_sleep_17 (lyx_is hy 29 13 rfl) (lyx_n hy 29 4 rfl) (by omega) (by omega) (fun q hq => BT_get hI.1 29 0 4 (0) (0) (99) (by decide) q (Nat.zero_le _) hq) (fun v7582 av7582 bv7582 ev7582 => ?_)
  clear ev7582
  refine WP_istore (ls' := [(0, _), (1, _), (2, _), (3, _), (4, _), (5, _), (6, _), (7, _)]) dX9_sleep_18 (by decide) rfl ?_
  refine WP_iload dX9_sleep_20 rfl ?_
  refine WP_iload dX9_sleep_22 rfl ?_
  refine WP_aload_n dX9_sleep_24 rfl ?_
  refine WP_getr dX9_sleep_25 fX9_25 rfl (lyx_is hy 49 9 rfl) (rfx hr 49 2 5 (by decide)) ?_
  refine WP_getr dX9_sleep_28 fX9_128 rfl (lyx_is hy 5 0 rfl) (rfx hr 5 2 23 (by decide)) ?_
  refine WP_iload_n dX9_sleep_31 rfl ?_
  refine WQ_iald dX9_sleep_32 (lyx_is hy 23 13 rfl) (lyx_n hy 23 7 rfl) (by omega) (by omega) (fun q hq => BT_get hI.1 23 0 7 (0) (0) (900) (by decide) q (Nat.zero_le _) hq) (fun v7583 av7583 bv7583 ev7583 => ?_)
  clear ev7583
  refine WP_callN2 dX9_sleep_33 ⟨⟨⟨by decide, by decide⟩, zX10_stampsOf⟩, lX9_131, tX10_stampsOf⟩ (sx_stampsOf hy hr hI co v7583 (by omega) (by omega) (by omega) (by omega)) (Nat.le_of_ble_eq_true rfl) ?_
  intro r Ia Ja Ra hq
  obtain ⟨⟨ea, eb, ec⟩, v7584, rfl, av7584, bv7584, cv7584⟩ := hq
  show WP _ _ _ _ (.int _ :: _) _ _ _ _
  rw [ea, eb, ec]
  clear ea eb ec Ia Ja Ra
  refine WQ_imulb (99) (999) dX9_sleep_36 ⟨by omega, by omega⟩ ⟨by omega, by omega⟩ (by decide) (fun v7585 pv7585 av7585 bv7585 cv7585 => ?_)
  refine WP_istore (ls' := [(0, _), (1, _), (2, _), (3, _), (4, _), (5, _), (6, _), (7, _), (8, _)]) dX9_sleep_37 (by decide) rfl ?_
  refine WP_aload_n dX9_sleep_39 rfl ?_
  refine WP_getr dX9_sleep_40 fX9_25 rfl (lyx_is hy 49 9 rfl) (rfx hr 49 2 5 (by decide)) ?_
  refine WP_getr dX9_sleep_43 fX9_134 rfl (lyx_is hy 5 0 rfl) (rfx hr 5 5 26 (by decide)) ?_
  refine WP_iload dX9_sleep_46 rfl ?_
  refine WQ_iald dX9_sleep_48 (lyx_is hy 26 13 rfl) (lyx_n hy 26 6 rfl) (by omega) (by omega) (fun q hq => BT_get hI.1 26 0 6 (0) (0) (5) (by decide) q (Nat.zero_le _) hq) (fun v7586 av7586 bv7586 ev7586 => ?_)
  clear ev7586
  refine WP_istore (ls' := [(0, _), (1, _), (2, _), (3, _), (4, _), (5, _), (6, _), (7, _), (8, _), (9, _)]) dX9_sleep_49 (by decide) rfl ?_
  refine WP_aload_n dX9_sleep_51 rfl ?_
  refine WP_dup dX9_sleep_52 rfl ?_
  refine WQ_getim dX9_sleep_53 fX9_74 rfl (lyx_is hy 56 4 rfl) ew7579 ?_
  refine WP_iload dX9_sleep_56 rfl ?_
  refine WQ_iadd dX9_sleep_58 (by omega) (by omega) (fun v7587 hv7587 => ?_)
  refine WQ_puti dX9_sleep_59 fX9_74 rfl rfl (lyx_is hy 56 4 rfl) (fun I7588 eI7588 => ?_)
  have hI7588 : XI g n L I7588 := by rw [eI7588]; exact (xi_f hy hI (c := 56) (0) (23760) (700000) (by decide) (Or.inl (by decide)) (by decide) (by omega) (by omega))
  have e7589 : I7588 (ad g 1) 1 = L := by rw [eI7588, pp_ne _ _ (Or.inl (lyx_ne hy (by decide) (by decide) (by decide)))]; exact e7577
  have e7590 : I7588 (ad g 56) 1 = v7587 := by rw [eI7588, pp_self]
  clear eI7588
  refine WP_aload_n dX9_sleep_62 rfl ?_
  refine WP_getr dX9_sleep_63 fX9_75 rfl (lyx_is hy 56 4 rfl) (rfx hr 56 5 58 (by decide)) ?_
  refine WP_iload dX9_sleep_66 rfl ?_
  refine WQ_iconst (3) (3) dX9_sleep_68 rfl rfl (fun v7591 hv7591 => ?_)
  refine WQ_iadd dX9_sleep_69 (by omega) (by omega) (fun v7592 hv7592 => ?_)
  refine WP_dup2 dX9_sleep_70 rfl rfl ?_
  refine WQ_ialdu dX9_sleep_71 (lyx_is hy 58 13 rfl) (lyx_n hy 58 28 rfl) (by omega) (by omega) (fun v7593 => ?_)
  refine WP_iload dX9_sleep_72 rfl ?_
  refine WQ_iaddu dX9_sleep_74 (fun v7594 => ?_)
  refine WQ_iast dX9_sleep_75 (lyx_is hy 58 13 rfl) (lyx_n hy 58 28 rfl) (by omega) (by omega) (fun I7595 eI7595 => ?_)
  have hI7595 : XI g n L I7595 := by rw [eI7595]; exact (fa_put hy hI7588 (c := 58) (k := 3) (s := so.toInt.toNat) (by decide) (by omega) (by decide) (by rw [cl (n := 7 * so.toInt.toNat + 3) (by omega)]) (fun h => absurd h (by decide)) (fun h => absurd h (by decide)))
  have e7596 : I7595 (ad g 1) 1 = L := by rw [eI7595, pp_ne _ _ (Or.inl (lyx_ne hy (by decide) (by decide) (by decide)))]; exact e7589
  have e7597 : I7595 (ad g 56) 1 = v7587 := by rw [eI7595, pp_ne _ _ (Or.inl (lyx_ne hy (by decide) (by decide) (by decide)))]; exact e7590
  clear eI7595
  refine WP_aload_n dX9_sleep_76 rfl ?_
  refine WP_getr dX9_sleep_77 fX9_75 rfl (lyx_is hy 56 4 rfl) (rfx hr 56 5 58 (by decide)) ?_
  refine WP_iload dX9_sleep_80 rfl ?_
  refine WQ_iconst (5) (5) dX9_sleep_82 rfl rfl (fun v7598 hv7598 => ?_)
  refine WQ_iadd dX9_sleep_83 (by omega) (by omega) (fun v7599 hv7599 => ?_)
  refine WP_dup2 dX9_sleep_84 rfl rfl ?_
  refine WQ_ialdu dX9_sleep_85 (lyx_is hy 58 13 rfl) (lyx_n hy 58 28 rfl) (by omega) (by omega) (fun v7600 => ?_)
  refine WP_iload dX9_sleep_86 rfl ?_
  refine WP_iload dX9_sleep_88 rfl ?_
  refine WP_iload dX9_sleep_90 rfl ?_
  refine WQ_isub dX9_sleep_92 (by omega) (by omega) (fun v7601 hv7601 => ?_)
  refine WQ_imulu dX9_sleep_93 (fun v7602 => ?_)
  refine WQ_iaddu dX9_sleep_94 (fun v7603 => ?_)
  refine WQ_iast dX9_sleep_95 (lyx_is hy 58 13 rfl) (lyx_n hy 58 28 rfl) (by omega) (by omega) (fun I7604 eI7604 => ?_)
  have hI7604 : XI g n L I7604 := by rw [eI7604]; exact (fa_put hy hI7595 (c := 58) (k := 5) (s := so.toInt.toNat) (by decide) (by omega) (by decide) (by rw [cl (n := 7 * so.toInt.toNat + 5) (by omega)]) (fun h => absurd h (by decide)) (fun h => absurd h (by decide)))
  have e7605 : I7604 (ad g 1) 1 = L := by rw [eI7604, pp_ne _ _ (Or.inl (lyx_ne hy (by decide) (by decide) (by decide)))]; exact e7596
  have e7606 : I7604 (ad g 56) 1 = v7587 := by rw [eI7604, pp_ne _ _ (Or.inl (lyx_ne hy (by decide) (by decide) (by decide)))]; exact e7597
  clear eI7604
  refine WP_aload_n dX9_sleep_96 rfl ?_
  refine WP_getr dX9_sleep_97 fX9_75 rfl (lyx_is hy 56 4 rfl) (rfx hr 56 5 58 (by decide)) ?_
  refine WP_iload dX9_sleep_100 rfl ?_
  refine WQ_iconst (0) (0) dX9_sleep_102 rfl rfl (fun v7607 hv7607 => ?_)
  refine WQ_iadd dX9_sleep_103 (by omega) (by omega) (fun v7608 hv7608 => ?_)
  refine WP_aload_n dX9_sleep_104 rfl ?_
  refine WP_getr dX9_sleep_105 fX9_25 rfl (lyx_is hy 49 9 rfl) (rfx hr 49 2 5 (by decide)) ?_
  refine WP_iload dX9_sleep_108 rfl ?_
  refine WP_iload dX9_sleep_110 rfl ?_
  refine WP_iload_n dX9_sleep_112 rfl ?_
  refine WP_callV3 (k := 0) dX9_sleep_113 ⟨⟨⟨by decide, by decide⟩, zX0_coinsBehind⟩, lX9_137, by decide, rfl, vX0_coinsBehind.1, vX0_coinsBehind.2⟩ (lyx_is hy 5 0 rfl) (sx_coinsBehind hy hr hI7604 co st da (by omega) (by omega) (by omega) (by omega) (by omega) (by omega)) (Nat.le_of_ble_eq_true rfl) ?_
  intro r Ia Ja Ra hq
  obtain ⟨⟨ea, eb, ec⟩, v7609, rfl, av7609, bv7609⟩ := hq
  show WP _ _ _ _ (.int _ :: _) _ _ _ _
  rw [ea, eb, ec]
  clear ea eb ec Ia Ja Ra
  refine WQ_iast dX9_sleep_116 (lyx_is hy 58 13 rfl) (lyx_n hy 58 28 rfl) (by omega) (by omega) (fun I7610 eI7610 => ?_)
  have hI7610 : XI g n L I7610 := by rw [eI7610]; exact (fa_put hy hI7604 (c := 58) (k := 0) (s := so.toInt.toNat) (by decide) (by omega) (by decide) (by rw [cl (n := 7 * so.toInt.toNat + 0) (by omega)]) (fun _ => by omega) (fun _ => by omega))
  have e7611 : I7610 (ad g 1) 1 = L := by rw [eI7610, pp_ne _ _ (Or.inl (lyx_ne hy (by decide) (by decide) (by decide)))]; exact e7605
  have e7612 : I7610 (ad g 56) 1 = v7587 := by rw [eI7610, pp_ne _ _ (Or.inl (lyx_ne hy (by decide) (by decide) (by decide)))]; exact e7606
  clear eI7610
  refine WP_aload_n dX9_sleep_117 rfl ?_
  refine WP_getr dX9_sleep_118 fX9_75 rfl (lyx_is hy 56 4 rfl) (rfx hr 56 5 58 (by decide)) ?_
  refine WP_iload dX9_sleep_121 rfl ?_
  refine WQ_iconst (1) (1) dX9_sleep_123 rfl rfl (fun v7613 hv7613 => ?_)
  refine WQ_iadd dX9_sleep_124 (by omega) (by omega) (fun v7614 hv7614 => ?_)
  refine WP_iload dX9_sleep_125 rfl ?_
  refine WQ_iast dX9_sleep_127 (lyx_is hy 58 13 rfl) (lyx_n hy 58 28 rfl) (by omega) (by omega) (fun I7615 eI7615 => ?_)
  have hI7615 : XI g n L I7615 := by rw [eI7615]; exact (fa_put hy hI7610 (c := 58) (k := 1) (s := so.toInt.toNat) (by decide) (by omega) (by decide) (by rw [cl (n := 7 * so.toInt.toNat + 1) (by omega)]) (fun _ => by omega) (fun _ => by omega))
  have e7616 : I7615 (ad g 1) 1 = L := by rw [eI7615, pp_ne _ _ (Or.inl (lyx_ne hy (by decide) (by decide) (by decide)))]; exact e7611
  have e7617 : I7615 (ad g 56) 1 = v7587 := by rw [eI7615, pp_ne _ _ (Or.inl (lyx_ne hy (by decide) (by decide) (by decide)))]; exact e7612
  clear eI7615
  exact WP_vret dX9_sleep_128 rfl ⟨⟨hI7615, rfl, (by rw [e7617, ew7579]; omega)⟩, rfl⟩
